section
variable {x : RO} {d : Nat} {Q : QT} {I : MI} {J : MJ} {v0 v1 v2 v3 v4 v5 v6 v7 v8 v9 v10 v11 v12 : Option AV} {st : List AV} {a b e : Int} {r q : Nat} {w w2 : Nat ⊕ Nat} {y z : Int64}
variable {i0 i1 i2 i3 i4 i5 i6 i7 i8 i9 : Int} {w0 w1 w3 w4 w5 w6 w7 w8 w9 : Nat ⊕ Nat} {l0 l1 l2 l3 l4 : Int64}
set_option maxRecDepth 10000 in
theorem g_159_0 : GO x d 159 Q 0 [some (.inr (.inr w)), v1, v2, v3, v4, v5, v6] st I J = GO x d 159 Q 1 [some (.inr (.inr w)), v1, v2, v3, v4, v5, v6] (.inr (.inr w) :: st) I J := ge (A := (2, 1, 0, 0, 0)) rfl
set_option maxRecDepth 10000 in
theorem g_159_1 : GO x d 159 Q 1 [v0, v1, v2, v3, v4, v5, v6] [.inr (.inr (.inl r))] I J = (okO r 10 ∧ EX x d 110 [.inr (.inr (.inl r))] I J (fun r1 I1 J1 => GO x d 159 Q 4 [v0, v1, v2, v3, v4, v5, v6] (r1.toList ++ []) I1 J1)) := (ge (A := (53, 4, 110, 0, 0)) rfl).trans (gtrue (Nat.le_of_ble_eq_true rfl))
set_option maxRecDepth 10000 in
theorem g_159_4 : GO x d 159 Q 4 [v0, v1, v2, v3, v4, v5, v6] (.inl a :: st) I J = (inR a ∧ if a = 0 then GO x d 159 Q 7 [v0, v1, v2, v3, v4, v5, v6] st I J else GO x d 159 Q 10 [v0, v1, v2, v3, v4, v5, v6] st I J) := (ge (A := (33, 7, 10, 1, 0)) rfl).trans (gifn (p := a = 0) inferInstance)
set_option maxRecDepth 10000 in
theorem g_159_7 : GO x d 159 Q 7 [v0, v1, v2, v3, v4, v5, v6] st I J = GO x d 159 Q 9 [v0, v1, v2, v3, v4, v5, v6] (.inl (-1000002) :: st) I J := ge (A := (0, 9, 0, 0, -1000002)) rfl
set_option maxRecDepth 10000 in
theorem g_159_9 : GO x d 159 Q 9 [v0, v1, v2, v3, v4, v5, v6] [.inl a] I J = Q (some (.inl a)) I J := ge (A := (55, 10, 0, 0, 0)) rfl
set_option maxRecDepth 10000 in
theorem g_159_10 : GO x d 159 Q 10 [v0, some (.inl a), v2, v3, v4, v5, v6] st I J = GO x d 159 Q 11 [v0, some (.inl a), v2, v3, v4, v5, v6] (.inl a :: st) I J := ge (A := (1, 11, 1, 0, 0)) rfl
set_option maxRecDepth 10000 in
theorem g_159_11 : GO x d 159 Q 11 [v0, v1, v2, v3, v4, v5, v6] st I J = GO x d 159 Q 12 [v0, v1, v2, v3, v4, v5, v6] (.inl (0) :: st) I J := ge (A := (0, 12, 0, 0, 0)) rfl
set_option maxRecDepth 10000 in
theorem g_159_12 : GO x d 159 Q 12 [v0, v1, v2, v3, v4, v5, v6] st I J = GO x d 159 Q 13 [v0, v1, v2, v3, v4, v5, v6] (.inl (1) :: st) I J := ge (A := (0, 13, 0, 0, 1)) rfl
set_option maxRecDepth 10000 in
theorem g_159_13 : GO x d 159 Q 13 [some (.inr (.inr w)), v1, v2, v3, v4, v5, v6] st I J = GO x d 159 Q 14 [some (.inr (.inr w)), v1, v2, v3, v4, v5, v6] (.inr (.inr w) :: st) I J := ge (A := (2, 14, 0, 0, 0)) rfl
set_option maxRecDepth 10000 in
theorem g_159_14 : GO x d 159 Q 14 [v0, v1, v2, v3, v4, v5, v6] (.inr (.inr (.inl r)) :: st) I J = (okF r 10 2 ∧ GO x d 159 Q 17 [v0, v1, v2, v3, v4, v5, v6] (.inr (.inr (.inl (rfN r 2))) :: st) I J) := (ge (A := (39, 17, 10, 2, 0)) rfl).trans (gref (f := fun q => GO x d 159 Q 17 [v0, v1, v2, v3, v4, v5, v6] (.inr (.inr (.inl q)) :: st) I J))
set_option maxRecDepth 10000 in
theorem g_159_17 : GO x d 159 Q 17 [v0, v1, v2, v3, v4, v5, v6] st I J = GO x d 159 Q 18 [v0, v1, v2, v3, v4, v5, v6] (.inl (2) :: st) I J := ge (A := (0, 18, 0, 0, 2)) rfl
set_option maxRecDepth 10000 in
theorem h_159_18 : GO x d 159 Q 18 [v0, v1, v2, v3, v4, v5, v6] (.inl a :: .inr (.inr (.inr q)) :: st) I J = (q < 4 ∧ 0 ≤ a ∧ a < (roA x q).1 ∧ GO x d 159 Q 19 [v0, v1, v2, v3, v4, v5, v6] (.inl ((roA x q).2 a.toNat) :: st) I J) := ge (A := (44, 19, 0, 0, 0)) rfl
set_option maxRecDepth 10000 in
theorem g_159_18 : GO x d 159 Q 18 [v0, v1, v2, v3, v4, v5, v6] (.inl a :: .inr (.inr (.inl r)) :: st) I J = (okA r 20 ∧ 0 ≤ a ∧ a < lnN r ∧ GO x d 159 Q 19 [v0, v1, v2, v3, v4, v5, v6] (.inl (I r a) :: st) I J) := ge (A := (44, 19, 0, 0, 0)) rfl
set_option maxRecDepth 10000 in
theorem g_159_19 : GO x d 159 Q 19 [v0, v1, v2, v3, v4, v5, v6] (.inl b :: .inl a :: st) I J = GO x d 159 Q 20 [v0, v1, v2, v3, v4, v5, v6] (.inl (shlI a b) :: st) I J := ge (A := (14, 20, 0, 0, 0)) rfl
set_option maxRecDepth 10000 in
theorem g_159_20 : GO x d 159 Q 20 [v0, v1, v2, v3, v4, v5, v6] st I J = GO x d 159 Q 21 [v0, v1, v2, v3, v4, v5, v6] (.inl (1) :: st) I J := ge (A := (0, 21, 0, 0, 1)) rfl
set_option maxRecDepth 10000 in
theorem g_159_21 : GO x d 159 Q 21 [v0, v1, v2, v3, v4, v5, v6] (.inl b :: .inl a :: st) I J = GO x d 159 Q 22 [v0, v1, v2, v3, v4, v5, v6] (.inl (a - b) :: st) I J := ge (A := (9, 22, 0, 0, 0)) rfl
set_option maxRecDepth 10000 in
theorem g_159_22 : GO x d 159 Q 22 [v0, v1, v2, v3, v4, v5, v6] [.inl i0, .inl i1, .inl i2] I J = EX x d 109 [.inl i2, .inl i1, .inl i0] I J (fun r1 I1 J1 => GO x d 159 Q 25 [v0, v1, v2, v3, v4, v5, v6] (r1.toList ++ []) I1 J1) := (ge (A := (52, 25, 109, 3, 0)) rfl).trans (gtrue2 (Nat.le_of_ble_eq_true rfl) (Nat.le_of_ble_eq_true rfl))
set_option maxRecDepth 10000 in
theorem g_159_25 : GO x d 159 Q 25 [v0, v1, v2, v3, v4, v5, v6] (.inl a :: st) I J = (inR a ∧ if a = 0 then GO x d 159 Q 37 [v0, v1, v2, v3, v4, v5, v6] st I J else GO x d 159 Q 28 [v0, v1, v2, v3, v4, v5, v6] st I J) := (ge (A := (33, 28, 37, 0, 0)) rfl).trans (gif (p := a = 0) inferInstance)
set_option maxRecDepth 10000 in
theorem g_159_28 : GO x d 159 Q 28 [v0, v1, some (.inl a), v3, v4, v5, v6] st I J = GO x d 159 Q 29 [v0, v1, some (.inl a), v3, v4, v5, v6] (.inl a :: st) I J := ge (A := (1, 29, 2, 0, 0)) rfl
set_option maxRecDepth 10000 in
theorem g_159_29 : GO x d 159 Q 29 [v0, v1, v2, v3, v4, v5, v6] st I J = GO x d 159 Q 30 [v0, v1, v2, v3, v4, v5, v6] (.inl (0) :: st) I J := ge (A := (0, 30, 0, 0, 0)) rfl
set_option maxRecDepth 10000 in
theorem g_159_30 : GO x d 159 Q 30 [v0, v1, v2, v3, v4, v5, v6] st I J = GO x d 159 Q 31 [v0, v1, v2, v3, v4, v5, v6] (.inl (1) :: st) I J := ge (A := (0, 31, 0, 0, 1)) rfl
set_option maxRecDepth 10000 in
theorem g_159_31 : GO x d 159 Q 31 [v0, v1, v2, v3, v4, v5, v6] [.inl i0, .inl i1, .inl i2] I J = EX x d 109 [.inl i2, .inl i1, .inl i0] I J (fun r1 I1 J1 => GO x d 159 Q 34 [v0, v1, v2, v3, v4, v5, v6] (r1.toList ++ []) I1 J1) := (ge (A := (52, 34, 109, 3, 0)) rfl).trans (gtrue2 (Nat.le_of_ble_eq_true rfl) (Nat.le_of_ble_eq_true rfl))
set_option maxRecDepth 10000 in
theorem g_159_34 : GO x d 159 Q 34 [v0, v1, v2, v3, v4, v5, v6] (.inl a :: st) I J = (inR a ∧ if a = 0 then GO x d 159 Q 37 [v0, v1, v2, v3, v4, v5, v6] st I J else GO x d 159 Q 40 [v0, v1, v2, v3, v4, v5, v6] st I J) := (ge (A := (33, 37, 40, 1, 0)) rfl).trans (gifn (p := a = 0) inferInstance)
set_option maxRecDepth 10000 in
theorem g_159_37 : GO x d 159 Q 37 [v0, v1, v2, v3, v4, v5, v6] st I J = GO x d 159 Q 39 [v0, v1, v2, v3, v4, v5, v6] (.inl (-1000001) :: st) I J := ge (A := (0, 39, 0, 0, -1000001)) rfl
set_option maxRecDepth 10000 in
theorem g_159_39 : GO x d 159 Q 39 [v0, v1, v2, v3, v4, v5, v6] [.inl a] I J = Q (some (.inl a)) I J := ge (A := (55, 40, 0, 0, 0)) rfl
set_option maxRecDepth 10000 in
theorem g_159_40 : GO x d 159 Q 40 [v0, v1, v2, v3, v4, v5, v6] st I J = GO x d 159 Q 41 [v0, v1, v2, v3, v4, v5, v6] (.inl (1) :: st) I J := ge (A := (0, 41, 0, 0, 1)) rfl
set_option maxRecDepth 10000 in
theorem g_159_41 : GO x d 159 Q 41 [some (.inr (.inr w)), v1, v2, v3, v4, v5, v6] st I J = GO x d 159 Q 42 [some (.inr (.inr w)), v1, v2, v3, v4, v5, v6] (.inr (.inr w) :: st) I J := ge (A := (2, 42, 0, 0, 0)) rfl
set_option maxRecDepth 10000 in
theorem g_159_42 : GO x d 159 Q 42 [v0, v1, v2, v3, v4, v5, v6] (.inr (.inr (.inl r)) :: st) I J = (okF r 10 2 ∧ GO x d 159 Q 45 [v0, v1, v2, v3, v4, v5, v6] (.inr (.inr (.inl (rfN r 2))) :: st) I J) := (ge (A := (39, 45, 10, 2, 0)) rfl).trans (gref (f := fun q => GO x d 159 Q 45 [v0, v1, v2, v3, v4, v5, v6] (.inr (.inr (.inl q)) :: st) I J))
set_option maxRecDepth 10000 in
theorem g_159_45 : GO x d 159 Q 45 [v0, v1, v2, v3, v4, v5, v6] st I J = GO x d 159 Q 46 [v0, v1, v2, v3, v4, v5, v6] (.inl (1) :: st) I J := ge (A := (0, 46, 0, 0, 1)) rfl
set_option maxRecDepth 10000 in
theorem h_159_46 : GO x d 159 Q 46 [v0, v1, v2, v3, v4, v5, v6] (.inl a :: .inr (.inr (.inr q)) :: st) I J = (q < 4 ∧ 0 ≤ a ∧ a < (roA x q).1 ∧ GO x d 159 Q 47 [v0, v1, v2, v3, v4, v5, v6] (.inl ((roA x q).2 a.toNat) :: st) I J) := ge (A := (44, 47, 0, 0, 0)) rfl
set_option maxRecDepth 10000 in
theorem g_159_46 : GO x d 159 Q 46 [v0, v1, v2, v3, v4, v5, v6] (.inl a :: .inr (.inr (.inl r)) :: st) I J = (okA r 20 ∧ 0 ≤ a ∧ a < lnN r ∧ GO x d 159 Q 47 [v0, v1, v2, v3, v4, v5, v6] (.inl (I r a) :: st) I J) := ge (A := (44, 47, 0, 0, 0)) rfl
set_option maxRecDepth 10000 in
theorem g_159_47 : GO x d 159 Q 47 [v0, v1, v2, v3, v4, v5, v6] (.inl b :: .inl a :: st) I J = GO x d 159 Q 48 [v0, v1, v2, v3, v4, v5, v6] (.inl (shlI a b) :: st) I J := ge (A := (14, 48, 0, 0, 0)) rfl
set_option maxRecDepth 10000 in
theorem g_159_48 : GO x d 159 Q 48 [v0, v1, v2, v3, v4, v5, v6] st I J = GO x d 159 Q 49 [v0, v1, v2, v3, v4, v5, v6] (.inl (1) :: st) I J := ge (A := (0, 49, 0, 0, 1)) rfl
set_option maxRecDepth 10000 in
theorem g_159_49 : GO x d 159 Q 49 [v0, v1, v2, v3, v4, v5, v6] (.inl b :: .inl a :: st) I J = GO x d 159 Q 50 [v0, v1, v2, v3, v4, v5, v6] (.inl (a - b) :: st) I J := ge (A := (9, 50, 0, 0, 0)) rfl
set_option maxRecDepth 10000 in
theorem g_159_50 : GO x d 159 Q 50 [v0, v1, v2, v3, v4, v5, v6] (.inl a :: st) I J = (nlO (some v2) = true ∧ GO x d 159 Q 51 [v0, v1, v2, some (.inl a), v4, v5, v6] st I J) := (ge (A := (4, 51, 3, 0, 0)) rfl).trans (gst (Nat.le_of_ble_eq_true rfl) _)
set_option maxRecDepth 10000 in
theorem g_159_51 : GO x d 159 Q 51 [v0, v1, v2, some (.inl a), v4, v5, v6] st I J = GO x d 159 Q 52 [v0, v1, v2, some (.inl a), v4, v5, v6] (.inl a :: st) I J := ge (A := (1, 52, 3, 0, 0)) rfl
set_option maxRecDepth 10000 in
theorem g_159_52 : GO x d 159 Q 52 [v0, v1, v2, v3, v4, v5, v6] (.inl a :: st) I J = (nlO (some v3) = true ∧ GO x d 159 Q 54 [v0, v1, v2, v3, some (.inl a), v5, v6] st I J) := (ge (A := (4, 54, 4, 0, 0)) rfl).trans (gst (Nat.le_of_ble_eq_true rfl) _)
set_option maxRecDepth 10000 in
theorem g_159_54 : GO x d 159 Q 54 [v0, v1, v2, v3, some (.inl a), v5, v6] st I J = GO x d 159 Q 56 [v0, v1, v2, v3, some (.inl a), v5, v6] (.inl a :: st) I J := ge (A := (1, 56, 4, 0, 0)) rfl
set_option maxRecDepth 10000 in
theorem g_159_56 : GO x d 159 Q 56 [v0, v1, v2, v3, v4, v5, v6] (.inl a :: st) I J = (inR a ∧ if a < 0 then GO x d 159 Q 153 [v0, v1, v2, v3, v4, v5, v6] st I J else GO x d 159 Q 59 [v0, v1, v2, v3, v4, v5, v6] st I J) := (ge (A := (33, 59, 153, 2, 0)) rfl).trans (gif (p := a < 0) inferInstance)
set_option maxRecDepth 10000 in
theorem g_159_59 : GO x d 159 Q 59 [v0, v1, v2, v3, some (.inl a), v5, v6] st I J = GO x d 159 Q 61 [v0, v1, v2, v3, some (.inl a), v5, v6] (.inl a :: st) I J := ge (A := (1, 61, 4, 0, 0)) rfl
set_option maxRecDepth 10000 in
theorem g_159_61 : GO x d 159 Q 61 [v0, v1, v2, v3, v4, v5, v6] [.inl i0] I J = EX x d 158 [.inl i0] I J (fun r1 I1 J1 => GO x d 159 Q 64 [v0, v1, v2, v3, v4, v5, v6] (r1.toList ++ []) I1 J1) := (ge (A := (52, 64, 158, 1, 0)) rfl).trans (gtrue2 (Nat.le_of_ble_eq_true rfl) (Nat.le_of_ble_eq_true rfl))
set_option maxRecDepth 10000 in
theorem g_159_64 : GO x d 159 Q 64 [v0, v1, v2, some (.inl a), v4, v5, v6] st I J = GO x d 159 Q 65 [v0, v1, v2, some (.inl a), v4, v5, v6] (.inl a :: st) I J := ge (A := (1, 65, 3, 0, 0)) rfl
set_option maxRecDepth 10000 in
theorem g_159_65 : GO x d 159 Q 65 [v0, v1, v2, v3, v4, v5, v6] [.inl i0, .inl i1] I J = EX x d 158 [.inl i0] I J (fun r1 I1 J1 => GO x d 159 Q 68 [v0, v1, v2, v3, v4, v5, v6] (r1.toList ++ [.inl i1]) I1 J1) := (ge (A := (52, 68, 158, 1, 0)) rfl).trans (gtrue2 (Nat.le_of_ble_eq_true rfl) (Nat.le_of_ble_eq_true rfl))
set_option maxRecDepth 10000 in
theorem g_159_68 : GO x d 159 Q 68 [v0, v1, v2, v3, v4, v5, v6] (.inl b :: .inl a :: st) I J = (inR a ∧ inR b ∧ if b < a then GO x d 159 Q 75 [v0, v1, v2, v3, v4, v5, v6] st I J else GO x d 159 Q 71 [v0, v1, v2, v3, v4, v5, v6] st I J) := (ge (A := (34, 71, 75, 4, 0)) rfl).trans (gic (p := b < a) inferInstance)
set_option maxRecDepth 10000 in
theorem g_159_71 : GO x d 159 Q 71 [v0, v1, v2, v3, v4, v5, v6] st I J = GO x d 159 Q 72 [v0, v1, v2, v3, v4, v5, v6] (.inl (1) :: st) I J := ge (A := (0, 72, 0, 0, 1)) rfl
set_option maxRecDepth 10000 in
theorem g_159_72 : GO x d 159 Q 72 [v0, v1, v2, v3, v4, v5, v6] st I J = GO x d 159 Q 76 [v0, v1, v2, v3, v4, v5, v6] st I J := ge (A := (35, 75, 76, 0, 0)) rfl
set_option maxRecDepth 10000 in
theorem g_159_75 : GO x d 159 Q 75 [v0, v1, v2, v3, v4, v5, v6] st I J = GO x d 159 Q 76 [v0, v1, v2, v3, v4, v5, v6] (.inl (0) :: st) I J := ge (A := (0, 76, 0, 0, 0)) rfl
set_option maxRecDepth 10000 in
theorem g_159_76 : GO x d 159 Q 76 [v0, v1, v2, v3, v4, v5, v6] (.inl a :: st) I J = (nlO (some v4) = true ∧ GO x d 159 Q 78 [v0, v1, v2, v3, v4, some (.inl a), v6] st I J) := (ge (A := (4, 78, 5, 0, 0)) rfl).trans (gst (Nat.le_of_ble_eq_true rfl) _)
set_option maxRecDepth 10000 in
theorem g_159_78 : GO x d 159 Q 78 [v0, v1, v2, v3, v4, v5, v6] st I J = GO x d 159 Q 79 [v0, v1, v2, v3, v4, v5, v6] (.inl (0) :: st) I J := ge (A := (0, 79, 0, 0, 0)) rfl
set_option maxRecDepth 10000 in
theorem g_159_79 : GO x d 159 Q 79 [v0, v1, v2, v3, v4, v5, v6] (.inl a :: st) I J = (nlO (some v5) = true ∧ GO x d 159 Q 81 [v0, v1, v2, v3, v4, v5, some (.inl a)] st I J) := (ge (A := (4, 81, 6, 0, 0)) rfl).trans (gst (Nat.le_of_ble_eq_true rfl) _)
set_option maxRecDepth 10000 in
theorem g_159_81 : GO x d 159 Q 81 [v0, v1, v2, v3, v4, v5, some (.inl a)] st I J = GO x d 159 Q 83 [v0, v1, v2, v3, v4, v5, some (.inl a)] (.inl a :: st) I J := ge (A := (1, 83, 6, 0, 0)) rfl
set_option maxRecDepth 10000 in
theorem g_159_83 : GO x d 159 Q 83 [some (.inr (.inr w)), v1, v2, v3, v4, v5, v6] st I J = GO x d 159 Q 84 [some (.inr (.inr w)), v1, v2, v3, v4, v5, v6] (.inr (.inr w) :: st) I J := ge (A := (2, 84, 0, 0, 0)) rfl
set_option maxRecDepth 10000 in
theorem g_159_84 : GO x d 159 Q 84 [v0, v1, v2, v3, v4, v5, v6] (.inr (.inr (.inl r)) :: st) I J = (okF r 10 2 ∧ GO x d 159 Q 87 [v0, v1, v2, v3, v4, v5, v6] (.inr (.inr (.inl (rfN r 2))) :: st) I J) := (ge (A := (39, 87, 10, 2, 0)) rfl).trans (gref (f := fun q => GO x d 159 Q 87 [v0, v1, v2, v3, v4, v5, v6] (.inr (.inr (.inl q)) :: st) I J))
set_option maxRecDepth 10000 in
theorem g_159_87 : GO x d 159 Q 87 [v0, v1, v2, v3, v4, v5, v6] st I J = GO x d 159 Q 88 [v0, v1, v2, v3, v4, v5, v6] (.inl (2) :: st) I J := ge (A := (0, 88, 0, 0, 2)) rfl
set_option maxRecDepth 10000 in
theorem h_159_88 : GO x d 159 Q 88 [v0, v1, v2, v3, v4, v5, v6] (.inl a :: .inr (.inr (.inr q)) :: st) I J = (q < 4 ∧ 0 ≤ a ∧ a < (roA x q).1 ∧ GO x d 159 Q 89 [v0, v1, v2, v3, v4, v5, v6] (.inl ((roA x q).2 a.toNat) :: st) I J) := ge (A := (44, 89, 0, 0, 0)) rfl
set_option maxRecDepth 10000 in
theorem g_159_88 : GO x d 159 Q 88 [v0, v1, v2, v3, v4, v5, v6] (.inl a :: .inr (.inr (.inl r)) :: st) I J = (okA r 20 ∧ 0 ≤ a ∧ a < lnN r ∧ GO x d 159 Q 89 [v0, v1, v2, v3, v4, v5, v6] (.inl (I r a) :: st) I J) := ge (A := (44, 89, 0, 0, 0)) rfl
set_option maxRecDepth 10000 in
theorem g_159_89 : GO x d 159 Q 89 [v0, v1, v2, v3, v4, v5, v6] (.inl b :: .inl a :: st) I J = (inR a ∧ inR b ∧ if a < b then GO x d 159 Q 92 [v0, v1, v2, v3, v4, v5, v6] st I J else GO x d 159 Q 135 [v0, v1, v2, v3, v4, v5, v6] st I J) := (ge (A := (34, 92, 135, 3, 0)) rfl).trans (ggec)
set_option maxRecDepth 10000 in
theorem g_159_92 : GO x d 159 Q 92 [v0, v1, v2, v3, v4, some (.inl a), v6] st I J = GO x d 159 Q 94 [v0, v1, v2, v3, v4, some (.inl a), v6] (.inl a :: st) I J := ge (A := (1, 94, 5, 0, 0)) rfl
set_option maxRecDepth 10000 in
theorem g_159_94 : GO x d 159 Q 94 [v0, v1, v2, v3, v4, v5, v6] (.inl a :: st) I J = (inR a ∧ if a = 0 then GO x d 159 Q 126 [v0, v1, v2, v3, v4, v5, v6] st I J else GO x d 159 Q 97 [v0, v1, v2, v3, v4, v5, v6] st I J) := (ge (A := (33, 97, 126, 0, 0)) rfl).trans (gif (p := a = 0) inferInstance)
set_option maxRecDepth 10000 in
theorem g_159_97 : GO x d 159 Q 97 [v0, some (.inl a), v2, v3, v4, v5, v6] st I J = GO x d 159 Q 98 [v0, some (.inl a), v2, v3, v4, v5, v6] (.inl a :: st) I J := ge (A := (1, 98, 1, 0, 0)) rfl
set_option maxRecDepth 10000 in
theorem g_159_98 : GO x d 159 Q 98 [v0, v1, v2, v3, v4, v5, some (.inl a)] st I J = GO x d 159 Q 100 [v0, v1, v2, v3, v4, v5, some (.inl a)] (.inl a :: st) I J := ge (A := (1, 100, 6, 0, 0)) rfl
set_option maxRecDepth 10000 in
theorem g_159_100 : GO x d 159 Q 100 [v0, v1, v2, v3, v4, v5, v6] (.inl b :: .inl a :: st) I J = GO x d 159 Q 101 [v0, v1, v2, v3, v4, v5, v6] (.inl (shrI a b) :: st) I J := ge (A := (15, 101, 0, 0, 0)) rfl
set_option maxRecDepth 10000 in
theorem g_159_101 : GO x d 159 Q 101 [v0, v1, v2, v3, v4, v5, v6] st I J = GO x d 159 Q 102 [v0, v1, v2, v3, v4, v5, v6] (.inl (1) :: st) I J := ge (A := (0, 102, 0, 0, 1)) rfl
set_option maxRecDepth 10000 in
theorem g_159_102 : GO x d 159 Q 102 [v0, v1, v2, v3, v4, v5, v6] (.inl b :: .inl a :: st) I J = GO x d 159 Q 103 [v0, v1, v2, v3, v4, v5, v6] (.inl (andI a b) :: st) I J := ge (A := (11, 103, 0, 0, 0)) rfl
set_option maxRecDepth 10000 in
theorem g_159_103 : GO x d 159 Q 103 [v0, v1, v2, v3, v4, v5, v6] (.inl a :: st) I J = (inR a ∧ if a = 0 then GO x d 159 Q 122 [v0, v1, v2, v3, v4, v5, v6] st I J else GO x d 159 Q 106 [v0, v1, v2, v3, v4, v5, v6] st I J) := (ge (A := (33, 106, 122, 0, 0)) rfl).trans (gif (p := a = 0) inferInstance)
set_option maxRecDepth 10000 in
theorem g_159_106 : GO x d 159 Q 106 [some (.inr (.inr w)), v1, v2, v3, v4, v5, v6] st I J = GO x d 159 Q 107 [some (.inr (.inr w)), v1, v2, v3, v4, v5, v6] (.inr (.inr w) :: st) I J := ge (A := (2, 107, 0, 0, 0)) rfl
set_option maxRecDepth 10000 in
theorem g_159_107 : GO x d 159 Q 107 [v0, v1, v2, v3, v4, v5, v6] (.inr (.inr (.inl r)) :: st) I J = (okF r 10 2 ∧ GO x d 159 Q 110 [v0, v1, v2, v3, v4, v5, v6] (.inr (.inr (.inl (rfN r 2))) :: st) I J) := (ge (A := (39, 110, 10, 2, 0)) rfl).trans (gref (f := fun q => GO x d 159 Q 110 [v0, v1, v2, v3, v4, v5, v6] (.inr (.inr (.inl q)) :: st) I J))
set_option maxRecDepth 10000 in
theorem g_159_110 : GO x d 159 Q 110 [v0, v1, v2, v3, v4, v5, v6] st I J = GO x d 159 Q 112 [v0, v1, v2, v3, v4, v5, v6] (.inl (24) :: st) I J := ge (A := (0, 112, 0, 0, 24)) rfl
set_option maxRecDepth 10000 in
theorem g_159_112 : GO x d 159 Q 112 [v0, v1, v2, v3, v4, v5, some (.inl a)] st I J = GO x d 159 Q 114 [v0, v1, v2, v3, v4, v5, some (.inl a)] (.inl a :: st) I J := ge (A := (1, 114, 6, 0, 0)) rfl
set_option maxRecDepth 10000 in
theorem g_159_114 : GO x d 159 Q 114 [v0, v1, v2, v3, v4, v5, v6] (.inl b :: .inl a :: st) I J = GO x d 159 Q 115 [v0, v1, v2, v3, v4, v5, v6] (.inl (a + b) :: st) I J := ge (A := (8, 115, 0, 0, 0)) rfl
set_option maxRecDepth 10000 in
theorem h_159_115 : GO x d 159 Q 115 [v0, v1, v2, v3, v4, v5, v6] (.inl a :: .inr (.inr (.inr q)) :: st) I J = (q < 4 ∧ 0 ≤ a ∧ a < (roA x q).1 ∧ GO x d 159 Q 116 [v0, v1, v2, v3, v4, v5, v6] (.inl ((roA x q).2 a.toNat) :: st) I J) := ge (A := (44, 116, 0, 0, 0)) rfl
set_option maxRecDepth 10000 in
theorem g_159_115 : GO x d 159 Q 115 [v0, v1, v2, v3, v4, v5, v6] (.inl a :: .inr (.inr (.inl r)) :: st) I J = (okA r 20 ∧ 0 ≤ a ∧ a < lnN r ∧ GO x d 159 Q 116 [v0, v1, v2, v3, v4, v5, v6] (.inl (I r a) :: st) I J) := ge (A := (44, 116, 0, 0, 0)) rfl
set_option maxRecDepth 10000 in
theorem g_159_116 : GO x d 159 Q 116 [v0, v1, v2, v3, some (.inl a), v5, v6] st I J = GO x d 159 Q 118 [v0, v1, v2, v3, some (.inl a), v5, v6] (.inl a :: st) I J := ge (A := (1, 118, 4, 0, 0)) rfl
set_option maxRecDepth 10000 in
theorem g_159_118 : GO x d 159 Q 118 [v0, v1, v2, v3, v4, v5, v6] (.inl b :: .inl a :: st) I J = GO x d 159 Q 119 [v0, v1, v2, v3, v4, v5, v6] (.inl (andI a b) :: st) I J := ge (A := (11, 119, 0, 0, 0)) rfl
set_option maxRecDepth 10000 in
theorem g_159_119 : GO x d 159 Q 119 [v0, v1, v2, v3, v4, v5, v6] (.inl a :: st) I J = (inR a ∧ if a = 0 then GO x d 159 Q 126 [v0, v1, v2, v3, v4, v5, v6] st I J else GO x d 159 Q 122 [v0, v1, v2, v3, v4, v5, v6] st I J) := (ge (A := (33, 122, 126, 0, 0)) rfl).trans (gif (p := a = 0) inferInstance)
set_option maxRecDepth 10000 in
theorem g_159_122 : GO x d 159 Q 122 [v0, v1, v2, v3, v4, v5, v6] st I J = GO x d 159 Q 123 [v0, v1, v2, v3, v4, v5, v6] (.inl (1) :: st) I J := ge (A := (0, 123, 0, 0, 1)) rfl
set_option maxRecDepth 10000 in
theorem g_159_123 : GO x d 159 Q 123 [v0, v1, v2, v3, v4, v5, v6] st I J = GO x d 159 Q 127 [v0, v1, v2, v3, v4, v5, v6] st I J := ge (A := (35, 126, 127, 0, 0)) rfl
set_option maxRecDepth 10000 in
theorem g_159_126 : GO x d 159 Q 126 [v0, v1, v2, v3, v4, v5, v6] st I J = GO x d 159 Q 127 [v0, v1, v2, v3, v4, v5, v6] (.inl (0) :: st) I J := ge (A := (0, 127, 0, 0, 0)) rfl
set_option maxRecDepth 10000 in
theorem g_159_127 : GO x d 159 Q 127 [v0, v1, v2, v3, v4, v5, v6] (.inl a :: st) I J = (nlO (some v4) = true ∧ GO x d 159 Q 129 [v0, v1, v2, v3, v4, some (.inl a), v6] st I J) := (ge (A := (4, 129, 5, 0, 0)) rfl).trans (gst (Nat.le_of_ble_eq_true rfl) _)
set_option maxRecDepth 10000 in
theorem g_159_129 : GO x d 159 Q 129 [v0, v1, v2, v3, v4, v5, some (.inl a)] st I J = (nlO (some v5) = true ∧ GO x d 159 Q 132 [v0, v1, v2, v3, v4, v5, some (.inl (a + (1)))] st I J) := ge (A := (7, 132, 6, 0, 1)) rfl
set_option maxRecDepth 10000 in
theorem g_159_132 : GO x d 159 Q 132 [v0, v1, v2, v3, v4, v5, v6] st I J = GO x d 159 Q 81 [v0, v1, v2, v3, v4, v5, v6] st I J := ge (A := (35, 135, 81, 0, 0)) rfl
set_option maxRecDepth 10000 in
theorem g_159_135 : GO x d 159 Q 135 [v0, v1, v2, v3, v4, some (.inl a), v6] st I J = GO x d 159 Q 137 [v0, v1, v2, v3, v4, some (.inl a), v6] (.inl a :: st) I J := ge (A := (1, 137, 5, 0, 0)) rfl
set_option maxRecDepth 10000 in
theorem g_159_137 : GO x d 159 Q 137 [v0, v1, v2, v3, v4, v5, v6] (.inl a :: st) I J = (inR a ∧ if a = 0 then GO x d 159 Q 145 [v0, v1, v2, v3, v4, v5, v6] st I J else GO x d 159 Q 140 [v0, v1, v2, v3, v4, v5, v6] st I J) := (ge (A := (33, 140, 145, 0, 0)) rfl).trans (gif (p := a = 0) inferInstance)
set_option maxRecDepth 10000 in
theorem g_159_140 : GO x d 159 Q 140 [v0, v1, v2, v3, some (.inl a), v5, v6] st I J = GO x d 159 Q 142 [v0, v1, v2, v3, some (.inl a), v5, v6] (.inl a :: st) I J := ge (A := (1, 142, 4, 0, 0)) rfl
set_option maxRecDepth 10000 in
theorem g_159_142 : GO x d 159 Q 142 [v0, v1, v2, v3, v4, v5, v6] st I J = GO x d 159 Q 146 [v0, v1, v2, v3, v4, v5, v6] st I J := ge (A := (35, 145, 146, 0, 0)) rfl
set_option maxRecDepth 10000 in
theorem g_159_145 : GO x d 159 Q 145 [v0, v1, v2, some (.inl a), v4, v5, v6] st I J = GO x d 159 Q 146 [v0, v1, v2, some (.inl a), v4, v5, v6] (.inl a :: st) I J := ge (A := (1, 146, 3, 0, 0)) rfl
set_option maxRecDepth 10000 in
theorem g_159_146 : GO x d 159 Q 146 [v0, v1, v2, v3, v4, v5, v6] (.inl a :: st) I J = (nlO (some v2) = true ∧ GO x d 159 Q 147 [v0, v1, v2, some (.inl a), v4, v5, v6] st I J) := (ge (A := (4, 147, 3, 0, 0)) rfl).trans (gst (Nat.le_of_ble_eq_true rfl) _)
set_option maxRecDepth 10000 in
theorem g_159_147 : GO x d 159 Q 147 [v0, v1, v2, v3, some (.inl a), v5, v6] st I J = (nlO (some v3) = true ∧ GO x d 159 Q 150 [v0, v1, v2, v3, some (.inl (a + (-1))), v5, v6] st I J) := ge (A := (7, 150, 4, 0, -1)) rfl
set_option maxRecDepth 10000 in
theorem g_159_150 : GO x d 159 Q 150 [v0, v1, v2, v3, v4, v5, v6] st I J = GO x d 159 Q 54 [v0, v1, v2, v3, v4, v5, v6] st I J := ge (A := (35, 153, 54, 0, 0)) rfl
set_option maxRecDepth 10000 in
theorem g_159_153 : GO x d 159 Q 153 [v0, v1, some (.inl a), v3, v4, v5, v6] st I J = GO x d 159 Q 154 [v0, v1, some (.inl a), v3, v4, v5, v6] (.inl a :: st) I J := ge (A := (1, 154, 2, 0, 0)) rfl
set_option maxRecDepth 10000 in
theorem g_159_154 : GO x d 159 Q 154 [v0, v1, v2, v3, v4, v5, v6] (.inl a :: st) I J = (inR a ∧ if a = 0 then GO x d 159 Q 157 [v0, v1, v2, v3, v4, v5, v6] st I J else GO x d 159 Q 164 [v0, v1, v2, v3, v4, v5, v6] st I J) := (ge (A := (33, 157, 164, 1, 0)) rfl).trans (gifn (p := a = 0) inferInstance)
set_option maxRecDepth 10000 in
theorem g_159_157 : GO x d 159 Q 157 [v0, v1, v2, some (.inl a), v4, v5, v6] st I J = GO x d 159 Q 158 [v0, v1, v2, some (.inl a), v4, v5, v6] (.inl a :: st) I J := ge (A := (1, 158, 3, 0, 0)) rfl
set_option maxRecDepth 10000 in
theorem g_159_158 : GO x d 159 Q 158 [v0, v1, v2, v3, v4, v5, v6] [.inl i0] I J = EX x d 158 [.inl i0] I J (fun r1 I1 J1 => GO x d 159 Q 161 [v0, v1, v2, v3, v4, v5, v6] (r1.toList ++ []) I1 J1) := (ge (A := (52, 161, 158, 1, 0)) rfl).trans (gtrue2 (Nat.le_of_ble_eq_true rfl) (Nat.le_of_ble_eq_true rfl))
set_option maxRecDepth 10000 in
theorem g_159_161 : GO x d 159 Q 161 [v0, v1, v2, v3, v4, v5, v6] st I J = GO x d 159 Q 165 [v0, v1, v2, v3, v4, v5, v6] st I J := ge (A := (35, 164, 165, 0, 0)) rfl
set_option maxRecDepth 10000 in
theorem g_159_164 : GO x d 159 Q 164 [v0, v1, v2, some (.inl a), v4, v5, v6] st I J = GO x d 159 Q 165 [v0, v1, v2, some (.inl a), v4, v5, v6] (.inl a :: st) I J := ge (A := (1, 165, 3, 0, 0)) rfl
set_option maxRecDepth 10000 in
theorem g_159_165 : GO x d 159 Q 165 [v0, v1, v2, v3, v4, v5, v6] [.inl a] I J = Q (some (.inl a)) I J := ge (A := (55, 166, 0, 0, 0)) rfl
set_option maxRecDepth 10000 in
theorem e_159 : EX x (d + 1) 159 [.inr (.inr w0), .inl i0, .inl i1] I J Q = GO x d 159 Q 0 [some (.inr (.inr w0)), some (.inl i0), some (.inl i1), none, none, none, none] [] I J := ex_eq (Nat.le_of_ble_eq_true rfl) rfl (Nat.le_of_ble_eq_true rfl) rfl
set_option maxRecDepth 10000 in
theorem g_160_0 : GO x d 160 Q 0 [some (.inr (.inr w)), v1, v2, v3, v4, v5, v6] st I J = GO x d 160 Q 1 [some (.inr (.inr w)), v1, v2, v3, v4, v5, v6] (.inr (.inr w) :: st) I J := ge (A := (2, 1, 0, 0, 0)) rfl
set_option maxRecDepth 10000 in
theorem g_160_1 : GO x d 160 Q 1 [v0, v1, v2, v3, v4, v5, v6] [.inr (.inr (.inl r))] I J = (okO r 10 ∧ EX x d 110 [.inr (.inr (.inl r))] I J (fun r1 I1 J1 => GO x d 160 Q 4 [v0, v1, v2, v3, v4, v5, v6] (r1.toList ++ []) I1 J1)) := (ge (A := (53, 4, 110, 0, 0)) rfl).trans (gtrue (Nat.le_of_ble_eq_true rfl))
set_option maxRecDepth 10000 in
theorem g_160_4 : GO x d 160 Q 4 [v0, v1, v2, v3, v4, v5, v6] (.inl a :: st) I J = (inR a ∧ if a = 0 then GO x d 160 Q 7 [v0, v1, v2, v3, v4, v5, v6] st I J else GO x d 160 Q 10 [v0, v1, v2, v3, v4, v5, v6] st I J) := (ge (A := (33, 7, 10, 1, 0)) rfl).trans (gifn (p := a = 0) inferInstance)
set_option maxRecDepth 10000 in
theorem g_160_7 : GO x d 160 Q 7 [v0, v1, v2, v3, v4, v5, v6] st I J = GO x d 160 Q 9 [v0, v1, v2, v3, v4, v5, v6] (.inl (-1000002) :: st) I J := ge (A := (0, 9, 0, 0, -1000002)) rfl
set_option maxRecDepth 10000 in
theorem g_160_9 : GO x d 160 Q 9 [v0, v1, v2, v3, v4, v5, v6] [.inl a] I J = Q (some (.inl a)) I J := ge (A := (55, 10, 0, 0, 0)) rfl
set_option maxRecDepth 10000 in
theorem g_160_10 : GO x d 160 Q 10 [v0, some (.inl a), v2, v3, v4, v5, v6] st I J = GO x d 160 Q 11 [v0, some (.inl a), v2, v3, v4, v5, v6] (.inl a :: st) I J := ge (A := (1, 11, 1, 0, 0)) rfl
set_option maxRecDepth 10000 in
theorem g_160_11 : GO x d 160 Q 11 [v0, v1, v2, v3, v4, v5, v6] st I J = GO x d 160 Q 12 [v0, v1, v2, v3, v4, v5, v6] (.inl (0) :: st) I J := ge (A := (0, 12, 0, 0, 0)) rfl
set_option maxRecDepth 10000 in
theorem g_160_12 : GO x d 160 Q 12 [v0, v1, v2, v3, v4, v5, v6] st I J = GO x d 160 Q 13 [v0, v1, v2, v3, v4, v5, v6] (.inl (1) :: st) I J := ge (A := (0, 13, 0, 0, 1)) rfl
set_option maxRecDepth 10000 in
theorem g_160_13 : GO x d 160 Q 13 [v0, v1, v2, v3, v4, v5, v6] [.inl i0, .inl i1, .inl i2] I J = EX x d 109 [.inl i2, .inl i1, .inl i0] I J (fun r1 I1 J1 => GO x d 160 Q 16 [v0, v1, v2, v3, v4, v5, v6] (r1.toList ++ []) I1 J1) := (ge (A := (52, 16, 109, 3, 0)) rfl).trans (gtrue2 (Nat.le_of_ble_eq_true rfl) (Nat.le_of_ble_eq_true rfl))
set_option maxRecDepth 10000 in
theorem g_160_16 : GO x d 160 Q 16 [v0, v1, v2, v3, v4, v5, v6] (.inl a :: st) I J = (inR a ∧ if a = 0 then GO x d 160 Q 19 [v0, v1, v2, v3, v4, v5, v6] st I J else GO x d 160 Q 22 [v0, v1, v2, v3, v4, v5, v6] st I J) := (ge (A := (33, 19, 22, 1, 0)) rfl).trans (gifn (p := a = 0) inferInstance)
set_option maxRecDepth 10000 in
theorem g_160_19 : GO x d 160 Q 19 [v0, v1, v2, v3, v4, v5, v6] st I J = GO x d 160 Q 21 [v0, v1, v2, v3, v4, v5, v6] (.inl (-1000001) :: st) I J := ge (A := (0, 21, 0, 0, -1000001)) rfl
set_option maxRecDepth 10000 in
theorem g_160_21 : GO x d 160 Q 21 [v0, v1, v2, v3, v4, v5, v6] [.inl a] I J = Q (some (.inl a)) I J := ge (A := (55, 22, 0, 0, 0)) rfl
set_option maxRecDepth 10000 in
theorem g_160_22 : GO x d 160 Q 22 [v0, v1, v2, v3, v4, v5, v6] st I J = GO x d 160 Q 24 [v0, v1, v2, v3, v4, v5, v6] (.inl (-1000000) :: st) I J := ge (A := (0, 24, 0, 0, -1000000)) rfl
set_option maxRecDepth 10000 in
theorem g_160_24 : GO x d 160 Q 24 [v0, v1, v2, v3, v4, v5, v6] (.inl a :: st) I J = (nlO (some v1) = true ∧ GO x d 160 Q 25 [v0, v1, some (.inl a), v3, v4, v5, v6] st I J) := (ge (A := (4, 25, 2, 0, 0)) rfl).trans (gst (Nat.le_of_ble_eq_true rfl) _)
set_option maxRecDepth 10000 in
theorem g_160_25 : GO x d 160 Q 25 [v0, v1, v2, v3, v4, v5, v6] st I J = GO x d 160 Q 27 [v0, v1, v2, v3, v4, v5, v6] (.inl (-1000000) :: st) I J := ge (A := (0, 27, 0, 0, -1000000)) rfl
set_option maxRecDepth 10000 in
theorem g_160_27 : GO x d 160 Q 27 [v0, v1, v2, v3, v4, v5, v6] (.inl a :: st) I J = (nlO (some v2) = true ∧ GO x d 160 Q 28 [v0, v1, v2, some (.inl a), v4, v5, v6] st I J) := (ge (A := (4, 28, 3, 0, 0)) rfl).trans (gst (Nat.le_of_ble_eq_true rfl) _)
set_option maxRecDepth 10000 in
theorem g_160_28 : GO x d 160 Q 28 [v0, v1, v2, v3, v4, v5, v6] st I J = GO x d 160 Q 29 [v0, v1, v2, v3, v4, v5, v6] (.inl (0) :: st) I J := ge (A := (0, 29, 0, 0, 0)) rfl
set_option maxRecDepth 10000 in
theorem g_160_29 : GO x d 160 Q 29 [v0, v1, v2, v3, v4, v5, v6] (.inl a :: st) I J = (nlO (some v3) = true ∧ GO x d 160 Q 31 [v0, v1, v2, v3, some (.inl a), v5, v6] st I J) := (ge (A := (4, 31, 4, 0, 0)) rfl).trans (gst (Nat.le_of_ble_eq_true rfl) _)
set_option maxRecDepth 10000 in
theorem g_160_31 : GO x d 160 Q 31 [v0, v1, v2, v3, some (.inl a), v5, v6] st I J = GO x d 160 Q 33 [v0, v1, v2, v3, some (.inl a), v5, v6] (.inl a :: st) I J := ge (A := (1, 33, 4, 0, 0)) rfl
set_option maxRecDepth 10000 in
theorem g_160_33 : GO x d 160 Q 33 [some (.inr (.inr w)), v1, v2, v3, v4, v5, v6] st I J = GO x d 160 Q 34 [some (.inr (.inr w)), v1, v2, v3, v4, v5, v6] (.inr (.inr w) :: st) I J := ge (A := (2, 34, 0, 0, 0)) rfl
set_option maxRecDepth 10000 in
theorem g_160_34 : GO x d 160 Q 34 [v0, v1, v2, v3, v4, v5, v6] (.inr (.inr (.inl r)) :: st) I J = (okF r 10 2 ∧ GO x d 160 Q 37 [v0, v1, v2, v3, v4, v5, v6] (.inr (.inr (.inl (rfN r 2))) :: st) I J) := (ge (A := (39, 37, 10, 2, 0)) rfl).trans (gref (f := fun q => GO x d 160 Q 37 [v0, v1, v2, v3, v4, v5, v6] (.inr (.inr (.inl q)) :: st) I J))
set_option maxRecDepth 10000 in
theorem g_160_37 : GO x d 160 Q 37 [v0, v1, v2, v3, v4, v5, v6] st I J = GO x d 160 Q 38 [v0, v1, v2, v3, v4, v5, v6] (.inl (1) :: st) I J := ge (A := (0, 38, 0, 0, 1)) rfl
set_option maxRecDepth 10000 in
theorem h_160_38 : GO x d 160 Q 38 [v0, v1, v2, v3, v4, v5, v6] (.inl a :: .inr (.inr (.inr q)) :: st) I J = (q < 4 ∧ 0 ≤ a ∧ a < (roA x q).1 ∧ GO x d 160 Q 39 [v0, v1, v2, v3, v4, v5, v6] (.inl ((roA x q).2 a.toNat) :: st) I J) := ge (A := (44, 39, 0, 0, 0)) rfl
set_option maxRecDepth 10000 in
theorem g_160_38 : GO x d 160 Q 38 [v0, v1, v2, v3, v4, v5, v6] (.inl a :: .inr (.inr (.inl r)) :: st) I J = (okA r 20 ∧ 0 ≤ a ∧ a < lnN r ∧ GO x d 160 Q 39 [v0, v1, v2, v3, v4, v5, v6] (.inl (I r a) :: st) I J) := ge (A := (44, 39, 0, 0, 0)) rfl
set_option maxRecDepth 10000 in
theorem g_160_39 : GO x d 160 Q 39 [v0, v1, v2, v3, v4, v5, v6] (.inl b :: .inl a :: st) I J = (inR a ∧ inR b ∧ if a < b then GO x d 160 Q 42 [v0, v1, v2, v3, v4, v5, v6] st I J else GO x d 160 Q 140 [v0, v1, v2, v3, v4, v5, v6] st I J) := (ge (A := (34, 42, 140, 3, 0)) rfl).trans (ggec)
set_option maxRecDepth 10000 in
theorem g_160_42 : GO x d 160 Q 42 [v0, v1, v2, v3, v4, v5, v6] st I J = GO x d 160 Q 43 [v0, v1, v2, v3, v4, v5, v6] (.inl (0) :: st) I J := ge (A := (0, 43, 0, 0, 0)) rfl
set_option maxRecDepth 10000 in
theorem g_160_43 : GO x d 160 Q 43 [v0, v1, v2, v3, v4, v5, v6] (.inl a :: st) I J = (nlO (some v4) = true ∧ GO x d 160 Q 45 [v0, v1, v2, v3, v4, some (.inl a), v6] st I J) := (ge (A := (4, 45, 5, 0, 0)) rfl).trans (gst (Nat.le_of_ble_eq_true rfl) _)
set_option maxRecDepth 10000 in
theorem g_160_45 : GO x d 160 Q 45 [v0, v1, v2, v3, v4, v5, v6] st I J = GO x d 160 Q 46 [v0, v1, v2, v3, v4, v5, v6] (.inl (0) :: st) I J := ge (A := (0, 46, 0, 0, 0)) rfl
set_option maxRecDepth 10000 in
theorem g_160_46 : GO x d 160 Q 46 [v0, v1, v2, v3, v4, v5, v6] (.inl a :: st) I J = (nlO (some v5) = true ∧ GO x d 160 Q 48 [v0, v1, v2, v3, v4, v5, some (.inl a)] st I J) := (ge (A := (4, 48, 6, 0, 0)) rfl).trans (gst (Nat.le_of_ble_eq_true rfl) _)
set_option maxRecDepth 10000 in
theorem g_160_48 : GO x d 160 Q 48 [v0, v1, v2, v3, v4, v5, some (.inl a)] st I J = GO x d 160 Q 50 [v0, v1, v2, v3, v4, v5, some (.inl a)] (.inl a :: st) I J := ge (A := (1, 50, 6, 0, 0)) rfl
set_option maxRecDepth 10000 in
theorem g_160_50 : GO x d 160 Q 50 [some (.inr (.inr w)), v1, v2, v3, v4, v5, v6] st I J = GO x d 160 Q 51 [some (.inr (.inr w)), v1, v2, v3, v4, v5, v6] (.inr (.inr w) :: st) I J := ge (A := (2, 51, 0, 0, 0)) rfl
set_option maxRecDepth 10000 in
theorem g_160_51 : GO x d 160 Q 51 [v0, v1, v2, v3, v4, v5, v6] (.inr (.inr (.inl r)) :: st) I J = (okF r 10 2 ∧ GO x d 160 Q 54 [v0, v1, v2, v3, v4, v5, v6] (.inr (.inr (.inl (rfN r 2))) :: st) I J) := (ge (A := (39, 54, 10, 2, 0)) rfl).trans (gref (f := fun q => GO x d 160 Q 54 [v0, v1, v2, v3, v4, v5, v6] (.inr (.inr (.inl q)) :: st) I J))
set_option maxRecDepth 10000 in
theorem g_160_54 : GO x d 160 Q 54 [v0, v1, v2, v3, v4, v5, v6] st I J = GO x d 160 Q 55 [v0, v1, v2, v3, v4, v5, v6] (.inl (2) :: st) I J := ge (A := (0, 55, 0, 0, 2)) rfl
set_option maxRecDepth 10000 in
theorem h_160_55 : GO x d 160 Q 55 [v0, v1, v2, v3, v4, v5, v6] (.inl a :: .inr (.inr (.inr q)) :: st) I J = (q < 4 ∧ 0 ≤ a ∧ a < (roA x q).1 ∧ GO x d 160 Q 56 [v0, v1, v2, v3, v4, v5, v6] (.inl ((roA x q).2 a.toNat) :: st) I J) := ge (A := (44, 56, 0, 0, 0)) rfl
set_option maxRecDepth 10000 in
theorem g_160_55 : GO x d 160 Q 55 [v0, v1, v2, v3, v4, v5, v6] (.inl a :: .inr (.inr (.inl r)) :: st) I J = (okA r 20 ∧ 0 ≤ a ∧ a < lnN r ∧ GO x d 160 Q 56 [v0, v1, v2, v3, v4, v5, v6] (.inl (I r a) :: st) I J) := ge (A := (44, 56, 0, 0, 0)) rfl
set_option maxRecDepth 10000 in
theorem g_160_56 : GO x d 160 Q 56 [v0, v1, v2, v3, v4, v5, v6] (.inl b :: .inl a :: st) I J = (inR a ∧ inR b ∧ if a < b then GO x d 160 Q 59 [v0, v1, v2, v3, v4, v5, v6] st I J else GO x d 160 Q 91 [v0, v1, v2, v3, v4, v5, v6] st I J) := (ge (A := (34, 59, 91, 3, 0)) rfl).trans (ggec)
set_option maxRecDepth 10000 in
theorem g_160_59 : GO x d 160 Q 59 [v0, v1, v2, v3, v4, some (.inl a), v6] st I J = GO x d 160 Q 61 [v0, v1, v2, v3, v4, some (.inl a), v6] (.inl a :: st) I J := ge (A := (1, 61, 5, 0, 0)) rfl
set_option maxRecDepth 10000 in
theorem g_160_61 : GO x d 160 Q 61 [some (.inr (.inr w)), v1, v2, v3, v4, v5, v6] st I J = GO x d 160 Q 62 [some (.inr (.inr w)), v1, v2, v3, v4, v5, v6] (.inr (.inr w) :: st) I J := ge (A := (2, 62, 0, 0, 0)) rfl
set_option maxRecDepth 10000 in
theorem g_160_62 : GO x d 160 Q 62 [v0, v1, v2, v3, v4, v5, some (.inl a)] st I J = GO x d 160 Q 64 [v0, v1, v2, v3, v4, v5, some (.inl a)] (.inl a :: st) I J := ge (A := (1, 64, 6, 0, 0)) rfl
set_option maxRecDepth 10000 in
theorem g_160_64 : GO x d 160 Q 64 [v0, v1, v2, v3, v4, v5, v6] [.inl i0, .inr (.inr (.inl r)), .inl i1] I J = (okO r 10 ∧ EX x d 147 [.inr (.inr (.inl r)), .inl i0] I J (fun r1 I1 J1 => GO x d 160 Q 67 [v0, v1, v2, v3, v4, v5, v6] (r1.toList ++ [.inl i1]) I1 J1)) := (ge (A := (53, 67, 147, 1, 0)) rfl).trans (gtrue (Nat.le_of_ble_eq_true rfl))
set_option maxRecDepth 10000 in
theorem g_160_67 : GO x d 160 Q 67 [v0, v1, v2, v3, v4, v5, v6] st I J = GO x d 160 Q 68 [v0, v1, v2, v3, v4, v5, v6] (.inl (1) :: st) I J := ge (A := (0, 68, 0, 0, 1)) rfl
set_option maxRecDepth 10000 in
theorem g_160_68 : GO x d 160 Q 68 [v0, v1, v2, v3, some (.inl a), v5, v6] st I J = GO x d 160 Q 70 [v0, v1, v2, v3, some (.inl a), v5, v6] (.inl a :: st) I J := ge (A := (1, 70, 4, 0, 0)) rfl
set_option maxRecDepth 10000 in
theorem g_160_70 : GO x d 160 Q 70 [v0, v1, v2, v3, v4, v5, v6] (.inl b :: .inl a :: st) I J = GO x d 160 Q 71 [v0, v1, v2, v3, v4, v5, v6] (.inl (shlI a b) :: st) I J := ge (A := (14, 71, 0, 0, 0)) rfl
set_option maxRecDepth 10000 in
theorem g_160_71 : GO x d 160 Q 71 [v0, v1, v2, v3, v4, v5, v6] st I J = GO x d 160 Q 72 [v0, v1, v2, v3, v4, v5, v6] (.inl (-1) :: st) I J := ge (A := (0, 72, 0, 0, -1)) rfl
set_option maxRecDepth 10000 in
theorem g_160_72 : GO x d 160 Q 72 [v0, v1, v2, v3, v4, v5, v6] (.inl b :: .inl a :: st) I J = GO x d 160 Q 73 [v0, v1, v2, v3, v4, v5, v6] (.inl (xorI a b) :: st) I J := ge (A := (13, 73, 0, 0, 0)) rfl
set_option maxRecDepth 10000 in
theorem g_160_73 : GO x d 160 Q 73 [v0, v1, v2, v3, v4, v5, v6] (.inl b :: .inl a :: st) I J = GO x d 160 Q 74 [v0, v1, v2, v3, v4, v5, v6] (.inl (andI a b) :: st) I J := ge (A := (11, 74, 0, 0, 0)) rfl
set_option maxRecDepth 10000 in
theorem g_160_74 : GO x d 160 Q 74 [v0, v1, v2, v3, v4, v5, v6] (.inl a :: st) I J = (inR a ∧ if a = 0 then GO x d 160 Q 81 [v0, v1, v2, v3, v4, v5, v6] st I J else GO x d 160 Q 77 [v0, v1, v2, v3, v4, v5, v6] st I J) := (ge (A := (33, 77, 81, 0, 0)) rfl).trans (gif (p := a = 0) inferInstance)
set_option maxRecDepth 10000 in
theorem g_160_77 : GO x d 160 Q 77 [v0, v1, v2, v3, v4, v5, v6] st I J = GO x d 160 Q 78 [v0, v1, v2, v3, v4, v5, v6] (.inl (1) :: st) I J := ge (A := (0, 78, 0, 0, 1)) rfl
set_option maxRecDepth 10000 in
theorem g_160_78 : GO x d 160 Q 78 [v0, v1, v2, v3, v4, v5, v6] st I J = GO x d 160 Q 82 [v0, v1, v2, v3, v4, v5, v6] st I J := ge (A := (35, 81, 82, 0, 0)) rfl
set_option maxRecDepth 10000 in
theorem g_160_81 : GO x d 160 Q 81 [v0, v1, v2, v3, v4, v5, v6] st I J = GO x d 160 Q 82 [v0, v1, v2, v3, v4, v5, v6] (.inl (0) :: st) I J := ge (A := (0, 82, 0, 0, 0)) rfl
set_option maxRecDepth 10000 in
theorem g_160_82 : GO x d 160 Q 82 [v0, v1, v2, v3, v4, v5, v6] (.inl b :: .inl a :: st) I J = GO x d 160 Q 83 [v0, v1, v2, v3, v4, v5, v6] (.inl (a + b) :: st) I J := ge (A := (8, 83, 0, 0, 0)) rfl
set_option maxRecDepth 10000 in
theorem g_160_83 : GO x d 160 Q 83 [v0, v1, v2, v3, v4, v5, v6] (.inl a :: st) I J = (nlO (some v4) = true ∧ GO x d 160 Q 85 [v0, v1, v2, v3, v4, some (.inl a), v6] st I J) := (ge (A := (4, 85, 5, 0, 0)) rfl).trans (gst (Nat.le_of_ble_eq_true rfl) _)
set_option maxRecDepth 10000 in
theorem g_160_85 : GO x d 160 Q 85 [v0, v1, v2, v3, v4, v5, some (.inl a)] st I J = (nlO (some v5) = true ∧ GO x d 160 Q 88 [v0, v1, v2, v3, v4, v5, some (.inl (a + (1)))] st I J) := ge (A := (7, 88, 6, 0, 1)) rfl
set_option maxRecDepth 10000 in
theorem g_160_88 : GO x d 160 Q 88 [v0, v1, v2, v3, v4, v5, v6] st I J = GO x d 160 Q 48 [v0, v1, v2, v3, v4, v5, v6] st I J := ge (A := (35, 91, 48, 0, 0)) rfl
set_option maxRecDepth 10000 in
theorem g_160_91 : GO x d 160 Q 91 [v0, v1, some (.inl a), v3, v4, v5, v6] st I J = GO x d 160 Q 92 [v0, v1, some (.inl a), v3, v4, v5, v6] (.inl a :: st) I J := ge (A := (1, 92, 2, 0, 0)) rfl
set_option maxRecDepth 10000 in
theorem g_160_92 : GO x d 160 Q 92 [v0, v1, v2, v3, v4, v5, v6] st I J = GO x d 160 Q 94 [v0, v1, v2, v3, v4, v5, v6] (.inl (-1000000) :: st) I J := ge (A := (0, 94, 0, 0, -1000000)) rfl
set_option maxRecDepth 10000 in
theorem g_160_94 : GO x d 160 Q 94 [v0, v1, v2, v3, v4, v5, v6] (.inl b :: .inl a :: st) I J = (inR a ∧ inR b ∧ if a = b then GO x d 160 Q 103 [v0, v1, v2, v3, v4, v5, v6] st I J else GO x d 160 Q 97 [v0, v1, v2, v3, v4, v5, v6] st I J) := (ge (A := (34, 97, 103, 0, 0)) rfl).trans (gic (p := a = b) inferInstance)
set_option maxRecDepth 10000 in
theorem g_160_97 : GO x d 160 Q 97 [v0, v1, v2, v3, v4, some (.inl a), v6] st I J = GO x d 160 Q 99 [v0, v1, v2, v3, v4, some (.inl a), v6] (.inl a :: st) I J := ge (A := (1, 99, 5, 0, 0)) rfl
set_option maxRecDepth 10000 in
theorem g_160_99 : GO x d 160 Q 99 [v0, v1, v2, some (.inl a), v4, v5, v6] st I J = GO x d 160 Q 100 [v0, v1, v2, some (.inl a), v4, v5, v6] (.inl a :: st) I J := ge (A := (1, 100, 3, 0, 0)) rfl
set_option maxRecDepth 10000 in
theorem g_160_100 : GO x d 160 Q 100 [v0, v1, v2, v3, v4, v5, v6] (.inl b :: .inl a :: st) I J = (inR a ∧ inR b ∧ if a < b then GO x d 160 Q 103 [v0, v1, v2, v3, v4, v5, v6] st I J else GO x d 160 Q 107 [v0, v1, v2, v3, v4, v5, v6] st I J) := (ge (A := (34, 103, 107, 3, 0)) rfl).trans (ggec)
set_option maxRecDepth 10000 in
theorem g_160_103 : GO x d 160 Q 103 [v0, v1, v2, v3, v4, v5, v6] st I J = GO x d 160 Q 104 [v0, v1, v2, v3, v4, v5, v6] (.inl (1) :: st) I J := ge (A := (0, 104, 0, 0, 1)) rfl
set_option maxRecDepth 10000 in
theorem g_160_104 : GO x d 160 Q 104 [v0, v1, v2, v3, v4, v5, v6] st I J = GO x d 160 Q 108 [v0, v1, v2, v3, v4, v5, v6] st I J := ge (A := (35, 107, 108, 0, 0)) rfl
set_option maxRecDepth 10000 in
theorem g_160_107 : GO x d 160 Q 107 [v0, v1, v2, v3, v4, v5, v6] st I J = GO x d 160 Q 108 [v0, v1, v2, v3, v4, v5, v6] (.inl (0) :: st) I J := ge (A := (0, 108, 0, 0, 0)) rfl
set_option maxRecDepth 10000 in
theorem g_160_108 : GO x d 160 Q 108 [v0, v1, v2, v3, v4, v5, v6] (.inl a :: st) I J = (nlO (some v5) = true ∧ GO x d 160 Q 110 [v0, v1, v2, v3, v4, v5, some (.inl a)] st I J) := (ge (A := (4, 110, 6, 0, 0)) rfl).trans (gst (Nat.le_of_ble_eq_true rfl) _)
set_option maxRecDepth 10000 in
theorem g_160_110 : GO x d 160 Q 110 [v0, v1, v2, v3, v4, v5, some (.inl a)] st I J = GO x d 160 Q 112 [v0, v1, v2, v3, v4, v5, some (.inl a)] (.inl a :: st) I J := ge (A := (1, 112, 6, 0, 0)) rfl
set_option maxRecDepth 10000 in
theorem g_160_112 : GO x d 160 Q 112 [v0, v1, v2, v3, v4, v5, v6] (.inl a :: st) I J = (inR a ∧ if a = 0 then GO x d 160 Q 120 [v0, v1, v2, v3, v4, v5, v6] st I J else GO x d 160 Q 115 [v0, v1, v2, v3, v4, v5, v6] st I J) := (ge (A := (33, 115, 120, 0, 0)) rfl).trans (gif (p := a = 0) inferInstance)
set_option maxRecDepth 10000 in
theorem g_160_115 : GO x d 160 Q 115 [v0, v1, v2, v3, some (.inl a), v5, v6] st I J = GO x d 160 Q 117 [v0, v1, v2, v3, some (.inl a), v5, v6] (.inl a :: st) I J := ge (A := (1, 117, 4, 0, 0)) rfl
set_option maxRecDepth 10000 in
theorem g_160_117 : GO x d 160 Q 117 [v0, v1, v2, v3, v4, v5, v6] st I J = GO x d 160 Q 121 [v0, v1, v2, v3, v4, v5, v6] st I J := ge (A := (35, 120, 121, 0, 0)) rfl
set_option maxRecDepth 10000 in
theorem g_160_120 : GO x d 160 Q 120 [v0, v1, some (.inl a), v3, v4, v5, v6] st I J = GO x d 160 Q 121 [v0, v1, some (.inl a), v3, v4, v5, v6] (.inl a :: st) I J := ge (A := (1, 121, 2, 0, 0)) rfl
set_option maxRecDepth 10000 in
theorem g_160_121 : GO x d 160 Q 121 [v0, v1, v2, v3, v4, v5, v6] (.inl a :: st) I J = (nlO (some v1) = true ∧ GO x d 160 Q 122 [v0, v1, some (.inl a), v3, v4, v5, v6] st I J) := (ge (A := (4, 122, 2, 0, 0)) rfl).trans (gst (Nat.le_of_ble_eq_true rfl) _)
set_option maxRecDepth 10000 in
theorem g_160_122 : GO x d 160 Q 122 [v0, v1, v2, v3, v4, v5, some (.inl a)] st I J = GO x d 160 Q 124 [v0, v1, v2, v3, v4, v5, some (.inl a)] (.inl a :: st) I J := ge (A := (1, 124, 6, 0, 0)) rfl
set_option maxRecDepth 10000 in
theorem g_160_124 : GO x d 160 Q 124 [v0, v1, v2, v3, v4, v5, v6] (.inl a :: st) I J = (inR a ∧ if a = 0 then GO x d 160 Q 132 [v0, v1, v2, v3, v4, v5, v6] st I J else GO x d 160 Q 127 [v0, v1, v2, v3, v4, v5, v6] st I J) := (ge (A := (33, 127, 132, 0, 0)) rfl).trans (gif (p := a = 0) inferInstance)
set_option maxRecDepth 10000 in
theorem g_160_127 : GO x d 160 Q 127 [v0, v1, v2, v3, v4, some (.inl a), v6] st I J = GO x d 160 Q 129 [v0, v1, v2, v3, v4, some (.inl a), v6] (.inl a :: st) I J := ge (A := (1, 129, 5, 0, 0)) rfl
set_option maxRecDepth 10000 in
theorem g_160_129 : GO x d 160 Q 129 [v0, v1, v2, v3, v4, v5, v6] st I J = GO x d 160 Q 133 [v0, v1, v2, v3, v4, v5, v6] st I J := ge (A := (35, 132, 133, 0, 0)) rfl
set_option maxRecDepth 10000 in
theorem g_160_132 : GO x d 160 Q 132 [v0, v1, v2, some (.inl a), v4, v5, v6] st I J = GO x d 160 Q 133 [v0, v1, v2, some (.inl a), v4, v5, v6] (.inl a :: st) I J := ge (A := (1, 133, 3, 0, 0)) rfl
set_option maxRecDepth 10000 in
theorem g_160_133 : GO x d 160 Q 133 [v0, v1, v2, v3, v4, v5, v6] (.inl a :: st) I J = (nlO (some v2) = true ∧ GO x d 160 Q 134 [v0, v1, v2, some (.inl a), v4, v5, v6] st I J) := (ge (A := (4, 134, 3, 0, 0)) rfl).trans (gst (Nat.le_of_ble_eq_true rfl) _)
set_option maxRecDepth 10000 in
theorem g_160_134 : GO x d 160 Q 134 [v0, v1, v2, v3, some (.inl a), v5, v6] st I J = (nlO (some v3) = true ∧ GO x d 160 Q 137 [v0, v1, v2, v3, some (.inl (a + (1))), v5, v6] st I J) := ge (A := (7, 137, 4, 0, 1)) rfl
set_option maxRecDepth 10000 in
theorem g_160_137 : GO x d 160 Q 137 [v0, v1, v2, v3, v4, v5, v6] st I J = GO x d 160 Q 31 [v0, v1, v2, v3, v4, v5, v6] st I J := ge (A := (35, 140, 31, 0, 0)) rfl
set_option maxRecDepth 10000 in
theorem g_160_140 : GO x d 160 Q 140 [v0, some (.inl a), v2, v3, v4, v5, v6] st I J = GO x d 160 Q 141 [v0, some (.inl a), v2, v3, v4, v5, v6] (.inl a :: st) I J := ge (A := (1, 141, 1, 0, 0)) rfl
set_option maxRecDepth 10000 in
theorem g_160_141 : GO x d 160 Q 141 [v0, v1, v2, v3, v4, v5, v6] (.inl a :: st) I J = (inR a ∧ if a = 0 then GO x d 160 Q 144 [v0, v1, v2, v3, v4, v5, v6] st I J else GO x d 160 Q 148 [v0, v1, v2, v3, v4, v5, v6] st I J) := (ge (A := (33, 144, 148, 1, 0)) rfl).trans (gifn (p := a = 0) inferInstance)
set_option maxRecDepth 10000 in
theorem g_160_144 : GO x d 160 Q 144 [v0, v1, some (.inl a), v3, v4, v5, v6] st I J = GO x d 160 Q 145 [v0, v1, some (.inl a), v3, v4, v5, v6] (.inl a :: st) I J := ge (A := (1, 145, 2, 0, 0)) rfl
set_option maxRecDepth 10000 in
theorem g_160_145 : GO x d 160 Q 145 [v0, v1, v2, v3, v4, v5, v6] st I J = GO x d 160 Q 149 [v0, v1, v2, v3, v4, v5, v6] st I J := ge (A := (35, 148, 149, 0, 0)) rfl
set_option maxRecDepth 10000 in
theorem g_160_148 : GO x d 160 Q 148 [v0, v1, v2, some (.inl a), v4, v5, v6] st I J = GO x d 160 Q 149 [v0, v1, v2, some (.inl a), v4, v5, v6] (.inl a :: st) I J := ge (A := (1, 149, 3, 0, 0)) rfl
set_option maxRecDepth 10000 in
theorem g_160_149 : GO x d 160 Q 149 [v0, v1, v2, v3, v4, v5, v6] [.inl a] I J = Q (some (.inl a)) I J := ge (A := (55, 150, 0, 0, 0)) rfl
set_option maxRecDepth 10000 in
theorem e_160 : EX x (d + 1) 160 [.inr (.inr w0), .inl i0] I J Q = GO x d 160 Q 0 [some (.inr (.inr w0)), some (.inl i0), none, none, none, none, none] [] I J := ex_eq (Nat.le_of_ble_eq_true rfl) rfl (Nat.le_of_ble_eq_true rfl) rfl
set_option maxRecDepth 10000 in
theorem g_161_0 : GO x d 161 Q 0 [some (.inr (.inr w)), v1, v2, v3, v4, v5, v6, v7, v8, v9, v10] st I J = GO x d 161 Q 1 [some (.inr (.inr w)), v1, v2, v3, v4, v5, v6, v7, v8, v9, v10] (.inr (.inr w) :: st) I J := ge (A := (2, 1, 0, 0, 0)) rfl
set_option maxRecDepth 10000 in
theorem g_161_1 : GO x d 161 Q 1 [v0, v1, v2, v3, v4, v5, v6, v7, v8, v9, v10] [.inr (.inr (.inl r))] I J = (okO r 10 ∧ EX x d 110 [.inr (.inr (.inl r))] I J (fun r1 I1 J1 => GO x d 161 Q 4 [v0, v1, v2, v3, v4, v5, v6, v7, v8, v9, v10] (r1.toList ++ []) I1 J1)) := (ge (A := (53, 4, 110, 0, 0)) rfl).trans (gtrue (Nat.le_of_ble_eq_true rfl))
set_option maxRecDepth 10000 in
theorem g_161_4 : GO x d 161 Q 4 [v0, v1, v2, v3, v4, v5, v6, v7, v8, v9, v10] (.inl a :: st) I J = (inR a ∧ if a = 0 then GO x d 161 Q 7 [v0, v1, v2, v3, v4, v5, v6, v7, v8, v9, v10] st I J else GO x d 161 Q 10 [v0, v1, v2, v3, v4, v5, v6, v7, v8, v9, v10] st I J) := (ge (A := (33, 7, 10, 1, 0)) rfl).trans (gifn (p := a = 0) inferInstance)
set_option maxRecDepth 10000 in
theorem g_161_7 : GO x d 161 Q 7 [v0, v1, v2, v3, v4, v5, v6, v7, v8, v9, v10] st I J = GO x d 161 Q 9 [v0, v1, v2, v3, v4, v5, v6, v7, v8, v9, v10] (.inl (-1000002) :: st) I J := ge (A := (0, 9, 0, 0, -1000002)) rfl
set_option maxRecDepth 10000 in
theorem g_161_9 : GO x d 161 Q 9 [v0, v1, v2, v3, v4, v5, v6, v7, v8, v9, v10] [.inl a] I J = Q (some (.inl a)) I J := ge (A := (55, 10, 0, 0, 0)) rfl
set_option maxRecDepth 10000 in
theorem g_161_10 : GO x d 161 Q 10 [v0, some (.inl a), v2, v3, v4, v5, v6, v7, v8, v9, v10] st I J = GO x d 161 Q 11 [v0, some (.inl a), v2, v3, v4, v5, v6, v7, v8, v9, v10] (.inl a :: st) I J := ge (A := (1, 11, 1, 0, 0)) rfl
set_option maxRecDepth 10000 in
theorem g_161_11 : GO x d 161 Q 11 [v0, v1, v2, v3, v4, v5, v6, v7, v8, v9, v10] st I J = GO x d 161 Q 12 [v0, v1, v2, v3, v4, v5, v6, v7, v8, v9, v10] (.inl (0) :: st) I J := ge (A := (0, 12, 0, 0, 0)) rfl
set_option maxRecDepth 10000 in
theorem g_161_12 : GO x d 161 Q 12 [v0, v1, v2, v3, v4, v5, v6, v7, v8, v9, v10] st I J = GO x d 161 Q 13 [v0, v1, v2, v3, v4, v5, v6, v7, v8, v9, v10] (.inl (1) :: st) I J := ge (A := (0, 13, 0, 0, 1)) rfl
set_option maxRecDepth 10000 in
theorem g_161_13 : GO x d 161 Q 13 [some (.inr (.inr w)), v1, v2, v3, v4, v5, v6, v7, v8, v9, v10] st I J = GO x d 161 Q 14 [some (.inr (.inr w)), v1, v2, v3, v4, v5, v6, v7, v8, v9, v10] (.inr (.inr w) :: st) I J := ge (A := (2, 14, 0, 0, 0)) rfl
set_option maxRecDepth 10000 in
theorem g_161_14 : GO x d 161 Q 14 [v0, v1, v2, v3, v4, v5, v6, v7, v8, v9, v10] (.inr (.inr (.inl r)) :: st) I J = (okF r 10 2 ∧ GO x d 161 Q 17 [v0, v1, v2, v3, v4, v5, v6, v7, v8, v9, v10] (.inr (.inr (.inl (rfN r 2))) :: st) I J) := (ge (A := (39, 17, 10, 2, 0)) rfl).trans (gref (f := fun q => GO x d 161 Q 17 [v0, v1, v2, v3, v4, v5, v6, v7, v8, v9, v10] (.inr (.inr (.inl q)) :: st) I J))
set_option maxRecDepth 10000 in
theorem g_161_17 : GO x d 161 Q 17 [v0, v1, v2, v3, v4, v5, v6, v7, v8, v9, v10] st I J = GO x d 161 Q 18 [v0, v1, v2, v3, v4, v5, v6, v7, v8, v9, v10] (.inl (1) :: st) I J := ge (A := (0, 18, 0, 0, 1)) rfl
set_option maxRecDepth 10000 in
theorem h_161_18 : GO x d 161 Q 18 [v0, v1, v2, v3, v4, v5, v6, v7, v8, v9, v10] (.inl a :: .inr (.inr (.inr q)) :: st) I J = (q < 4 ∧ 0 ≤ a ∧ a < (roA x q).1 ∧ GO x d 161 Q 19 [v0, v1, v2, v3, v4, v5, v6, v7, v8, v9, v10] (.inl ((roA x q).2 a.toNat) :: st) I J) := ge (A := (44, 19, 0, 0, 0)) rfl
set_option maxRecDepth 10000 in
theorem g_161_18 : GO x d 161 Q 18 [v0, v1, v2, v3, v4, v5, v6, v7, v8, v9, v10] (.inl a :: .inr (.inr (.inl r)) :: st) I J = (okA r 20 ∧ 0 ≤ a ∧ a < lnN r ∧ GO x d 161 Q 19 [v0, v1, v2, v3, v4, v5, v6, v7, v8, v9, v10] (.inl (I r a) :: st) I J) := ge (A := (44, 19, 0, 0, 0)) rfl
set_option maxRecDepth 10000 in
theorem g_161_19 : GO x d 161 Q 19 [v0, v1, v2, v3, v4, v5, v6, v7, v8, v9, v10] (.inl b :: .inl a :: st) I J = GO x d 161 Q 20 [v0, v1, v2, v3, v4, v5, v6, v7, v8, v9, v10] (.inl (shlI a b) :: st) I J := ge (A := (14, 20, 0, 0, 0)) rfl
set_option maxRecDepth 10000 in
theorem g_161_20 : GO x d 161 Q 20 [v0, v1, v2, v3, v4, v5, v6, v7, v8, v9, v10] st I J = GO x d 161 Q 21 [v0, v1, v2, v3, v4, v5, v6, v7, v8, v9, v10] (.inl (1) :: st) I J := ge (A := (0, 21, 0, 0, 1)) rfl
set_option maxRecDepth 10000 in
theorem g_161_21 : GO x d 161 Q 21 [v0, v1, v2, v3, v4, v5, v6, v7, v8, v9, v10] (.inl b :: .inl a :: st) I J = GO x d 161 Q 22 [v0, v1, v2, v3, v4, v5, v6, v7, v8, v9, v10] (.inl (a - b) :: st) I J := ge (A := (9, 22, 0, 0, 0)) rfl
set_option maxRecDepth 10000 in
theorem g_161_22 : GO x d 161 Q 22 [v0, v1, v2, v3, v4, v5, v6, v7, v8, v9, v10] [.inl i0, .inl i1, .inl i2] I J = EX x d 109 [.inl i2, .inl i1, .inl i0] I J (fun r1 I1 J1 => GO x d 161 Q 25 [v0, v1, v2, v3, v4, v5, v6, v7, v8, v9, v10] (r1.toList ++ []) I1 J1) := (ge (A := (52, 25, 109, 3, 0)) rfl).trans (gtrue2 (Nat.le_of_ble_eq_true rfl) (Nat.le_of_ble_eq_true rfl))
set_option maxRecDepth 10000 in
theorem g_161_25 : GO x d 161 Q 25 [v0, v1, v2, v3, v4, v5, v6, v7, v8, v9, v10] (.inl a :: st) I J = (inR a ∧ if a = 0 then GO x d 161 Q 37 [v0, v1, v2, v3, v4, v5, v6, v7, v8, v9, v10] st I J else GO x d 161 Q 28 [v0, v1, v2, v3, v4, v5, v6, v7, v8, v9, v10] st I J) := (ge (A := (33, 28, 37, 0, 0)) rfl).trans (gif (p := a = 0) inferInstance)
set_option maxRecDepth 10000 in
theorem g_161_28 : GO x d 161 Q 28 [v0, v1, some (.inl a), v3, v4, v5, v6, v7, v8, v9, v10] st I J = GO x d 161 Q 29 [v0, v1, some (.inl a), v3, v4, v5, v6, v7, v8, v9, v10] (.inl a :: st) I J := ge (A := (1, 29, 2, 0, 0)) rfl
set_option maxRecDepth 10000 in
theorem g_161_29 : GO x d 161 Q 29 [v0, v1, v2, v3, v4, v5, v6, v7, v8, v9, v10] st I J = GO x d 161 Q 30 [v0, v1, v2, v3, v4, v5, v6, v7, v8, v9, v10] (.inl (0) :: st) I J := ge (A := (0, 30, 0, 0, 0)) rfl
set_option maxRecDepth 10000 in
theorem g_161_30 : GO x d 161 Q 30 [v0, v1, v2, v3, v4, v5, v6, v7, v8, v9, v10] st I J = GO x d 161 Q 31 [v0, v1, v2, v3, v4, v5, v6, v7, v8, v9, v10] (.inl (1) :: st) I J := ge (A := (0, 31, 0, 0, 1)) rfl
set_option maxRecDepth 10000 in
theorem g_161_31 : GO x d 161 Q 31 [v0, v1, v2, v3, v4, v5, v6, v7, v8, v9, v10] [.inl i0, .inl i1, .inl i2] I J = EX x d 109 [.inl i2, .inl i1, .inl i0] I J (fun r1 I1 J1 => GO x d 161 Q 34 [v0, v1, v2, v3, v4, v5, v6, v7, v8, v9, v10] (r1.toList ++ []) I1 J1) := (ge (A := (52, 34, 109, 3, 0)) rfl).trans (gtrue2 (Nat.le_of_ble_eq_true rfl) (Nat.le_of_ble_eq_true rfl))
set_option maxRecDepth 10000 in
theorem g_161_34 : GO x d 161 Q 34 [v0, v1, v2, v3, v4, v5, v6, v7, v8, v9, v10] (.inl a :: st) I J = (inR a ∧ if a = 0 then GO x d 161 Q 37 [v0, v1, v2, v3, v4, v5, v6, v7, v8, v9, v10] st I J else GO x d 161 Q 40 [v0, v1, v2, v3, v4, v5, v6, v7, v8, v9, v10] st I J) := (ge (A := (33, 37, 40, 1, 0)) rfl).trans (gifn (p := a = 0) inferInstance)
set_option maxRecDepth 10000 in
theorem g_161_37 : GO x d 161 Q 37 [v0, v1, v2, v3, v4, v5, v6, v7, v8, v9, v10] st I J = GO x d 161 Q 39 [v0, v1, v2, v3, v4, v5, v6, v7, v8, v9, v10] (.inl (-1000001) :: st) I J := ge (A := (0, 39, 0, 0, -1000001)) rfl
set_option maxRecDepth 10000 in
theorem g_161_39 : GO x d 161 Q 39 [v0, v1, v2, v3, v4, v5, v6, v7, v8, v9, v10] [.inl a] I J = Q (some (.inl a)) I J := ge (A := (55, 40, 0, 0, 0)) rfl
set_option maxRecDepth 10000 in
theorem g_161_40 : GO x d 161 Q 40 [v0, v1, v2, v3, v4, v5, v6, v7, v8, v9, v10] st I J = GO x d 161 Q 41 [v0, v1, v2, v3, v4, v5, v6, v7, v8, v9, v10] (.inl (0) :: st) I J := ge (A := (0, 41, 0, 0, 0)) rfl
set_option maxRecDepth 10000 in
theorem g_161_41 : GO x d 161 Q 41 [v0, v1, v2, v3, v4, v5, v6, v7, v8, v9, v10] (.inl a :: st) I J = (nlO (some v2) = true ∧ GO x d 161 Q 42 [v0, v1, v2, some (.inl a), v4, v5, v6, v7, v8, v9, v10] st I J) := (ge (A := (4, 42, 3, 0, 0)) rfl).trans (gst (Nat.le_of_ble_eq_true rfl) _)
set_option maxRecDepth 10000 in
theorem g_161_42 : GO x d 161 Q 42 [v0, v1, v2, v3, v4, v5, v6, v7, v8, v9, v10] st I J = GO x d 161 Q 44 [v0, v1, v2, v3, v4, v5, v6, v7, v8, v9, v10] (.inl (-1000000) :: st) I J := ge (A := (0, 44, 0, 0, -1000000)) rfl
set_option maxRecDepth 10000 in
theorem g_161_44 : GO x d 161 Q 44 [v0, v1, v2, v3, v4, v5, v6, v7, v8, v9, v10] (.inl a :: st) I J = (nlO (some v3) = true ∧ GO x d 161 Q 46 [v0, v1, v2, v3, some (.inl a), v5, v6, v7, v8, v9, v10] st I J) := (ge (A := (4, 46, 4, 0, 0)) rfl).trans (gst (Nat.le_of_ble_eq_true rfl) _)
set_option maxRecDepth 10000 in
theorem g_161_46 : GO x d 161 Q 46 [v0, v1, v2, v3, v4, v5, v6, v7, v8, v9, v10] st I J = GO x d 161 Q 47 [v0, v1, v2, v3, v4, v5, v6, v7, v8, v9, v10] (.inl (0) :: st) I J := ge (A := (0, 47, 0, 0, 0)) rfl
set_option maxRecDepth 10000 in
theorem g_161_47 : GO x d 161 Q 47 [v0, v1, v2, v3, v4, v5, v6, v7, v8, v9, v10] (.inl a :: st) I J = (nlO (some v4) = true ∧ GO x d 161 Q 49 [v0, v1, v2, v3, v4, some (.inl a), v6, v7, v8, v9, v10] st I J) := (ge (A := (4, 49, 5, 0, 0)) rfl).trans (gst (Nat.le_of_ble_eq_true rfl) _)
set_option maxRecDepth 10000 in
theorem g_161_49 : GO x d 161 Q 49 [v0, v1, v2, v3, v4, some (.inl a), v6, v7, v8, v9, v10] st I J = GO x d 161 Q 51 [v0, v1, v2, v3, v4, some (.inl a), v6, v7, v8, v9, v10] (.inl a :: st) I J := ge (A := (1, 51, 5, 0, 0)) rfl
set_option maxRecDepth 10000 in
theorem g_161_51 : GO x d 161 Q 51 [v0, v1, v2, v3, v4, v5, v6, v7, v8, v9, v10] st I J = GO x d 161 Q 52 [v0, v1, v2, v3, v4, v5, v6, v7, v8, v9, v10] (.inl (1) :: st) I J := ge (A := (0, 52, 0, 0, 1)) rfl
set_option maxRecDepth 10000 in
theorem g_161_52 : GO x d 161 Q 52 [some (.inr (.inr w)), v1, v2, v3, v4, v5, v6, v7, v8, v9, v10] st I J = GO x d 161 Q 53 [some (.inr (.inr w)), v1, v2, v3, v4, v5, v6, v7, v8, v9, v10] (.inr (.inr w) :: st) I J := ge (A := (2, 53, 0, 0, 0)) rfl
set_option maxRecDepth 10000 in
theorem g_161_53 : GO x d 161 Q 53 [v0, v1, v2, v3, v4, v5, v6, v7, v8, v9, v10] (.inr (.inr (.inl r)) :: st) I J = (okF r 10 2 ∧ GO x d 161 Q 56 [v0, v1, v2, v3, v4, v5, v6, v7, v8, v9, v10] (.inr (.inr (.inl (rfN r 2))) :: st) I J) := (ge (A := (39, 56, 10, 2, 0)) rfl).trans (gref (f := fun q => GO x d 161 Q 56 [v0, v1, v2, v3, v4, v5, v6, v7, v8, v9, v10] (.inr (.inr (.inl q)) :: st) I J))
set_option maxRecDepth 10000 in
theorem g_161_56 : GO x d 161 Q 56 [v0, v1, v2, v3, v4, v5, v6, v7, v8, v9, v10] st I J = GO x d 161 Q 57 [v0, v1, v2, v3, v4, v5, v6, v7, v8, v9, v10] (.inl (2) :: st) I J := ge (A := (0, 57, 0, 0, 2)) rfl
set_option maxRecDepth 10000 in
theorem h_161_57 : GO x d 161 Q 57 [v0, v1, v2, v3, v4, v5, v6, v7, v8, v9, v10] (.inl a :: .inr (.inr (.inr q)) :: st) I J = (q < 4 ∧ 0 ≤ a ∧ a < (roA x q).1 ∧ GO x d 161 Q 58 [v0, v1, v2, v3, v4, v5, v6, v7, v8, v9, v10] (.inl ((roA x q).2 a.toNat) :: st) I J) := ge (A := (44, 58, 0, 0, 0)) rfl
set_option maxRecDepth 10000 in
theorem g_161_57 : GO x d 161 Q 57 [v0, v1, v2, v3, v4, v5, v6, v7, v8, v9, v10] (.inl a :: .inr (.inr (.inl r)) :: st) I J = (okA r 20 ∧ 0 ≤ a ∧ a < lnN r ∧ GO x d 161 Q 58 [v0, v1, v2, v3, v4, v5, v6, v7, v8, v9, v10] (.inl (I r a) :: st) I J) := ge (A := (44, 58, 0, 0, 0)) rfl
set_option maxRecDepth 10000 in
theorem g_161_58 : GO x d 161 Q 58 [v0, v1, v2, v3, v4, v5, v6, v7, v8, v9, v10] (.inl b :: .inl a :: st) I J = GO x d 161 Q 59 [v0, v1, v2, v3, v4, v5, v6, v7, v8, v9, v10] (.inl (shlI a b) :: st) I J := ge (A := (14, 59, 0, 0, 0)) rfl
set_option maxRecDepth 10000 in
theorem g_161_59 : GO x d 161 Q 59 [v0, v1, v2, v3, v4, v5, v6, v7, v8, v9, v10] (.inl b :: .inl a :: st) I J = (inR a ∧ inR b ∧ if a < b then GO x d 161 Q 62 [v0, v1, v2, v3, v4, v5, v6, v7, v8, v9, v10] st I J else GO x d 161 Q 259 [v0, v1, v2, v3, v4, v5, v6, v7, v8, v9, v10] st I J) := (ge (A := (34, 62, 259, 3, 0)) rfl).trans (ggec)
set_option maxRecDepth 10000 in
theorem g_161_62 : GO x d 161 Q 62 [v0, v1, v2, v3, v4, some (.inl a), v6, v7, v8, v9, v10] st I J = GO x d 161 Q 64 [v0, v1, v2, v3, v4, some (.inl a), v6, v7, v8, v9, v10] (.inl a :: st) I J := ge (A := (1, 64, 5, 0, 0)) rfl
set_option maxRecDepth 10000 in
theorem g_161_64 : GO x d 161 Q 64 [v0, v1, v2, v3, v4, v5, v6, v7, v8, v9, v10] [.inl i0] I J = EX x d 158 [.inl i0] I J (fun r1 I1 J1 => GO x d 161 Q 67 [v0, v1, v2, v3, v4, v5, v6, v7, v8, v9, v10] (r1.toList ++ []) I1 J1) := (ge (A := (52, 67, 158, 1, 0)) rfl).trans (gtrue2 (Nat.le_of_ble_eq_true rfl) (Nat.le_of_ble_eq_true rfl))
set_option maxRecDepth 10000 in
theorem g_161_67 : GO x d 161 Q 67 [v0, v1, v2, v3, v4, v5, v6, v7, v8, v9, v10] st I J = GO x d 161 Q 68 [v0, v1, v2, v3, v4, v5, v6, v7, v8, v9, v10] (.inl (1) :: st) I J := ge (A := (0, 68, 0, 0, 1)) rfl
set_option maxRecDepth 10000 in
theorem g_161_68 : GO x d 161 Q 68 [v0, v1, v2, v3, v4, v5, v6, v7, v8, v9, v10] (.inl b :: .inl a :: st) I J = GO x d 161 Q 69 [v0, v1, v2, v3, v4, v5, v6, v7, v8, v9, v10] (.inl (a - b) :: st) I J := ge (A := (9, 69, 0, 0, 0)) rfl
set_option maxRecDepth 10000 in
theorem g_161_69 : GO x d 161 Q 69 [v0, v1, v2, v3, v4, v5, v6, v7, v8, v9, v10] (.inl a :: st) I J = (nlO (some v5) = true ∧ GO x d 161 Q 71 [v0, v1, v2, v3, v4, v5, some (.inl a), v7, v8, v9, v10] st I J) := (ge (A := (4, 71, 6, 0, 0)) rfl).trans (gst (Nat.le_of_ble_eq_true rfl) _)
set_option maxRecDepth 10000 in
theorem g_161_71 : GO x d 161 Q 71 [v0, v1, v2, v3, v4, v5, v6, v7, v8, v9, v10] st I J = GO x d 161 Q 72 [v0, v1, v2, v3, v4, v5, v6, v7, v8, v9, v10] (.inl (-1) :: st) I J := ge (A := (0, 72, 0, 0, -1)) rfl
set_option maxRecDepth 10000 in
theorem g_161_72 : GO x d 161 Q 72 [v0, v1, v2, v3, v4, v5, v6, v7, v8, v9, v10] (.inl a :: st) I J = (nlO (some v6) = true ∧ GO x d 161 Q 74 [v0, v1, v2, v3, v4, v5, v6, some (.inl a), v8, v9, v10] st I J) := (ge (A := (4, 74, 7, 0, 0)) rfl).trans (gst (Nat.le_of_ble_eq_true rfl) _)
set_option maxRecDepth 10000 in
theorem g_161_74 : GO x d 161 Q 74 [v0, v1, v2, v3, v4, v5, v6, v7, v8, v9, v10] st I J = GO x d 161 Q 75 [v0, v1, v2, v3, v4, v5, v6, v7, v8, v9, v10] (.inl (0) :: st) I J := ge (A := (0, 75, 0, 0, 0)) rfl
set_option maxRecDepth 10000 in
theorem g_161_75 : GO x d 161 Q 75 [v0, v1, v2, v3, v4, v5, v6, v7, v8, v9, v10] (.inl a :: st) I J = (nlO (some v7) = true ∧ GO x d 161 Q 77 [v0, v1, v2, v3, v4, v5, v6, v7, some (.inl a), v9, v10] st I J) := (ge (A := (4, 77, 8, 0, 0)) rfl).trans (gst (Nat.le_of_ble_eq_true rfl) _)
set_option maxRecDepth 10000 in
theorem g_161_77 : GO x d 161 Q 77 [v0, v1, v2, v3, v4, v5, v6, v7, v8, v9, v10] st I J = GO x d 161 Q 78 [v0, v1, v2, v3, v4, v5, v6, v7, v8, v9, v10] (.inl (0) :: st) I J := ge (A := (0, 78, 0, 0, 0)) rfl
set_option maxRecDepth 10000 in
theorem g_161_78 : GO x d 161 Q 78 [v0, v1, v2, v3, v4, v5, v6, v7, v8, v9, v10] (.inl a :: st) I J = (nlO (some v8) = true ∧ GO x d 161 Q 80 [v0, v1, v2, v3, v4, v5, v6, v7, v8, some (.inl a), v10] st I J) := (ge (A := (4, 80, 9, 0, 0)) rfl).trans (gst (Nat.le_of_ble_eq_true rfl) _)
set_option maxRecDepth 10000 in
theorem g_161_80 : GO x d 161 Q 80 [v0, v1, v2, v3, v4, v5, v6, v7, v8, some (.inl a), v10] st I J = GO x d 161 Q 82 [v0, v1, v2, v3, v4, v5, v6, v7, v8, some (.inl a), v10] (.inl a :: st) I J := ge (A := (1, 82, 9, 0, 0)) rfl
set_option maxRecDepth 10000 in
theorem g_161_82 : GO x d 161 Q 82 [some (.inr (.inr w)), v1, v2, v3, v4, v5, v6, v7, v8, v9, v10] st I J = GO x d 161 Q 83 [some (.inr (.inr w)), v1, v2, v3, v4, v5, v6, v7, v8, v9, v10] (.inr (.inr w) :: st) I J := ge (A := (2, 83, 0, 0, 0)) rfl
set_option maxRecDepth 10000 in
theorem g_161_83 : GO x d 161 Q 83 [v0, v1, v2, v3, v4, v5, v6, v7, v8, v9, v10] (.inr (.inr (.inl r)) :: st) I J = (okF r 10 2 ∧ GO x d 161 Q 86 [v0, v1, v2, v3, v4, v5, v6, v7, v8, v9, v10] (.inr (.inr (.inl (rfN r 2))) :: st) I J) := (ge (A := (39, 86, 10, 2, 0)) rfl).trans (gref (f := fun q => GO x d 161 Q 86 [v0, v1, v2, v3, v4, v5, v6, v7, v8, v9, v10] (.inr (.inr (.inl q)) :: st) I J))
set_option maxRecDepth 10000 in
theorem g_161_86 : GO x d 161 Q 86 [v0, v1, v2, v3, v4, v5, v6, v7, v8, v9, v10] st I J = GO x d 161 Q 87 [v0, v1, v2, v3, v4, v5, v6, v7, v8, v9, v10] (.inl (1) :: st) I J := ge (A := (0, 87, 0, 0, 1)) rfl
set_option maxRecDepth 10000 in
theorem h_161_87 : GO x d 161 Q 87 [v0, v1, v2, v3, v4, v5, v6, v7, v8, v9, v10] (.inl a :: .inr (.inr (.inr q)) :: st) I J = (q < 4 ∧ 0 ≤ a ∧ a < (roA x q).1 ∧ GO x d 161 Q 88 [v0, v1, v2, v3, v4, v5, v6, v7, v8, v9, v10] (.inl ((roA x q).2 a.toNat) :: st) I J) := ge (A := (44, 88, 0, 0, 0)) rfl
set_option maxRecDepth 10000 in
theorem g_161_87 : GO x d 161 Q 87 [v0, v1, v2, v3, v4, v5, v6, v7, v8, v9, v10] (.inl a :: .inr (.inr (.inl r)) :: st) I J = (okA r 20 ∧ 0 ≤ a ∧ a < lnN r ∧ GO x d 161 Q 88 [v0, v1, v2, v3, v4, v5, v6, v7, v8, v9, v10] (.inl (I r a) :: st) I J) := ge (A := (44, 88, 0, 0, 0)) rfl
set_option maxRecDepth 10000 in
theorem g_161_88 : GO x d 161 Q 88 [v0, v1, v2, v3, v4, v5, v6, v7, v8, v9, v10] (.inl b :: .inl a :: st) I J = (inR a ∧ inR b ∧ if a < b then GO x d 161 Q 91 [v0, v1, v2, v3, v4, v5, v6, v7, v8, v9, v10] st I J else GO x d 161 Q 150 [v0, v1, v2, v3, v4, v5, v6, v7, v8, v9, v10] st I J) := (ge (A := (34, 91, 150, 3, 0)) rfl).trans (ggec)
set_option maxRecDepth 10000 in
theorem g_161_91 : GO x d 161 Q 91 [v0, some (.inl a), v2, v3, v4, v5, v6, v7, v8, v9, v10] st I J = GO x d 161 Q 92 [v0, some (.inl a), v2, v3, v4, v5, v6, v7, v8, v9, v10] (.inl a :: st) I J := ge (A := (1, 92, 1, 0, 0)) rfl
set_option maxRecDepth 10000 in
theorem g_161_92 : GO x d 161 Q 92 [v0, v1, v2, v3, v4, v5, v6, v7, v8, some (.inl a), v10] st I J = GO x d 161 Q 94 [v0, v1, v2, v3, v4, v5, v6, v7, v8, some (.inl a), v10] (.inl a :: st) I J := ge (A := (1, 94, 9, 0, 0)) rfl
set_option maxRecDepth 10000 in
theorem g_161_94 : GO x d 161 Q 94 [v0, v1, v2, v3, v4, v5, v6, v7, v8, v9, v10] (.inl b :: .inl a :: st) I J = GO x d 161 Q 95 [v0, v1, v2, v3, v4, v5, v6, v7, v8, v9, v10] (.inl (shrI a b) :: st) I J := ge (A := (15, 95, 0, 0, 0)) rfl
set_option maxRecDepth 10000 in
theorem g_161_95 : GO x d 161 Q 95 [v0, v1, v2, v3, v4, v5, v6, v7, v8, v9, v10] st I J = GO x d 161 Q 96 [v0, v1, v2, v3, v4, v5, v6, v7, v8, v9, v10] (.inl (1) :: st) I J := ge (A := (0, 96, 0, 0, 1)) rfl
set_option maxRecDepth 10000 in
theorem g_161_96 : GO x d 161 Q 96 [v0, v1, v2, v3, v4, v5, v6, v7, v8, v9, v10] (.inl b :: .inl a :: st) I J = GO x d 161 Q 97 [v0, v1, v2, v3, v4, v5, v6, v7, v8, v9, v10] (.inl (andI a b) :: st) I J := ge (A := (11, 97, 0, 0, 0)) rfl
set_option maxRecDepth 10000 in
theorem g_161_97 : GO x d 161 Q 97 [v0, v1, v2, v3, v4, v5, v6, v7, v8, v9, v10] st I J = GO x d 161 Q 98 [v0, v1, v2, v3, v4, v5, v6, v7, v8, v9, v10] (.inl (1) :: st) I J := ge (A := (0, 98, 0, 0, 1)) rfl
set_option maxRecDepth 10000 in
theorem g_161_98 : GO x d 161 Q 98 [v0, v1, v2, v3, v4, v5, v6, v7, v8, v9, v10] (.inl b :: .inl a :: st) I J = (inR a ∧ inR b ∧ if a = b then GO x d 161 Q 101 [v0, v1, v2, v3, v4, v5, v6, v7, v8, v9, v10] st I J else GO x d 161 Q 105 [v0, v1, v2, v3, v4, v5, v6, v7, v8, v9, v10] st I J) := (ge (A := (34, 101, 105, 1, 0)) rfl).trans (gicn (p := a = b) inferInstance)
set_option maxRecDepth 10000 in
theorem g_161_101 : GO x d 161 Q 101 [v0, v1, v2, v3, v4, v5, v6, v7, v8, v9, v10] st I J = GO x d 161 Q 102 [v0, v1, v2, v3, v4, v5, v6, v7, v8, v9, v10] (.inl (1) :: st) I J := ge (A := (0, 102, 0, 0, 1)) rfl
set_option maxRecDepth 10000 in
theorem g_161_102 : GO x d 161 Q 102 [v0, v1, v2, v3, v4, v5, v6, v7, v8, v9, v10] st I J = GO x d 161 Q 106 [v0, v1, v2, v3, v4, v5, v6, v7, v8, v9, v10] st I J := ge (A := (35, 105, 106, 0, 0)) rfl
set_option maxRecDepth 10000 in
theorem g_161_105 : GO x d 161 Q 105 [v0, v1, v2, v3, v4, v5, v6, v7, v8, v9, v10] st I J = GO x d 161 Q 106 [v0, v1, v2, v3, v4, v5, v6, v7, v8, v9, v10] (.inl (0) :: st) I J := ge (A := (0, 106, 0, 0, 0)) rfl
set_option maxRecDepth 10000 in
theorem g_161_106 : GO x d 161 Q 106 [v0, v1, v2, v3, v4, v5, v6, v7, v8, v9, v10] (.inl a :: st) I J = (nlO (some v9) = true ∧ GO x d 161 Q 108 [v0, v1, v2, v3, v4, v5, v6, v7, v8, v9, some (.inl a)] st I J) := (ge (A := (4, 108, 10, 0, 0)) rfl).trans (gst (Nat.le_of_ble_eq_true rfl) _)
set_option maxRecDepth 10000 in
theorem g_161_108 : GO x d 161 Q 108 [v0, v1, v2, v3, v4, v5, v6, v7, v8, v9, some (.inl a)] st I J = GO x d 161 Q 110 [v0, v1, v2, v3, v4, v5, v6, v7, v8, v9, some (.inl a)] (.inl a :: st) I J := ge (A := (1, 110, 10, 0, 0)) rfl
set_option maxRecDepth 10000 in
theorem g_161_110 : GO x d 161 Q 110 [v0, v1, v2, v3, v4, v5, v6, v7, v8, v9, v10] (.inl a :: st) I J = (inR a ∧ if a = 0 then GO x d 161 Q 125 [v0, v1, v2, v3, v4, v5, v6, v7, v8, v9, v10] st I J else GO x d 161 Q 113 [v0, v1, v2, v3, v4, v5, v6, v7, v8, v9, v10] st I J) := (ge (A := (33, 113, 125, 0, 0)) rfl).trans (gif (p := a = 0) inferInstance)
set_option maxRecDepth 10000 in
theorem g_161_113 : GO x d 161 Q 113 [v0, v1, v2, v3, v4, v5, v6, v7, some (.inl a), v9, v10] st I J = GO x d 161 Q 115 [v0, v1, v2, v3, v4, v5, v6, v7, some (.inl a), v9, v10] (.inl a :: st) I J := ge (A := (1, 115, 8, 0, 0)) rfl
set_option maxRecDepth 10000 in
theorem g_161_115 : GO x d 161 Q 115 [v0, v1, v2, v3, v4, v5, some (.inl a), v7, v8, v9, v10] st I J = GO x d 161 Q 117 [v0, v1, v2, v3, v4, v5, some (.inl a), v7, v8, v9, v10] (.inl a :: st) I J := ge (A := (1, 117, 6, 0, 0)) rfl
set_option maxRecDepth 10000 in
theorem g_161_117 : GO x d 161 Q 117 [v0, v1, v2, v3, v4, v5, v6, v7, v8, v9, v10] (.inl b :: .inl a :: st) I J = (inR a ∧ inR b ∧ if a = b then GO x d 161 Q 120 [v0, v1, v2, v3, v4, v5, v6, v7, v8, v9, v10] st I J else GO x d 161 Q 125 [v0, v1, v2, v3, v4, v5, v6, v7, v8, v9, v10] st I J) := (ge (A := (34, 120, 125, 1, 0)) rfl).trans (gicn (p := a = b) inferInstance)
set_option maxRecDepth 10000 in
theorem g_161_120 : GO x d 161 Q 120 [v0, v1, v2, v3, v4, v5, v6, v7, v8, some (.inl a), v10] st I J = GO x d 161 Q 122 [v0, v1, v2, v3, v4, v5, v6, v7, v8, some (.inl a), v10] (.inl a :: st) I J := ge (A := (1, 122, 9, 0, 0)) rfl
set_option maxRecDepth 10000 in
theorem g_161_122 : GO x d 161 Q 122 [v0, v1, v2, v3, v4, v5, v6, v7, v8, v9, v10] st I J = GO x d 161 Q 127 [v0, v1, v2, v3, v4, v5, v6, v7, v8, v9, v10] st I J := ge (A := (35, 125, 127, 0, 0)) rfl
set_option maxRecDepth 10000 in
theorem g_161_125 : GO x d 161 Q 125 [v0, v1, v2, v3, v4, v5, v6, some (.inl a), v8, v9, v10] st I J = GO x d 161 Q 127 [v0, v1, v2, v3, v4, v5, v6, some (.inl a), v8, v9, v10] (.inl a :: st) I J := ge (A := (1, 127, 7, 0, 0)) rfl
set_option maxRecDepth 10000 in
theorem g_161_127 : GO x d 161 Q 127 [v0, v1, v2, v3, v4, v5, v6, v7, v8, v9, v10] (.inl a :: st) I J = (nlO (some v6) = true ∧ GO x d 161 Q 129 [v0, v1, v2, v3, v4, v5, v6, some (.inl a), v8, v9, v10] st I J) := (ge (A := (4, 129, 7, 0, 0)) rfl).trans (gst (Nat.le_of_ble_eq_true rfl) _)
set_option maxRecDepth 10000 in
theorem g_161_129 : GO x d 161 Q 129 [v0, v1, v2, v3, v4, v5, v6, v7, some (.inl a), v9, v10] st I J = GO x d 161 Q 131 [v0, v1, v2, v3, v4, v5, v6, v7, some (.inl a), v9, v10] (.inl a :: st) I J := ge (A := (1, 131, 8, 0, 0)) rfl
set_option maxRecDepth 10000 in
theorem g_161_131 : GO x d 161 Q 131 [v0, v1, v2, v3, v4, v5, v6, v7, v8, v9, some (.inl a)] st I J = GO x d 161 Q 133 [v0, v1, v2, v3, v4, v5, v6, v7, v8, v9, some (.inl a)] (.inl a :: st) I J := ge (A := (1, 133, 10, 0, 0)) rfl
set_option maxRecDepth 10000 in
theorem g_161_133 : GO x d 161 Q 133 [v0, v1, v2, v3, v4, v5, v6, v7, v8, v9, v10] (.inl a :: st) I J = (inR a ∧ if a = 0 then GO x d 161 Q 140 [v0, v1, v2, v3, v4, v5, v6, v7, v8, v9, v10] st I J else GO x d 161 Q 136 [v0, v1, v2, v3, v4, v5, v6, v7, v8, v9, v10] st I J) := (ge (A := (33, 136, 140, 0, 0)) rfl).trans (gif (p := a = 0) inferInstance)
set_option maxRecDepth 10000 in
theorem g_161_136 : GO x d 161 Q 136 [v0, v1, v2, v3, v4, v5, v6, v7, v8, v9, v10] st I J = GO x d 161 Q 137 [v0, v1, v2, v3, v4, v5, v6, v7, v8, v9, v10] (.inl (1) :: st) I J := ge (A := (0, 137, 0, 0, 1)) rfl
set_option maxRecDepth 10000 in
theorem g_161_137 : GO x d 161 Q 137 [v0, v1, v2, v3, v4, v5, v6, v7, v8, v9, v10] st I J = GO x d 161 Q 141 [v0, v1, v2, v3, v4, v5, v6, v7, v8, v9, v10] st I J := ge (A := (35, 140, 141, 0, 0)) rfl
set_option maxRecDepth 10000 in
theorem g_161_140 : GO x d 161 Q 140 [v0, v1, v2, v3, v4, v5, v6, v7, v8, v9, v10] st I J = GO x d 161 Q 141 [v0, v1, v2, v3, v4, v5, v6, v7, v8, v9, v10] (.inl (0) :: st) I J := ge (A := (0, 141, 0, 0, 0)) rfl
set_option maxRecDepth 10000 in
theorem g_161_141 : GO x d 161 Q 141 [v0, v1, v2, v3, v4, v5, v6, v7, v8, v9, v10] (.inl b :: .inl a :: st) I J = GO x d 161 Q 142 [v0, v1, v2, v3, v4, v5, v6, v7, v8, v9, v10] (.inl (a + b) :: st) I J := ge (A := (8, 142, 0, 0, 0)) rfl
set_option maxRecDepth 10000 in
theorem g_161_142 : GO x d 161 Q 142 [v0, v1, v2, v3, v4, v5, v6, v7, v8, v9, v10] (.inl a :: st) I J = (nlO (some v7) = true ∧ GO x d 161 Q 144 [v0, v1, v2, v3, v4, v5, v6, v7, some (.inl a), v9, v10] st I J) := (ge (A := (4, 144, 8, 0, 0)) rfl).trans (gst (Nat.le_of_ble_eq_true rfl) _)
set_option maxRecDepth 10000 in
theorem g_161_144 : GO x d 161 Q 144 [v0, v1, v2, v3, v4, v5, v6, v7, v8, some (.inl a), v10] st I J = (nlO (some v8) = true ∧ GO x d 161 Q 147 [v0, v1, v2, v3, v4, v5, v6, v7, v8, some (.inl (a + (1))), v10] st I J) := ge (A := (7, 147, 9, 0, 1)) rfl
set_option maxRecDepth 10000 in
theorem g_161_147 : GO x d 161 Q 147 [v0, v1, v2, v3, v4, v5, v6, v7, v8, v9, v10] st I J = GO x d 161 Q 80 [v0, v1, v2, v3, v4, v5, v6, v7, v8, v9, v10] st I J := ge (A := (35, 150, 80, 0, 0)) rfl
set_option maxRecDepth 10000 in
theorem g_161_150 : GO x d 161 Q 150 [v0, v1, v2, v3, v4, some (.inl a), v6, v7, v8, v9, v10] st I J = GO x d 161 Q 152 [v0, v1, v2, v3, v4, some (.inl a), v6, v7, v8, v9, v10] (.inl a :: st) I J := ge (A := (1, 152, 5, 0, 0)) rfl
set_option maxRecDepth 10000 in
theorem g_161_152 : GO x d 161 Q 152 [v0, v1, v2, v3, v4, v5, v6, v7, v8, v9, v10] (.inl a :: st) I J = (inR a ∧ if a = 0 then GO x d 161 Q 155 [v0, v1, v2, v3, v4, v5, v6, v7, v8, v9, v10] st I J else GO x d 161 Q 159 [v0, v1, v2, v3, v4, v5, v6, v7, v8, v9, v10] st I J) := (ge (A := (33, 155, 159, 1, 0)) rfl).trans (gifn (p := a = 0) inferInstance)
set_option maxRecDepth 10000 in
theorem g_161_155 : GO x d 161 Q 155 [v0, v1, v2, v3, v4, v5, v6, v7, v8, v9, v10] st I J = GO x d 161 Q 156 [v0, v1, v2, v3, v4, v5, v6, v7, v8, v9, v10] (.inl (1) :: st) I J := ge (A := (0, 156, 0, 0, 1)) rfl
set_option maxRecDepth 10000 in
theorem g_161_156 : GO x d 161 Q 156 [v0, v1, v2, v3, v4, v5, v6, v7, v8, v9, v10] st I J = GO x d 161 Q 160 [v0, v1, v2, v3, v4, v5, v6, v7, v8, v9, v10] st I J := ge (A := (35, 159, 160, 0, 0)) rfl
set_option maxRecDepth 10000 in
theorem g_161_159 : GO x d 161 Q 159 [v0, v1, v2, v3, v4, v5, v6, v7, v8, v9, v10] st I J = GO x d 161 Q 160 [v0, v1, v2, v3, v4, v5, v6, v7, v8, v9, v10] (.inl (0) :: st) I J := ge (A := (0, 160, 0, 0, 0)) rfl
set_option maxRecDepth 10000 in
theorem g_161_160 : GO x d 161 Q 160 [v0, v1, v2, v3, v4, v5, v6, v7, v8, v9, v10] (.inl a :: st) I J = (nlO (some v8) = true ∧ GO x d 161 Q 162 [v0, v1, v2, v3, v4, v5, v6, v7, v8, some (.inl a), v10] st I J) := (ge (A := (4, 162, 9, 0, 0)) rfl).trans (gst (Nat.le_of_ble_eq_true rfl) _)
set_option maxRecDepth 10000 in
theorem g_161_162 : GO x d 161 Q 162 [v0, v1, v2, v3, v4, v5, v6, v7, v8, v9, v10] st I J = GO x d 161 Q 163 [v0, v1, v2, v3, v4, v5, v6, v7, v8, v9, v10] (.inl (0) :: st) I J := ge (A := (0, 163, 0, 0, 0)) rfl
set_option maxRecDepth 10000 in
theorem g_161_163 : GO x d 161 Q 163 [v0, v1, v2, v3, v4, v5, v6, v7, v8, v9, v10] (.inl a :: st) I J = (nlO (some v9) = true ∧ GO x d 161 Q 165 [v0, v1, v2, v3, v4, v5, v6, v7, v8, v9, some (.inl a)] st I J) := (ge (A := (4, 165, 10, 0, 0)) rfl).trans (gst (Nat.le_of_ble_eq_true rfl) _)
set_option maxRecDepth 10000 in
theorem g_161_165 : GO x d 161 Q 165 [v0, v1, v2, v3, v4, v5, v6, v7, v8, v9, some (.inl a)] st I J = GO x d 161 Q 167 [v0, v1, v2, v3, v4, v5, v6, v7, v8, v9, some (.inl a)] (.inl a :: st) I J := ge (A := (1, 167, 10, 0, 0)) rfl
set_option maxRecDepth 10000 in
theorem g_161_167 : GO x d 161 Q 167 [some (.inr (.inr w)), v1, v2, v3, v4, v5, v6, v7, v8, v9, v10] st I J = GO x d 161 Q 168 [some (.inr (.inr w)), v1, v2, v3, v4, v5, v6, v7, v8, v9, v10] (.inr (.inr w) :: st) I J := ge (A := (2, 168, 0, 0, 0)) rfl
set_option maxRecDepth 10000 in
theorem g_161_168 : GO x d 161 Q 168 [v0, v1, v2, v3, v4, v5, v6, v7, v8, v9, v10] (.inr (.inr (.inl r)) :: st) I J = (okF r 10 2 ∧ GO x d 161 Q 171 [v0, v1, v2, v3, v4, v5, v6, v7, v8, v9, v10] (.inr (.inr (.inl (rfN r 2))) :: st) I J) := (ge (A := (39, 171, 10, 2, 0)) rfl).trans (gref (f := fun q => GO x d 161 Q 171 [v0, v1, v2, v3, v4, v5, v6, v7, v8, v9, v10] (.inr (.inr (.inl q)) :: st) I J))
set_option maxRecDepth 10000 in
theorem g_161_171 : GO x d 161 Q 171 [v0, v1, v2, v3, v4, v5, v6, v7, v8, v9, v10] st I J = GO x d 161 Q 172 [v0, v1, v2, v3, v4, v5, v6, v7, v8, v9, v10] (.inl (2) :: st) I J := ge (A := (0, 172, 0, 0, 2)) rfl
set_option maxRecDepth 10000 in
theorem h_161_172 : GO x d 161 Q 172 [v0, v1, v2, v3, v4, v5, v6, v7, v8, v9, v10] (.inl a :: .inr (.inr (.inr q)) :: st) I J = (q < 4 ∧ 0 ≤ a ∧ a < (roA x q).1 ∧ GO x d 161 Q 173 [v0, v1, v2, v3, v4, v5, v6, v7, v8, v9, v10] (.inl ((roA x q).2 a.toNat) :: st) I J) := ge (A := (44, 173, 0, 0, 0)) rfl
set_option maxRecDepth 10000 in
theorem g_161_172 : GO x d 161 Q 172 [v0, v1, v2, v3, v4, v5, v6, v7, v8, v9, v10] (.inl a :: .inr (.inr (.inl r)) :: st) I J = (okA r 20 ∧ 0 ≤ a ∧ a < lnN r ∧ GO x d 161 Q 173 [v0, v1, v2, v3, v4, v5, v6, v7, v8, v9, v10] (.inl (I r a) :: st) I J) := ge (A := (44, 173, 0, 0, 0)) rfl
set_option maxRecDepth 10000 in
theorem g_161_173 : GO x d 161 Q 173 [v0, v1, v2, v3, v4, v5, v6, v7, v8, v9, v10] (.inl b :: .inl a :: st) I J = (inR a ∧ inR b ∧ if a < b then GO x d 161 Q 176 [v0, v1, v2, v3, v4, v5, v6, v7, v8, v9, v10] st I J else GO x d 161 Q 244 [v0, v1, v2, v3, v4, v5, v6, v7, v8, v9, v10] st I J) := (ge (A := (34, 176, 244, 3, 0)) rfl).trans (ggec)
set_option maxRecDepth 10000 in
theorem g_161_176 : GO x d 161 Q 176 [v0, v1, v2, v3, v4, v5, v6, some (.inl a), v8, v9, v10] st I J = GO x d 161 Q 178 [v0, v1, v2, v3, v4, v5, v6, some (.inl a), v8, v9, v10] (.inl a :: st) I J := ge (A := (1, 178, 7, 0, 0)) rfl
set_option maxRecDepth 10000 in
theorem g_161_178 : GO x d 161 Q 178 [v0, v1, v2, v3, v4, v5, v6, v7, v8, v9, v10] (.inl a :: st) I J = (inR a ∧ if a < 0 then GO x d 161 Q 244 [v0, v1, v2, v3, v4, v5, v6, v7, v8, v9, v10] st I J else GO x d 161 Q 181 [v0, v1, v2, v3, v4, v5, v6, v7, v8, v9, v10] st I J) := (ge (A := (33, 181, 244, 2, 0)) rfl).trans (gif (p := a < 0) inferInstance)
set_option maxRecDepth 10000 in
theorem g_161_181 : GO x d 161 Q 181 [v0, v1, v2, v3, v4, v5, v6, v7, v8, some (.inl a), v10] st I J = GO x d 161 Q 183 [v0, v1, v2, v3, v4, v5, v6, v7, v8, some (.inl a), v10] (.inl a :: st) I J := ge (A := (1, 183, 9, 0, 0)) rfl
set_option maxRecDepth 10000 in
theorem g_161_183 : GO x d 161 Q 183 [v0, v1, v2, v3, v4, v5, v6, v7, v8, v9, v10] (.inl a :: st) I J = (inR a ∧ if a = 0 then GO x d 161 Q 186 [v0, v1, v2, v3, v4, v5, v6, v7, v8, v9, v10] st I J else GO x d 161 Q 231 [v0, v1, v2, v3, v4, v5, v6, v7, v8, v9, v10] st I J) := (ge (A := (33, 186, 231, 1, 0)) rfl).trans (gifn (p := a = 0) inferInstance)
set_option maxRecDepth 10000 in
theorem g_161_186 : GO x d 161 Q 186 [v0, v1, v2, v3, v4, some (.inl a), v6, v7, v8, v9, v10] st I J = GO x d 161 Q 188 [v0, v1, v2, v3, v4, some (.inl a), v6, v7, v8, v9, v10] (.inl a :: st) I J := ge (A := (1, 188, 5, 0, 0)) rfl
set_option maxRecDepth 10000 in
theorem g_161_188 : GO x d 161 Q 188 [v0, v1, v2, v3, v4, v5, v6, v7, v8, v9, some (.inl a)] st I J = GO x d 161 Q 190 [v0, v1, v2, v3, v4, v5, v6, v7, v8, v9, some (.inl a)] (.inl a :: st) I J := ge (A := (1, 190, 10, 0, 0)) rfl
set_option maxRecDepth 10000 in
theorem g_161_190 : GO x d 161 Q 190 [v0, v1, v2, v3, v4, v5, v6, v7, v8, v9, v10] (.inl b :: .inl a :: st) I J = GO x d 161 Q 191 [v0, v1, v2, v3, v4, v5, v6, v7, v8, v9, v10] (.inl (shrI a b) :: st) I J := ge (A := (15, 191, 0, 0, 0)) rfl
set_option maxRecDepth 10000 in
theorem g_161_191 : GO x d 161 Q 191 [v0, v1, v2, v3, v4, v5, v6, v7, v8, v9, v10] st I J = GO x d 161 Q 192 [v0, v1, v2, v3, v4, v5, v6, v7, v8, v9, v10] (.inl (1) :: st) I J := ge (A := (0, 192, 0, 0, 1)) rfl
set_option maxRecDepth 10000 in
theorem g_161_192 : GO x d 161 Q 192 [v0, v1, v2, v3, v4, v5, v6, v7, v8, v9, v10] (.inl b :: .inl a :: st) I J = GO x d 161 Q 193 [v0, v1, v2, v3, v4, v5, v6, v7, v8, v9, v10] (.inl (andI a b) :: st) I J := ge (A := (11, 193, 0, 0, 0)) rfl
set_option maxRecDepth 10000 in
theorem g_161_193 : GO x d 161 Q 193 [v0, v1, v2, v3, v4, v5, v6, v7, v8, v9, v10] st I J = GO x d 161 Q 194 [v0, v1, v2, v3, v4, v5, v6, v7, v8, v9, v10] (.inl (1) :: st) I J := ge (A := (0, 194, 0, 0, 1)) rfl
set_option maxRecDepth 10000 in
theorem g_161_194 : GO x d 161 Q 194 [v0, v1, v2, v3, v4, v5, v6, v7, v8, v9, v10] (.inl b :: .inl a :: st) I J = (inR a ∧ inR b ∧ if a = b then GO x d 161 Q 197 [v0, v1, v2, v3, v4, v5, v6, v7, v8, v9, v10] st I J else GO x d 161 Q 235 [v0, v1, v2, v3, v4, v5, v6, v7, v8, v9, v10] st I J) := (ge (A := (34, 197, 235, 1, 0)) rfl).trans (gicn (p := a = b) inferInstance)
set_option maxRecDepth 10000 in
theorem g_161_197 : GO x d 161 Q 197 [some (.inr (.inr w)), v1, v2, v3, v4, v5, v6, v7, v8, v9, v10] st I J = GO x d 161 Q 198 [some (.inr (.inr w)), v1, v2, v3, v4, v5, v6, v7, v8, v9, v10] (.inr (.inr w) :: st) I J := ge (A := (2, 198, 0, 0, 0)) rfl
set_option maxRecDepth 10000 in
theorem g_161_198 : GO x d 161 Q 198 [v0, v1, v2, v3, v4, v5, v6, v7, v8, v9, v10] (.inr (.inr (.inl r)) :: st) I J = (okF r 10 2 ∧ GO x d 161 Q 201 [v0, v1, v2, v3, v4, v5, v6, v7, v8, v9, v10] (.inr (.inr (.inl (rfN r 2))) :: st) I J) := (ge (A := (39, 201, 10, 2, 0)) rfl).trans (gref (f := fun q => GO x d 161 Q 201 [v0, v1, v2, v3, v4, v5, v6, v7, v8, v9, v10] (.inr (.inr (.inl q)) :: st) I J))
set_option maxRecDepth 10000 in
theorem g_161_201 : GO x d 161 Q 201 [v0, v1, v2, v3, v4, v5, v6, v7, v8, v9, v10] st I J = GO x d 161 Q 203 [v0, v1, v2, v3, v4, v5, v6, v7, v8, v9, v10] (.inl (24) :: st) I J := ge (A := (0, 203, 0, 0, 24)) rfl
set_option maxRecDepth 10000 in
theorem g_161_203 : GO x d 161 Q 203 [v0, v1, v2, v3, v4, v5, v6, v7, v8, v9, some (.inl a)] st I J = GO x d 161 Q 205 [v0, v1, v2, v3, v4, v5, v6, v7, v8, v9, some (.inl a)] (.inl a :: st) I J := ge (A := (1, 205, 10, 0, 0)) rfl
set_option maxRecDepth 10000 in
theorem g_161_205 : GO x d 161 Q 205 [v0, v1, v2, v3, v4, v5, v6, v7, v8, v9, v10] (.inl b :: .inl a :: st) I J = GO x d 161 Q 206 [v0, v1, v2, v3, v4, v5, v6, v7, v8, v9, v10] (.inl (a + b) :: st) I J := ge (A := (8, 206, 0, 0, 0)) rfl
set_option maxRecDepth 10000 in
theorem h_161_206 : GO x d 161 Q 206 [v0, v1, v2, v3, v4, v5, v6, v7, v8, v9, v10] (.inl a :: .inr (.inr (.inr q)) :: st) I J = (q < 4 ∧ 0 ≤ a ∧ a < (roA x q).1 ∧ GO x d 161 Q 207 [v0, v1, v2, v3, v4, v5, v6, v7, v8, v9, v10] (.inl ((roA x q).2 a.toNat) :: st) I J) := ge (A := (44, 207, 0, 0, 0)) rfl
set_option maxRecDepth 10000 in
theorem g_161_206 : GO x d 161 Q 206 [v0, v1, v2, v3, v4, v5, v6, v7, v8, v9, v10] (.inl a :: .inr (.inr (.inl r)) :: st) I J = (okA r 20 ∧ 0 ≤ a ∧ a < lnN r ∧ GO x d 161 Q 207 [v0, v1, v2, v3, v4, v5, v6, v7, v8, v9, v10] (.inl (I r a) :: st) I J) := ge (A := (44, 207, 0, 0, 0)) rfl
set_option maxRecDepth 10000 in
theorem g_161_207 : GO x d 161 Q 207 [v0, v1, v2, v3, v4, v5, v6, some (.inl a), v8, v9, v10] st I J = GO x d 161 Q 209 [v0, v1, v2, v3, v4, v5, v6, some (.inl a), v8, v9, v10] (.inl a :: st) I J := ge (A := (1, 209, 7, 0, 0)) rfl
set_option maxRecDepth 10000 in
theorem g_161_209 : GO x d 161 Q 209 [v0, v1, v2, v3, v4, v5, v6, v7, v8, v9, v10] (.inl b :: .inl a :: st) I J = GO x d 161 Q 210 [v0, v1, v2, v3, v4, v5, v6, v7, v8, v9, v10] (.inl (shrI a b) :: st) I J := ge (A := (15, 210, 0, 0, 0)) rfl
set_option maxRecDepth 10000 in
theorem g_161_210 : GO x d 161 Q 210 [v0, v1, v2, v3, v4, v5, v6, v7, v8, v9, v10] st I J = GO x d 161 Q 211 [v0, v1, v2, v3, v4, v5, v6, v7, v8, v9, v10] (.inl (1) :: st) I J := ge (A := (0, 211, 0, 0, 1)) rfl
set_option maxRecDepth 10000 in
theorem g_161_211 : GO x d 161 Q 211 [v0, v1, v2, v3, v4, v5, v6, v7, v8, v9, v10] (.inl b :: .inl a :: st) I J = GO x d 161 Q 212 [v0, v1, v2, v3, v4, v5, v6, v7, v8, v9, v10] (.inl (andI a b) :: st) I J := ge (A := (11, 212, 0, 0, 0)) rfl
set_option maxRecDepth 10000 in
theorem g_161_212 : GO x d 161 Q 212 [v0, v1, v2, v3, v4, v5, v6, v7, v8, v9, v10] st I J = GO x d 161 Q 213 [v0, v1, v2, v3, v4, v5, v6, v7, v8, v9, v10] (.inl (1) :: st) I J := ge (A := (0, 213, 0, 0, 1)) rfl
set_option maxRecDepth 10000 in
theorem g_161_213 : GO x d 161 Q 213 [v0, v1, v2, v3, v4, v5, v6, v7, v8, v9, v10] (.inl b :: .inl a :: st) I J = (inR a ∧ inR b ∧ if a = b then GO x d 161 Q 216 [v0, v1, v2, v3, v4, v5, v6, v7, v8, v9, v10] st I J else GO x d 161 Q 235 [v0, v1, v2, v3, v4, v5, v6, v7, v8, v9, v10] st I J) := (ge (A := (34, 216, 235, 1, 0)) rfl).trans (gicn (p := a = b) inferInstance)
set_option maxRecDepth 10000 in
theorem g_161_216 : GO x d 161 Q 216 [some (.inr (.inr w)), v1, v2, v3, v4, v5, v6, v7, v8, v9, v10] st I J = GO x d 161 Q 217 [some (.inr (.inr w)), v1, v2, v3, v4, v5, v6, v7, v8, v9, v10] (.inr (.inr w) :: st) I J := ge (A := (2, 217, 0, 0, 0)) rfl
set_option maxRecDepth 10000 in
theorem g_161_217 : GO x d 161 Q 217 [v0, v1, v2, v3, v4, v5, v6, v7, v8, v9, v10] (.inr (.inr (.inl r)) :: st) I J = (okF r 10 26 ∧ GO x d 161 Q 220 [v0, v1, v2, v3, v4, v5, v6, v7, v8, v9, v10] (.inr (.inr (.inl (rfN r 26))) :: st) I J) := (ge (A := (39, 220, 10, 26, 0)) rfl).trans (gref (f := fun q => GO x d 161 Q 220 [v0, v1, v2, v3, v4, v5, v6, v7, v8, v9, v10] (.inr (.inr (.inl q)) :: st) I J))
set_option maxRecDepth 10000 in
theorem g_161_220 : GO x d 161 Q 220 [v0, v1, v2, v3, v4, some (.inl a), v6, v7, v8, v9, v10] st I J = GO x d 161 Q 222 [v0, v1, v2, v3, v4, some (.inl a), v6, v7, v8, v9, v10] (.inl a :: st) I J := ge (A := (1, 222, 5, 0, 0)) rfl
set_option maxRecDepth 10000 in
theorem g_161_222 : GO x d 161 Q 222 [v0, v1, v2, v3, v4, v5, v6, v7, v8, v9, v10] st I J = GO x d 161 Q 223 [v0, v1, v2, v3, v4, v5, v6, v7, v8, v9, v10] (.inl (1) :: st) I J := ge (A := (0, 223, 0, 0, 1)) rfl
set_option maxRecDepth 10000 in
theorem g_161_223 : GO x d 161 Q 223 [v0, v1, v2, v3, v4, v5, v6, v7, v8, v9, some (.inl a)] st I J = GO x d 161 Q 225 [v0, v1, v2, v3, v4, v5, v6, v7, v8, v9, some (.inl a)] (.inl a :: st) I J := ge (A := (1, 225, 10, 0, 0)) rfl
set_option maxRecDepth 10000 in
theorem g_161_225 : GO x d 161 Q 225 [v0, v1, v2, v3, v4, v5, v6, v7, v8, v9, v10] (.inl b :: .inl a :: st) I J = GO x d 161 Q 226 [v0, v1, v2, v3, v4, v5, v6, v7, v8, v9, v10] (.inl (shlI a b) :: st) I J := ge (A := (14, 226, 0, 0, 0)) rfl
set_option maxRecDepth 10000 in
theorem g_161_226 : GO x d 161 Q 226 [v0, v1, v2, v3, v4, v5, v6, v7, v8, v9, v10] (.inl b :: .inl a :: st) I J = GO x d 161 Q 227 [v0, v1, v2, v3, v4, v5, v6, v7, v8, v9, v10] (.inl (xorI a b) :: st) I J := ge (A := (13, 227, 0, 0, 0)) rfl
set_option maxRecDepth 10000 in
theorem g_161_227 : GO x d 161 Q 227 [v0, v1, v2, v3, v4, v5, v6, v7, v8, v9, v10] (.inl a :: .inr (.inr (.inl r)) :: st) I J = (okA r 22 ∧ 0 ≤ a ∧ a < lnN r ∧ GO x d 161 Q 228 [v0, v1, v2, v3, v4, v5, v6, v7, v8, v9, v10] (.inl (I r a) :: st) I J) := ge (A := (46, 228, 0, 0, 0)) rfl
set_option maxRecDepth 10000 in
theorem g_161_228 : GO x d 161 Q 228 [v0, v1, v2, v3, v4, v5, v6, v7, v8, v9, v10] (.inl a :: st) I J = (inR a ∧ if a = 0 then GO x d 161 Q 235 [v0, v1, v2, v3, v4, v5, v6, v7, v8, v9, v10] st I J else GO x d 161 Q 231 [v0, v1, v2, v3, v4, v5, v6, v7, v8, v9, v10] st I J) := (ge (A := (33, 231, 235, 0, 0)) rfl).trans (gif (p := a = 0) inferInstance)
set_option maxRecDepth 10000 in
theorem g_161_231 : GO x d 161 Q 231 [v0, v1, v2, v3, v4, v5, v6, v7, v8, v9, v10] st I J = GO x d 161 Q 232 [v0, v1, v2, v3, v4, v5, v6, v7, v8, v9, v10] (.inl (1) :: st) I J := ge (A := (0, 232, 0, 0, 1)) rfl
set_option maxRecDepth 10000 in
theorem g_161_232 : GO x d 161 Q 232 [v0, v1, v2, v3, v4, v5, v6, v7, v8, v9, v10] st I J = GO x d 161 Q 236 [v0, v1, v2, v3, v4, v5, v6, v7, v8, v9, v10] st I J := ge (A := (35, 235, 236, 0, 0)) rfl
set_option maxRecDepth 10000 in
theorem g_161_235 : GO x d 161 Q 235 [v0, v1, v2, v3, v4, v5, v6, v7, v8, v9, v10] st I J = GO x d 161 Q 236 [v0, v1, v2, v3, v4, v5, v6, v7, v8, v9, v10] (.inl (0) :: st) I J := ge (A := (0, 236, 0, 0, 0)) rfl
set_option maxRecDepth 10000 in
theorem g_161_236 : GO x d 161 Q 236 [v0, v1, v2, v3, v4, v5, v6, v7, v8, v9, v10] (.inl a :: st) I J = (nlO (some v8) = true ∧ GO x d 161 Q 238 [v0, v1, v2, v3, v4, v5, v6, v7, v8, some (.inl a), v10] st I J) := (ge (A := (4, 238, 9, 0, 0)) rfl).trans (gst (Nat.le_of_ble_eq_true rfl) _)
set_option maxRecDepth 10000 in
theorem g_161_238 : GO x d 161 Q 238 [v0, v1, v2, v3, v4, v5, v6, v7, v8, v9, some (.inl a)] st I J = (nlO (some v9) = true ∧ GO x d 161 Q 241 [v0, v1, v2, v3, v4, v5, v6, v7, v8, v9, some (.inl (a + (1)))] st I J) := ge (A := (7, 241, 10, 0, 1)) rfl
set_option maxRecDepth 10000 in
theorem g_161_241 : GO x d 161 Q 241 [v0, v1, v2, v3, v4, v5, v6, v7, v8, v9, v10] st I J = GO x d 161 Q 165 [v0, v1, v2, v3, v4, v5, v6, v7, v8, v9, v10] st I J := ge (A := (35, 244, 165, 0, 0)) rfl
set_option maxRecDepth 10000 in
theorem g_161_244 : GO x d 161 Q 244 [some (.inr (.inr w)), v1, v2, v3, v4, v5, v6, v7, v8, v9, v10] st I J = GO x d 161 Q 245 [some (.inr (.inr w)), v1, v2, v3, v4, v5, v6, v7, v8, v9, v10] (.inr (.inr w) :: st) I J := ge (A := (2, 245, 0, 0, 0)) rfl
set_option maxRecDepth 10000 in
theorem g_161_245 : GO x d 161 Q 245 [v0, v1, v2, v3, v4, v5, v6, v7, v8, v9, v10] (.inr (.inr (.inl r)) :: st) I J = (okF r 10 26 ∧ GO x d 161 Q 248 [v0, v1, v2, v3, v4, v5, v6, v7, v8, v9, v10] (.inr (.inr (.inl (rfN r 26))) :: st) I J) := (ge (A := (39, 248, 10, 26, 0)) rfl).trans (gref (f := fun q => GO x d 161 Q 248 [v0, v1, v2, v3, v4, v5, v6, v7, v8, v9, v10] (.inr (.inr (.inl q)) :: st) I J))
set_option maxRecDepth 10000 in
theorem g_161_248 : GO x d 161 Q 248 [v0, v1, v2, v3, v4, some (.inl a), v6, v7, v8, v9, v10] st I J = GO x d 161 Q 250 [v0, v1, v2, v3, v4, some (.inl a), v6, v7, v8, v9, v10] (.inl a :: st) I J := ge (A := (1, 250, 5, 0, 0)) rfl
set_option maxRecDepth 10000 in
theorem g_161_250 : GO x d 161 Q 250 [v0, v1, v2, v3, v4, v5, v6, v7, v8, some (.inl a), v10] st I J = GO x d 161 Q 252 [v0, v1, v2, v3, v4, v5, v6, v7, v8, some (.inl a), v10] (.inl a :: st) I J := ge (A := (1, 252, 9, 0, 0)) rfl
set_option maxRecDepth 10000 in
theorem g_161_252 : GO x d 161 Q 252 [v0, v1, v2, v3, v4, v5, v6, v7, v8, v9, v10] (.inl b :: .inl a :: .inr (.inr (.inl r)) :: st) I J = (okA r 22 ∧ 0 ≤ a ∧ a < lnN r ∧ ret01 b ∧ GO x d 161 Q 253 [v0, v1, v2, v3, v4, v5, v6, v7, v8, v9, v10] st (up I r a b) J) := ge (A := (47, 253, 0, 0, 0)) rfl
set_option maxRecDepth 10000 in
theorem g_161_253 : GO x d 161 Q 253 [v0, v1, v2, v3, v4, some (.inl a), v6, v7, v8, v9, v10] st I J = (nlO (some v4) = true ∧ GO x d 161 Q 256 [v0, v1, v2, v3, v4, some (.inl (a + (1))), v6, v7, v8, v9, v10] st I J) := ge (A := (7, 256, 5, 0, 1)) rfl
set_option maxRecDepth 10000 in
theorem g_161_256 : GO x d 161 Q 256 [v0, v1, v2, v3, v4, v5, v6, v7, v8, v9, v10] st I J = GO x d 161 Q 49 [v0, v1, v2, v3, v4, v5, v6, v7, v8, v9, v10] st I J := ge (A := (35, 259, 49, 0, 0)) rfl
set_option maxRecDepth 10000 in
theorem g_161_259 : GO x d 161 Q 259 [v0, v1, v2, v3, v4, v5, v6, v7, v8, v9, v10] st I J = GO x d 161 Q 260 [v0, v1, v2, v3, v4, v5, v6, v7, v8, v9, v10] (.inl (1) :: st) I J := ge (A := (0, 260, 0, 0, 1)) rfl
set_option maxRecDepth 10000 in
theorem g_161_260 : GO x d 161 Q 260 [some (.inr (.inr w)), v1, v2, v3, v4, v5, v6, v7, v8, v9, v10] st I J = GO x d 161 Q 261 [some (.inr (.inr w)), v1, v2, v3, v4, v5, v6, v7, v8, v9, v10] (.inr (.inr w) :: st) I J := ge (A := (2, 261, 0, 0, 0)) rfl
set_option maxRecDepth 10000 in
theorem g_161_261 : GO x d 161 Q 261 [v0, v1, v2, v3, v4, v5, v6, v7, v8, v9, v10] (.inr (.inr (.inl r)) :: st) I J = (okF r 10 2 ∧ GO x d 161 Q 264 [v0, v1, v2, v3, v4, v5, v6, v7, v8, v9, v10] (.inr (.inr (.inl (rfN r 2))) :: st) I J) := (ge (A := (39, 264, 10, 2, 0)) rfl).trans (gref (f := fun q => GO x d 161 Q 264 [v0, v1, v2, v3, v4, v5, v6, v7, v8, v9, v10] (.inr (.inr (.inl q)) :: st) I J))
set_option maxRecDepth 10000 in
theorem g_161_264 : GO x d 161 Q 264 [v0, v1, v2, v3, v4, v5, v6, v7, v8, v9, v10] st I J = GO x d 161 Q 265 [v0, v1, v2, v3, v4, v5, v6, v7, v8, v9, v10] (.inl (2) :: st) I J := ge (A := (0, 265, 0, 0, 2)) rfl
set_option maxRecDepth 10000 in
theorem h_161_265 : GO x d 161 Q 265 [v0, v1, v2, v3, v4, v5, v6, v7, v8, v9, v10] (.inl a :: .inr (.inr (.inr q)) :: st) I J = (q < 4 ∧ 0 ≤ a ∧ a < (roA x q).1 ∧ GO x d 161 Q 266 [v0, v1, v2, v3, v4, v5, v6, v7, v8, v9, v10] (.inl ((roA x q).2 a.toNat) :: st) I J) := ge (A := (44, 266, 0, 0, 0)) rfl
set_option maxRecDepth 10000 in
theorem g_161_265 : GO x d 161 Q 265 [v0, v1, v2, v3, v4, v5, v6, v7, v8, v9, v10] (.inl a :: .inr (.inr (.inl r)) :: st) I J = (okA r 20 ∧ 0 ≤ a ∧ a < lnN r ∧ GO x d 161 Q 266 [v0, v1, v2, v3, v4, v5, v6, v7, v8, v9, v10] (.inl (I r a) :: st) I J) := ge (A := (44, 266, 0, 0, 0)) rfl
set_option maxRecDepth 10000 in
theorem g_161_266 : GO x d 161 Q 266 [v0, v1, v2, v3, v4, v5, v6, v7, v8, v9, v10] (.inl b :: .inl a :: st) I J = GO x d 161 Q 267 [v0, v1, v2, v3, v4, v5, v6, v7, v8, v9, v10] (.inl (shlI a b) :: st) I J := ge (A := (14, 267, 0, 0, 0)) rfl
set_option maxRecDepth 10000 in
theorem g_161_267 : GO x d 161 Q 267 [v0, v1, v2, v3, v4, v5, v6, v7, v8, v9, v10] st I J = GO x d 161 Q 268 [v0, v1, v2, v3, v4, v5, v6, v7, v8, v9, v10] (.inl (1) :: st) I J := ge (A := (0, 268, 0, 0, 1)) rfl
set_option maxRecDepth 10000 in
theorem g_161_268 : GO x d 161 Q 268 [v0, v1, v2, v3, v4, v5, v6, v7, v8, v9, v10] (.inl b :: .inl a :: st) I J = GO x d 161 Q 269 [v0, v1, v2, v3, v4, v5, v6, v7, v8, v9, v10] (.inl (a - b) :: st) I J := ge (A := (9, 269, 0, 0, 0)) rfl
set_option maxRecDepth 10000 in
theorem g_161_269 : GO x d 161 Q 269 [v0, v1, v2, v3, v4, v5, v6, v7, v8, v9, v10] (.inl a :: st) I J = (nlO (some v4) = true ∧ GO x d 161 Q 271 [v0, v1, v2, v3, v4, some (.inl a), v6, v7, v8, v9, v10] st I J) := (ge (A := (4, 271, 5, 0, 0)) rfl).trans (gst (Nat.le_of_ble_eq_true rfl) _)
set_option maxRecDepth 10000 in
theorem g_161_271 : GO x d 161 Q 271 [v0, v1, v2, v3, v4, some (.inl a), v6, v7, v8, v9, v10] st I J = GO x d 161 Q 273 [v0, v1, v2, v3, v4, some (.inl a), v6, v7, v8, v9, v10] (.inl a :: st) I J := ge (A := (1, 273, 5, 0, 0)) rfl
set_option maxRecDepth 10000 in
theorem g_161_273 : GO x d 161 Q 273 [v0, v1, v2, v3, v4, v5, v6, v7, v8, v9, v10] (.inl a :: st) I J = (inR a ∧ if a < 0 then GO x d 161 Q 338 [v0, v1, v2, v3, v4, v5, v6, v7, v8, v9, v10] st I J else GO x d 161 Q 276 [v0, v1, v2, v3, v4, v5, v6, v7, v8, v9, v10] st I J) := (ge (A := (33, 276, 338, 2, 0)) rfl).trans (gif (p := a < 0) inferInstance)
set_option maxRecDepth 10000 in
theorem g_161_276 : GO x d 161 Q 276 [some (.inr (.inr w)), v1, v2, v3, v4, v5, v6, v7, v8, v9, v10] st I J = GO x d 161 Q 277 [some (.inr (.inr w)), v1, v2, v3, v4, v5, v6, v7, v8, v9, v10] (.inr (.inr w) :: st) I J := ge (A := (2, 277, 0, 0, 0)) rfl
set_option maxRecDepth 10000 in
theorem g_161_277 : GO x d 161 Q 277 [v0, v1, v2, v3, v4, v5, v6, v7, v8, v9, v10] (.inr (.inr (.inl r)) :: st) I J = (okF r 10 26 ∧ GO x d 161 Q 280 [v0, v1, v2, v3, v4, v5, v6, v7, v8, v9, v10] (.inr (.inr (.inl (rfN r 26))) :: st) I J) := (ge (A := (39, 280, 10, 26, 0)) rfl).trans (gref (f := fun q => GO x d 161 Q 280 [v0, v1, v2, v3, v4, v5, v6, v7, v8, v9, v10] (.inr (.inr (.inl q)) :: st) I J))
set_option maxRecDepth 10000 in
theorem g_161_280 : GO x d 161 Q 280 [v0, v1, v2, v3, v4, some (.inl a), v6, v7, v8, v9, v10] st I J = GO x d 161 Q 282 [v0, v1, v2, v3, v4, some (.inl a), v6, v7, v8, v9, v10] (.inl a :: st) I J := ge (A := (1, 282, 5, 0, 0)) rfl
set_option maxRecDepth 10000 in
theorem g_161_282 : GO x d 161 Q 282 [v0, v1, v2, v3, v4, v5, v6, v7, v8, v9, v10] (.inl a :: .inr (.inr (.inl r)) :: st) I J = (okA r 22 ∧ 0 ≤ a ∧ a < lnN r ∧ GO x d 161 Q 283 [v0, v1, v2, v3, v4, v5, v6, v7, v8, v9, v10] (.inl (I r a) :: st) I J) := ge (A := (46, 283, 0, 0, 0)) rfl
set_option maxRecDepth 10000 in
theorem g_161_283 : GO x d 161 Q 283 [v0, v1, v2, v3, v4, v5, v6, v7, v8, v9, v10] (.inl a :: st) I J = (inR a ∧ if a = 0 then GO x d 161 Q 302 [v0, v1, v2, v3, v4, v5, v6, v7, v8, v9, v10] st I J else GO x d 161 Q 286 [v0, v1, v2, v3, v4, v5, v6, v7, v8, v9, v10] st I J) := (ge (A := (33, 286, 302, 0, 0)) rfl).trans (gif (p := a = 0) inferInstance)
set_option maxRecDepth 10000 in
theorem g_161_286 : GO x d 161 Q 286 [v0, v1, v2, v3, v4, some (.inl a), v6, v7, v8, v9, v10] st I J = GO x d 161 Q 288 [v0, v1, v2, v3, v4, some (.inl a), v6, v7, v8, v9, v10] (.inl a :: st) I J := ge (A := (1, 288, 5, 0, 0)) rfl
set_option maxRecDepth 10000 in
theorem g_161_288 : GO x d 161 Q 288 [v0, v1, v2, v3, v4, v5, v6, v7, v8, v9, v10] [.inl i0] I J = EX x d 158 [.inl i0] I J (fun r1 I1 J1 => GO x d 161 Q 291 [v0, v1, v2, v3, v4, v5, v6, v7, v8, v9, v10] (r1.toList ++ []) I1 J1) := (ge (A := (52, 291, 158, 1, 0)) rfl).trans (gtrue2 (Nat.le_of_ble_eq_true rfl) (Nat.le_of_ble_eq_true rfl))
set_option maxRecDepth 10000 in
theorem g_161_291 : GO x d 161 Q 291 [v0, some (.inl a), v2, v3, v4, v5, v6, v7, v8, v9, v10] st I J = GO x d 161 Q 292 [v0, some (.inl a), v2, v3, v4, v5, v6, v7, v8, v9, v10] (.inl a :: st) I J := ge (A := (1, 292, 1, 0, 0)) rfl
set_option maxRecDepth 10000 in
theorem g_161_292 : GO x d 161 Q 292 [v0, v1, v2, v3, v4, v5, v6, v7, v8, v9, v10] [.inl i0, .inl i1] I J = EX x d 158 [.inl i0] I J (fun r1 I1 J1 => GO x d 161 Q 295 [v0, v1, v2, v3, v4, v5, v6, v7, v8, v9, v10] (r1.toList ++ [.inl i1]) I1 J1) := (ge (A := (52, 295, 158, 1, 0)) rfl).trans (gtrue2 (Nat.le_of_ble_eq_true rfl) (Nat.le_of_ble_eq_true rfl))
set_option maxRecDepth 10000 in
theorem g_161_295 : GO x d 161 Q 295 [v0, v1, v2, v3, v4, v5, v6, v7, v8, v9, v10] (.inl b :: .inl a :: st) I J = (inR a ∧ inR b ∧ if a = b then GO x d 161 Q 298 [v0, v1, v2, v3, v4, v5, v6, v7, v8, v9, v10] st I J else GO x d 161 Q 302 [v0, v1, v2, v3, v4, v5, v6, v7, v8, v9, v10] st I J) := (ge (A := (34, 298, 302, 1, 0)) rfl).trans (gicn (p := a = b) inferInstance)
set_option maxRecDepth 10000 in
theorem g_161_298 : GO x d 161 Q 298 [v0, v1, v2, v3, v4, v5, v6, v7, v8, v9, v10] st I J = GO x d 161 Q 299 [v0, v1, v2, v3, v4, v5, v6, v7, v8, v9, v10] (.inl (1) :: st) I J := ge (A := (0, 299, 0, 0, 1)) rfl
set_option maxRecDepth 10000 in
theorem g_161_299 : GO x d 161 Q 299 [v0, v1, v2, v3, v4, v5, v6, v7, v8, v9, v10] st I J = GO x d 161 Q 303 [v0, v1, v2, v3, v4, v5, v6, v7, v8, v9, v10] st I J := ge (A := (35, 302, 303, 0, 0)) rfl
set_option maxRecDepth 10000 in
theorem g_161_302 : GO x d 161 Q 302 [v0, v1, v2, v3, v4, v5, v6, v7, v8, v9, v10] st I J = GO x d 161 Q 303 [v0, v1, v2, v3, v4, v5, v6, v7, v8, v9, v10] (.inl (0) :: st) I J := ge (A := (0, 303, 0, 0, 0)) rfl
set_option maxRecDepth 10000 in
theorem g_161_303 : GO x d 161 Q 303 [v0, v1, v2, v3, v4, v5, v6, v7, v8, v9, v10] (.inl a :: st) I J = (nlO (some v5) = true ∧ GO x d 161 Q 305 [v0, v1, v2, v3, v4, v5, some (.inl a), v7, v8, v9, v10] st I J) := (ge (A := (4, 305, 6, 0, 0)) rfl).trans (gst (Nat.le_of_ble_eq_true rfl) _)
set_option maxRecDepth 10000 in
theorem g_161_305 : GO x d 161 Q 305 [v0, v1, v2, some (.inl a), v4, v5, v6, v7, v8, v9, v10] st I J = GO x d 161 Q 306 [v0, v1, v2, some (.inl a), v4, v5, v6, v7, v8, v9, v10] (.inl a :: st) I J := ge (A := (1, 306, 3, 0, 0)) rfl
set_option maxRecDepth 10000 in
theorem g_161_306 : GO x d 161 Q 306 [v0, v1, v2, v3, v4, v5, some (.inl a), v7, v8, v9, v10] st I J = GO x d 161 Q 308 [v0, v1, v2, v3, v4, v5, some (.inl a), v7, v8, v9, v10] (.inl a :: st) I J := ge (A := (1, 308, 6, 0, 0)) rfl
set_option maxRecDepth 10000 in
theorem g_161_308 : GO x d 161 Q 308 [v0, v1, v2, v3, v4, v5, v6, v7, v8, v9, v10] (.inl a :: st) I J = (inR a ∧ if a = 0 then GO x d 161 Q 315 [v0, v1, v2, v3, v4, v5, v6, v7, v8, v9, v10] st I J else GO x d 161 Q 311 [v0, v1, v2, v3, v4, v5, v6, v7, v8, v9, v10] st I J) := (ge (A := (33, 311, 315, 0, 0)) rfl).trans (gif (p := a = 0) inferInstance)
set_option maxRecDepth 10000 in
theorem g_161_311 : GO x d 161 Q 311 [v0, v1, v2, v3, v4, v5, v6, v7, v8, v9, v10] st I J = GO x d 161 Q 312 [v0, v1, v2, v3, v4, v5, v6, v7, v8, v9, v10] (.inl (1) :: st) I J := ge (A := (0, 312, 0, 0, 1)) rfl
set_option maxRecDepth 10000 in
theorem g_161_312 : GO x d 161 Q 312 [v0, v1, v2, v3, v4, v5, v6, v7, v8, v9, v10] st I J = GO x d 161 Q 316 [v0, v1, v2, v3, v4, v5, v6, v7, v8, v9, v10] st I J := ge (A := (35, 315, 316, 0, 0)) rfl
set_option maxRecDepth 10000 in
theorem g_161_315 : GO x d 161 Q 315 [v0, v1, v2, v3, v4, v5, v6, v7, v8, v9, v10] st I J = GO x d 161 Q 316 [v0, v1, v2, v3, v4, v5, v6, v7, v8, v9, v10] (.inl (0) :: st) I J := ge (A := (0, 316, 0, 0, 0)) rfl
set_option maxRecDepth 10000 in
theorem g_161_316 : GO x d 161 Q 316 [v0, v1, v2, v3, v4, v5, v6, v7, v8, v9, v10] (.inl b :: .inl a :: st) I J = GO x d 161 Q 317 [v0, v1, v2, v3, v4, v5, v6, v7, v8, v9, v10] (.inl (a + b) :: st) I J := ge (A := (8, 317, 0, 0, 0)) rfl
set_option maxRecDepth 10000 in
theorem g_161_317 : GO x d 161 Q 317 [v0, v1, v2, v3, v4, v5, v6, v7, v8, v9, v10] (.inl a :: st) I J = (nlO (some v2) = true ∧ GO x d 161 Q 318 [v0, v1, v2, some (.inl a), v4, v5, v6, v7, v8, v9, v10] st I J) := (ge (A := (4, 318, 3, 0, 0)) rfl).trans (gst (Nat.le_of_ble_eq_true rfl) _)
set_option maxRecDepth 10000 in
theorem g_161_318 : GO x d 161 Q 318 [v0, v1, v2, v3, v4, v5, some (.inl a), v7, v8, v9, v10] st I J = GO x d 161 Q 320 [v0, v1, v2, v3, v4, v5, some (.inl a), v7, v8, v9, v10] (.inl a :: st) I J := ge (A := (1, 320, 6, 0, 0)) rfl
set_option maxRecDepth 10000 in
theorem g_161_320 : GO x d 161 Q 320 [v0, v1, v2, v3, v4, v5, v6, v7, v8, v9, v10] (.inl a :: st) I J = (inR a ∧ if a = 0 then GO x d 161 Q 328 [v0, v1, v2, v3, v4, v5, v6, v7, v8, v9, v10] st I J else GO x d 161 Q 323 [v0, v1, v2, v3, v4, v5, v6, v7, v8, v9, v10] st I J) := (ge (A := (33, 323, 328, 0, 0)) rfl).trans (gif (p := a = 0) inferInstance)
set_option maxRecDepth 10000 in
theorem g_161_323 : GO x d 161 Q 323 [v0, v1, v2, v3, v4, some (.inl a), v6, v7, v8, v9, v10] st I J = GO x d 161 Q 325 [v0, v1, v2, v3, v4, some (.inl a), v6, v7, v8, v9, v10] (.inl a :: st) I J := ge (A := (1, 325, 5, 0, 0)) rfl
set_option maxRecDepth 10000 in
theorem g_161_325 : GO x d 161 Q 325 [v0, v1, v2, v3, v4, v5, v6, v7, v8, v9, v10] st I J = GO x d 161 Q 330 [v0, v1, v2, v3, v4, v5, v6, v7, v8, v9, v10] st I J := ge (A := (35, 328, 330, 0, 0)) rfl
set_option maxRecDepth 10000 in
theorem g_161_328 : GO x d 161 Q 328 [v0, v1, v2, v3, some (.inl a), v5, v6, v7, v8, v9, v10] st I J = GO x d 161 Q 330 [v0, v1, v2, v3, some (.inl a), v5, v6, v7, v8, v9, v10] (.inl a :: st) I J := ge (A := (1, 330, 4, 0, 0)) rfl
set_option maxRecDepth 10000 in
theorem g_161_330 : GO x d 161 Q 330 [v0, v1, v2, v3, v4, v5, v6, v7, v8, v9, v10] (.inl a :: st) I J = (nlO (some v3) = true ∧ GO x d 161 Q 332 [v0, v1, v2, v3, some (.inl a), v5, v6, v7, v8, v9, v10] st I J) := (ge (A := (4, 332, 4, 0, 0)) rfl).trans (gst (Nat.le_of_ble_eq_true rfl) _)
set_option maxRecDepth 10000 in
theorem g_161_332 : GO x d 161 Q 332 [v0, v1, v2, v3, v4, some (.inl a), v6, v7, v8, v9, v10] st I J = (nlO (some v4) = true ∧ GO x d 161 Q 335 [v0, v1, v2, v3, v4, some (.inl (a + (-1))), v6, v7, v8, v9, v10] st I J) := ge (A := (7, 335, 5, 0, -1)) rfl
set_option maxRecDepth 10000 in
theorem g_161_335 : GO x d 161 Q 335 [v0, v1, v2, v3, v4, v5, v6, v7, v8, v9, v10] st I J = GO x d 161 Q 271 [v0, v1, v2, v3, v4, v5, v6, v7, v8, v9, v10] st I J := ge (A := (35, 338, 271, 0, 0)) rfl
set_option maxRecDepth 10000 in
theorem g_161_338 : GO x d 161 Q 338 [v0, v1, some (.inl a), v3, v4, v5, v6, v7, v8, v9, v10] st I J = GO x d 161 Q 339 [v0, v1, some (.inl a), v3, v4, v5, v6, v7, v8, v9, v10] (.inl a :: st) I J := ge (A := (1, 339, 2, 0, 0)) rfl
set_option maxRecDepth 10000 in
theorem g_161_339 : GO x d 161 Q 339 [v0, v1, v2, v3, v4, v5, v6, v7, v8, v9, v10] (.inl a :: st) I J = (inR a ∧ if a = 0 then GO x d 161 Q 342 [v0, v1, v2, v3, v4, v5, v6, v7, v8, v9, v10] st I J else GO x d 161 Q 346 [v0, v1, v2, v3, v4, v5, v6, v7, v8, v9, v10] st I J) := (ge (A := (33, 342, 346, 1, 0)) rfl).trans (gifn (p := a = 0) inferInstance)
set_option maxRecDepth 10000 in
theorem g_161_342 : GO x d 161 Q 342 [v0, v1, v2, some (.inl a), v4, v5, v6, v7, v8, v9, v10] st I J = GO x d 161 Q 343 [v0, v1, v2, some (.inl a), v4, v5, v6, v7, v8, v9, v10] (.inl a :: st) I J := ge (A := (1, 343, 3, 0, 0)) rfl
set_option maxRecDepth 10000 in
theorem g_161_343 : GO x d 161 Q 343 [v0, v1, v2, v3, v4, v5, v6, v7, v8, v9, v10] st I J = GO x d 161 Q 348 [v0, v1, v2, v3, v4, v5, v6, v7, v8, v9, v10] st I J := ge (A := (35, 346, 348, 0, 0)) rfl
set_option maxRecDepth 10000 in
theorem g_161_346 : GO x d 161 Q 346 [v0, v1, v2, v3, some (.inl a), v5, v6, v7, v8, v9, v10] st I J = GO x d 161 Q 348 [v0, v1, v2, v3, some (.inl a), v5, v6, v7, v8, v9, v10] (.inl a :: st) I J := ge (A := (1, 348, 4, 0, 0)) rfl
set_option maxRecDepth 10000 in
theorem g_161_348 : GO x d 161 Q 348 [v0, v1, v2, v3, v4, v5, v6, v7, v8, v9, v10] [.inl a] I J = Q (some (.inl a)) I J := ge (A := (55, 349, 0, 0, 0)) rfl
set_option maxRecDepth 10000 in
theorem e_161 : EX x (d + 1) 161 [.inr (.inr w0), .inl i0, .inl i1] I J Q = GO x d 161 Q 0 [some (.inr (.inr w0)), some (.inl i0), some (.inl i1), none, none, none, none, none, none, none, none] [] I J := ex_eq (Nat.le_of_ble_eq_true rfl) rfl (Nat.le_of_ble_eq_true rfl) rfl
set_option maxRecDepth 10000 in
theorem g_162_0 : GO x d 162 Q 0 [v0, v1, some (.inl a), v3, v4] st I J = GO x d 162 Q 1 [v0, v1, some (.inl a), v3, v4] (.inl a :: st) I J := ge (A := (1, 1, 2, 0, 0)) rfl
set_option maxRecDepth 10000 in
theorem g_162_1 : GO x d 162 Q 1 [v0, v1, v2, v3, v4] (.inl a :: st) I J = (inR a ∧ if a = 0 then GO x d 162 Q 4 [v0, v1, v2, v3, v4] st I J else GO x d 162 Q 6 [v0, v1, v2, v3, v4] st I J) := (ge (A := (33, 4, 6, 1, 0)) rfl).trans (gifn (p := a = 0) inferInstance)
set_option maxRecDepth 10000 in
theorem g_162_4 : GO x d 162 Q 4 [v0, v1, v2, v3, v4] st I J = GO x d 162 Q 5 [v0, v1, v2, v3, v4] (.inl (1) :: st) I J := ge (A := (0, 5, 0, 0, 1)) rfl
set_option maxRecDepth 10000 in
theorem g_162_5 : GO x d 162 Q 5 [v0, v1, v2, v3, v4] [.inl a] I J = Q (some (.inl a)) I J := ge (A := (55, 6, 0, 0, 0)) rfl
set_option maxRecDepth 10000 in
theorem g_162_6 : GO x d 162 Q 6 [v0, v1, v2, v3, v4] st I J = GO x d 162 Q 7 [v0, v1, v2, v3, v4] (.inl (0) :: st) I J := ge (A := (0, 7, 0, 0, 0)) rfl
set_option maxRecDepth 10000 in
theorem g_162_7 : GO x d 162 Q 7 [v0, v1, v2, v3, v4] (.inl a :: st) I J = (nlO (some v2) = true ∧ GO x d 162 Q 8 [v0, v1, v2, some (.inl a), v4] st I J) := (ge (A := (4, 8, 3, 0, 0)) rfl).trans (gst (Nat.le_of_ble_eq_true rfl) _)
set_option maxRecDepth 10000 in
theorem g_162_8 : GO x d 162 Q 8 [some (.inr (.inr w)), v1, v2, v3, v4] st I J = GO x d 162 Q 9 [some (.inr (.inr w)), v1, v2, v3, v4] (.inr (.inr w) :: st) I J := ge (A := (2, 9, 0, 0, 0)) rfl
set_option maxRecDepth 10000 in
theorem g_162_9 : GO x d 162 Q 9 [v0, v1, v2, v3, v4] st I J = GO x d 162 Q 10 [v0, v1, v2, v3, v4] (.inl (0) :: st) I J := ge (A := (0, 10, 0, 0, 0)) rfl
set_option maxRecDepth 10000 in
theorem g_162_10 : GO x d 162 Q 10 [v0, v1, v2, v3, v4] [.inl i0, .inr (.inr (.inl r))] I J = (okO r 10 ∧ EX x d 150 [.inr (.inr (.inl r)), .inl i0] I J (fun r1 I1 J1 => GO x d 162 Q 13 [v0, v1, v2, v3, v4] (r1.toList ++ []) I1 J1)) := (ge (A := (53, 13, 150, 1, 0)) rfl).trans (gtrue (Nat.le_of_ble_eq_true rfl))
set_option maxRecDepth 10000 in
theorem g_162_13 : GO x d 162 Q 13 [v0, v1, v2, v3, v4] st I J = GO x d 162 Q 14 [v0, v1, v2, v3, v4] (.inl (0) :: st) I J := ge (A := (0, 14, 0, 0, 0)) rfl
set_option maxRecDepth 10000 in
theorem g_162_14 : GO x d 162 Q 14 [v0, v1, v2, v3, v4] (.inl a :: st) I J = (nlO (some v3) = true ∧ GO x d 162 Q 16 [v0, v1, v2, v3, some (.inl a)] st I J) := (ge (A := (4, 16, 4, 0, 0)) rfl).trans (gst (Nat.le_of_ble_eq_true rfl) _)
set_option maxRecDepth 10000 in
theorem g_162_16 : GO x d 162 Q 16 [some (.inr (.inr w)), v1, v2, v3, v4] st I J = GO x d 162 Q 17 [some (.inr (.inr w)), v1, v2, v3, v4] (.inr (.inr w) :: st) I J := ge (A := (2, 17, 0, 0, 0)) rfl
set_option maxRecDepth 10000 in
theorem g_162_17 : GO x d 162 Q 17 [v0, v1, v2, v3, v4] (.inr (.inr (.inl r)) :: st) I J = (okF r 10 22 ∧ GO x d 162 Q 20 [v0, v1, v2, v3, v4] (.inr (.inr (.inl (rfN r 22))) :: st) I J) := (ge (A := (39, 20, 10, 22, 0)) rfl).trans (gref (f := fun q => GO x d 162 Q 20 [v0, v1, v2, v3, v4] (.inr (.inr (.inl q)) :: st) I J))
set_option maxRecDepth 10000 in
theorem g_162_20 : GO x d 162 Q 20 [v0, v1, v2, v3, v4] st I J = GO x d 162 Q 21 [v0, v1, v2, v3, v4] (.inl (0) :: st) I J := ge (A := (0, 21, 0, 0, 0)) rfl
set_option maxRecDepth 10000 in
theorem g_162_21 : GO x d 162 Q 21 [v0, v1, v2, v3, v4] st I J = GO x d 162 Q 22 [v0, v1, v2, v3, v4] (.inl (-1) :: st) I J := ge (A := (0, 22, 0, 0, -1)) rfl
set_option maxRecDepth 10000 in
theorem g_162_22 : GO x d 162 Q 22 [v0, v1, v2, v3, v4] (.inl b :: .inl a :: .inr (.inr (.inl r)) :: st) I J = (okA r 20 ∧ 0 ≤ a ∧ a < lnN r ∧ GO x d 162 Q 23 [v0, v1, v2, v3, v4] st (up I r a b) J) := ge (A := (45, 23, 0, 0, 0)) rfl
set_option maxRecDepth 10000 in
theorem g_162_23 : GO x d 162 Q 23 [v0, v1, v2, v3, some (.inl a)] st I J = GO x d 162 Q 25 [v0, v1, v2, v3, some (.inl a)] (.inl a :: st) I J := ge (A := (1, 25, 4, 0, 0)) rfl
set_option maxRecDepth 10000 in
theorem g_162_25 : GO x d 162 Q 25 [v0, v1, v2, v3, v4] (.inl a :: st) I J = (inR a ∧ if a < 0 then GO x d 162 Q 149 [v0, v1, v2, v3, v4] st I J else GO x d 162 Q 28 [v0, v1, v2, v3, v4] st I J) := (ge (A := (33, 28, 149, 2, 0)) rfl).trans (gif (p := a < 0) inferInstance)
set_option maxRecDepth 10000 in
theorem g_162_28 : GO x d 162 Q 28 [some (.inr (.inr w)), v1, v2, v3, v4] st I J = GO x d 162 Q 29 [some (.inr (.inr w)), v1, v2, v3, v4] (.inr (.inr w) :: st) I J := ge (A := (2, 29, 0, 0, 0)) rfl
set_option maxRecDepth 10000 in
theorem g_162_29 : GO x d 162 Q 29 [v0, v1, v2, v3, v4] (.inr (.inr (.inl r)) :: st) I J = (okF r 10 22 ∧ GO x d 162 Q 32 [v0, v1, v2, v3, v4] (.inr (.inr (.inl (rfN r 22))) :: st) I J) := (ge (A := (39, 32, 10, 22, 0)) rfl).trans (gref (f := fun q => GO x d 162 Q 32 [v0, v1, v2, v3, v4] (.inr (.inr (.inl q)) :: st) I J))
set_option maxRecDepth 10000 in
theorem g_162_32 : GO x d 162 Q 32 [v0, v1, v2, v3, some (.inl a)] st I J = GO x d 162 Q 34 [v0, v1, v2, v3, some (.inl a)] (.inl a :: st) I J := ge (A := (1, 34, 4, 0, 0)) rfl
set_option maxRecDepth 10000 in
theorem g_162_34 : GO x d 162 Q 34 [v0, v1, v2, v3, v4] (.inl a :: .inr (.inr w) :: st) I J = GO x d 162 Q 35 [v0, v1, v2, v3, v4] (.inl a :: .inr (.inr w) :: .inl a :: .inr (.inr w) :: st) I J := ge (A := (32, 35, 0, 0, 0)) rfl
set_option maxRecDepth 10000 in
theorem h_162_35 : GO x d 162 Q 35 [v0, v1, v2, v3, v4] (.inl a :: .inr (.inr (.inr q)) :: st) I J = (q < 4 ∧ 0 ≤ a ∧ a < (roA x q).1 ∧ GO x d 162 Q 36 [v0, v1, v2, v3, v4] (.inl ((roA x q).2 a.toNat) :: st) I J) := ge (A := (44, 36, 0, 0, 0)) rfl
set_option maxRecDepth 10000 in
theorem g_162_35 : GO x d 162 Q 35 [v0, v1, v2, v3, v4] (.inl a :: .inr (.inr (.inl r)) :: st) I J = (okA r 20 ∧ 0 ≤ a ∧ a < lnN r ∧ GO x d 162 Q 36 [v0, v1, v2, v3, v4] (.inl (I r a) :: st) I J) := ge (A := (44, 36, 0, 0, 0)) rfl
set_option maxRecDepth 10000 in
theorem g_162_36 : GO x d 162 Q 36 [v0, v1, v2, v3, v4] st I J = GO x d 162 Q 37 [v0, v1, v2, v3, v4] (.inl (1) :: st) I J := ge (A := (0, 37, 0, 0, 1)) rfl
set_option maxRecDepth 10000 in
theorem g_162_37 : GO x d 162 Q 37 [v0, v1, v2, v3, v4] (.inl b :: .inl a :: st) I J = GO x d 162 Q 38 [v0, v1, v2, v3, v4] (.inl (a + b) :: st) I J := ge (A := (8, 38, 0, 0, 0)) rfl
set_option maxRecDepth 10000 in
theorem g_162_38 : GO x d 162 Q 38 [v0, v1, v2, v3, v4] (.inl b :: .inl a :: .inr (.inr (.inl r)) :: st) I J = (okA r 20 ∧ 0 ≤ a ∧ a < lnN r ∧ GO x d 162 Q 39 [v0, v1, v2, v3, v4] st (up I r a b) J) := ge (A := (45, 39, 0, 0, 0)) rfl
set_option maxRecDepth 10000 in
theorem g_162_39 : GO x d 162 Q 39 [some (.inr (.inr w)), v1, v2, v3, v4] st I J = GO x d 162 Q 40 [some (.inr (.inr w)), v1, v2, v3, v4] (.inr (.inr w) :: st) I J := ge (A := (2, 40, 0, 0, 0)) rfl
set_option maxRecDepth 10000 in
theorem g_162_40 : GO x d 162 Q 40 [v0, v1, v2, v3, v4] (.inr (.inr (.inl r)) :: st) I J = (okF r 10 22 ∧ GO x d 162 Q 43 [v0, v1, v2, v3, v4] (.inr (.inr (.inl (rfN r 22))) :: st) I J) := (ge (A := (39, 43, 10, 22, 0)) rfl).trans (gref (f := fun q => GO x d 162 Q 43 [v0, v1, v2, v3, v4] (.inr (.inr (.inl q)) :: st) I J))
set_option maxRecDepth 10000 in
theorem g_162_43 : GO x d 162 Q 43 [v0, v1, v2, v3, some (.inl a)] st I J = GO x d 162 Q 45 [v0, v1, v2, v3, some (.inl a)] (.inl a :: st) I J := ge (A := (1, 45, 4, 0, 0)) rfl
set_option maxRecDepth 10000 in
theorem h_162_45 : GO x d 162 Q 45 [v0, v1, v2, v3, v4] (.inl a :: .inr (.inr (.inr q)) :: st) I J = (q < 4 ∧ 0 ≤ a ∧ a < (roA x q).1 ∧ GO x d 162 Q 46 [v0, v1, v2, v3, v4] (.inl ((roA x q).2 a.toNat) :: st) I J) := ge (A := (44, 46, 0, 0, 0)) rfl
set_option maxRecDepth 10000 in
theorem g_162_45 : GO x d 162 Q 45 [v0, v1, v2, v3, v4] (.inl a :: .inr (.inr (.inl r)) :: st) I J = (okA r 20 ∧ 0 ≤ a ∧ a < lnN r ∧ GO x d 162 Q 46 [v0, v1, v2, v3, v4] (.inl (I r a) :: st) I J) := ge (A := (44, 46, 0, 0, 0)) rfl
set_option maxRecDepth 10000 in
theorem g_162_46 : GO x d 162 Q 46 [some (.inr (.inr w)), v1, v2, v3, v4] st I J = GO x d 162 Q 47 [some (.inr (.inr w)), v1, v2, v3, v4] (.inr (.inr w) :: st) I J := ge (A := (2, 47, 0, 0, 0)) rfl
set_option maxRecDepth 10000 in
theorem g_162_47 : GO x d 162 Q 47 [v0, v1, v2, v3, v4] (.inr (.inr (.inl r)) :: st) I J = (okF r 10 2 ∧ GO x d 162 Q 50 [v0, v1, v2, v3, v4] (.inr (.inr (.inl (rfN r 2))) :: st) I J) := (ge (A := (39, 50, 10, 2, 0)) rfl).trans (gref (f := fun q => GO x d 162 Q 50 [v0, v1, v2, v3, v4] (.inr (.inr (.inl q)) :: st) I J))
set_option maxRecDepth 10000 in
theorem g_162_50 : GO x d 162 Q 50 [v0, v1, v2, v3, v4] st I J = GO x d 162 Q 51 [v0, v1, v2, v3, v4] (.inl (1) :: st) I J := ge (A := (0, 51, 0, 0, 1)) rfl
set_option maxRecDepth 10000 in
theorem h_162_51 : GO x d 162 Q 51 [v0, v1, v2, v3, v4] (.inl a :: .inr (.inr (.inr q)) :: st) I J = (q < 4 ∧ 0 ≤ a ∧ a < (roA x q).1 ∧ GO x d 162 Q 52 [v0, v1, v2, v3, v4] (.inl ((roA x q).2 a.toNat) :: st) I J) := ge (A := (44, 52, 0, 0, 0)) rfl
set_option maxRecDepth 10000 in
theorem g_162_51 : GO x d 162 Q 51 [v0, v1, v2, v3, v4] (.inl a :: .inr (.inr (.inl r)) :: st) I J = (okA r 20 ∧ 0 ≤ a ∧ a < lnN r ∧ GO x d 162 Q 52 [v0, v1, v2, v3, v4] (.inl (I r a) :: st) I J) := ge (A := (44, 52, 0, 0, 0)) rfl
set_option maxRecDepth 10000 in
theorem g_162_52 : GO x d 162 Q 52 [v0, v1, v2, v3, v4] (.inl b :: .inl a :: st) I J = (inR a ∧ inR b ∧ if a < b then GO x d 162 Q 72 [v0, v1, v2, v3, v4] st I J else GO x d 162 Q 55 [v0, v1, v2, v3, v4] st I J) := (ge (A := (34, 55, 72, 2, 0)) rfl).trans (gic (p := a < b) inferInstance)
set_option maxRecDepth 10000 in
theorem g_162_55 : GO x d 162 Q 55 [v0, v1, v2, v3, some (.inl a)] st I J = (nlO (some v3) = true ∧ GO x d 162 Q 58 [v0, v1, v2, v3, some (.inl (a + (-1)))] st I J) := ge (A := (7, 58, 4, 0, -1)) rfl
set_option maxRecDepth 10000 in
theorem g_162_58 : GO x d 162 Q 58 [v0, v1, v2, v3, some (.inl a)] st I J = GO x d 162 Q 60 [v0, v1, v2, v3, some (.inl a)] (.inl a :: st) I J := ge (A := (1, 60, 4, 0, 0)) rfl
set_option maxRecDepth 10000 in
theorem g_162_60 : GO x d 162 Q 60 [v0, v1, v2, v3, v4] (.inl a :: st) I J = (inR a ∧ if a < 0 then GO x d 162 Q 23 [v0, v1, v2, v3, v4] st I J else GO x d 162 Q 63 [v0, v1, v2, v3, v4] st I J) := (ge (A := (33, 63, 23, 2, 0)) rfl).trans (gif (p := a < 0) inferInstance)
set_option maxRecDepth 10000 in
theorem g_162_63 : GO x d 162 Q 63 [some (.inr (.inr w)), v1, v2, v3, v4] st I J = GO x d 162 Q 64 [some (.inr (.inr w)), v1, v2, v3, v4] (.inr (.inr w) :: st) I J := ge (A := (2, 64, 0, 0, 0)) rfl
set_option maxRecDepth 10000 in
theorem g_162_64 : GO x d 162 Q 64 [v0, v1, v2, v3, some (.inl a)] st I J = GO x d 162 Q 66 [v0, v1, v2, v3, some (.inl a)] (.inl a :: st) I J := ge (A := (1, 66, 4, 0, 0)) rfl
set_option maxRecDepth 10000 in
theorem g_162_66 : GO x d 162 Q 66 [v0, v1, v2, v3, v4] [.inl i0, .inr (.inr (.inl r))] I J = (okO r 10 ∧ EX x d 151 [.inr (.inr (.inl r)), .inl i0] I J (fun r1 I1 J1 => GO x d 162 Q 69 [v0, v1, v2, v3, v4] (r1.toList ++ []) I1 J1)) := (ge (A := (53, 69, 151, 1, 0)) rfl).trans (gtrue (Nat.le_of_ble_eq_true rfl))
set_option maxRecDepth 10000 in
theorem g_162_69 : GO x d 162 Q 69 [v0, v1, v2, v3, v4] st I J = GO x d 162 Q 23 [v0, v1, v2, v3, v4] st I J := ge (A := (35, 72, 23, 0, 0)) rfl
set_option maxRecDepth 10000 in
theorem g_162_72 : GO x d 162 Q 72 [some (.inr (.inr w)), v1, v2, v3, v4] st I J = GO x d 162 Q 73 [some (.inr (.inr w)), v1, v2, v3, v4] (.inr (.inr w) :: st) I J := ge (A := (2, 73, 0, 0, 0)) rfl
set_option maxRecDepth 10000 in
theorem g_162_73 : GO x d 162 Q 73 [some (.inr (.inr w)), v1, v2, v3, v4] st I J = GO x d 162 Q 74 [some (.inr (.inr w)), v1, v2, v3, v4] (.inr (.inr w) :: st) I J := ge (A := (2, 74, 0, 0, 0)) rfl
set_option maxRecDepth 10000 in
theorem g_162_74 : GO x d 162 Q 74 [v0, v1, v2, v3, v4] (.inr (.inr (.inl r)) :: st) I J = (okF r 10 10 ∧ GO x d 162 Q 77 [v0, v1, v2, v3, v4] (.inr (.inr (.inl (rfN r 10))) :: st) I J) := (ge (A := (39, 77, 10, 10, 0)) rfl).trans (gref (f := fun q => GO x d 162 Q 77 [v0, v1, v2, v3, v4] (.inr (.inr (.inl q)) :: st) I J))
set_option maxRecDepth 10000 in
theorem g_162_77 : GO x d 162 Q 77 [v0, some (.inl a), v2, v3, v4] st I J = GO x d 162 Q 78 [v0, some (.inl a), v2, v3, v4] (.inl a :: st) I J := ge (A := (1, 78, 1, 0, 0)) rfl
set_option maxRecDepth 10000 in
theorem g_162_78 : GO x d 162 Q 78 [v0, v1, v2, v3, some (.inl a)] st I J = GO x d 162 Q 80 [v0, v1, v2, v3, some (.inl a)] (.inl a :: st) I J := ge (A := (1, 80, 4, 0, 0)) rfl
set_option maxRecDepth 10000 in
theorem g_162_80 : GO x d 162 Q 80 [v0, v1, v2, v3, v4] (.inl b :: .inl a :: st) I J = GO x d 162 Q 81 [v0, v1, v2, v3, v4] (.inl (a + b) :: st) I J := ge (A := (8, 81, 0, 0, 0)) rfl
set_option maxRecDepth 10000 in
theorem h_162_81 : GO x d 162 Q 81 [v0, v1, v2, v3, v4] (.inl a :: .inr (.inr (.inr q)) :: st) I J = (q < 4 ∧ 0 ≤ a ∧ a < (roA x q).1 ∧ GO x d 162 Q 82 [v0, v1, v2, v3, v4] (.inl ((roA x q).2 a.toNat) :: st) I J) := ge (A := (44, 82, 0, 0, 0)) rfl
set_option maxRecDepth 10000 in
theorem g_162_81 : GO x d 162 Q 81 [v0, v1, v2, v3, v4] (.inl a :: .inr (.inr (.inl r)) :: st) I J = (okA r 20 ∧ 0 ≤ a ∧ a < lnN r ∧ GO x d 162 Q 82 [v0, v1, v2, v3, v4] (.inl (I r a) :: st) I J) := ge (A := (44, 82, 0, 0, 0)) rfl
set_option maxRecDepth 10000 in
theorem g_162_82 : GO x d 162 Q 82 [some (.inr (.inr w)), v1, v2, v3, v4] st I J = GO x d 162 Q 83 [some (.inr (.inr w)), v1, v2, v3, v4] (.inr (.inr w) :: st) I J := ge (A := (2, 83, 0, 0, 0)) rfl
set_option maxRecDepth 10000 in
theorem g_162_83 : GO x d 162 Q 83 [v0, v1, v2, v3, v4] (.inr (.inr (.inl r)) :: st) I J = (okF r 10 22 ∧ GO x d 162 Q 86 [v0, v1, v2, v3, v4] (.inr (.inr (.inl (rfN r 22))) :: st) I J) := (ge (A := (39, 86, 10, 22, 0)) rfl).trans (gref (f := fun q => GO x d 162 Q 86 [v0, v1, v2, v3, v4] (.inr (.inr (.inl q)) :: st) I J))
set_option maxRecDepth 10000 in
theorem g_162_86 : GO x d 162 Q 86 [v0, v1, v2, v3, some (.inl a)] st I J = GO x d 162 Q 88 [v0, v1, v2, v3, some (.inl a)] (.inl a :: st) I J := ge (A := (1, 88, 4, 0, 0)) rfl
set_option maxRecDepth 10000 in
theorem h_162_88 : GO x d 162 Q 88 [v0, v1, v2, v3, v4] (.inl a :: .inr (.inr (.inr q)) :: st) I J = (q < 4 ∧ 0 ≤ a ∧ a < (roA x q).1 ∧ GO x d 162 Q 89 [v0, v1, v2, v3, v4] (.inl ((roA x q).2 a.toNat) :: st) I J) := ge (A := (44, 89, 0, 0, 0)) rfl
set_option maxRecDepth 10000 in
theorem g_162_88 : GO x d 162 Q 88 [v0, v1, v2, v3, v4] (.inl a :: .inr (.inr (.inl r)) :: st) I J = (okA r 20 ∧ 0 ≤ a ∧ a < lnN r ∧ GO x d 162 Q 89 [v0, v1, v2, v3, v4] (.inl (I r a) :: st) I J) := ge (A := (44, 89, 0, 0, 0)) rfl
set_option maxRecDepth 10000 in
theorem g_162_89 : GO x d 162 Q 89 [v0, v1, v2, v3, v4] [.inl i0, .inl i1, .inr (.inr (.inl r))] I J = (okO r 10 ∧ EX x d 138 [.inr (.inr (.inl r)), .inl i1, .inl i0] I J (fun r1 I1 J1 => GO x d 162 Q 92 [v0, v1, v2, v3, v4] (r1.toList ++ []) I1 J1)) := (ge (A := (53, 92, 138, 2, 0)) rfl).trans (gtrue (Nat.le_of_ble_eq_true rfl))
set_option maxRecDepth 10000 in
theorem g_162_92 : GO x d 162 Q 92 [v0, v1, v2, v3, v4] (.inl a :: st) I J = (inR a ∧ if a = 0 then GO x d 162 Q 23 [v0, v1, v2, v3, v4] st I J else GO x d 162 Q 95 [v0, v1, v2, v3, v4] st I J) := (ge (A := (33, 95, 23, 0, 0)) rfl).trans (gif (p := a = 0) inferInstance)
set_option maxRecDepth 10000 in
theorem g_162_95 : GO x d 162 Q 95 [v0, v1, v2, v3, some (.inl a)] st I J = GO x d 162 Q 97 [v0, v1, v2, v3, some (.inl a)] (.inl a :: st) I J := ge (A := (1, 97, 4, 0, 0)) rfl
set_option maxRecDepth 10000 in
theorem g_162_97 : GO x d 162 Q 97 [v0, v1, v2, v3, v4] st I J = GO x d 162 Q 98 [v0, v1, v2, v3, v4] (.inl (1) :: st) I J := ge (A := (0, 98, 0, 0, 1)) rfl
set_option maxRecDepth 10000 in
theorem g_162_98 : GO x d 162 Q 98 [v0, v1, v2, v3, v4] (.inl b :: .inl a :: st) I J = GO x d 162 Q 99 [v0, v1, v2, v3, v4] (.inl (a + b) :: st) I J := ge (A := (8, 99, 0, 0, 0)) rfl
set_option maxRecDepth 10000 in
theorem g_162_99 : GO x d 162 Q 99 [v0, v1, some (.inl a), v3, v4] st I J = GO x d 162 Q 100 [v0, v1, some (.inl a), v3, v4] (.inl a :: st) I J := ge (A := (1, 100, 2, 0, 0)) rfl
set_option maxRecDepth 10000 in
theorem g_162_100 : GO x d 162 Q 100 [v0, v1, v2, v3, v4] (.inl b :: .inl a :: st) I J = (inR a ∧ inR b ∧ if a = b then GO x d 162 Q 103 [v0, v1, v2, v3, v4] st I J else GO x d 162 Q 109 [v0, v1, v2, v3, v4] st I J) := (ge (A := (34, 103, 109, 1, 0)) rfl).trans (gicn (p := a = b) inferInstance)
set_option maxRecDepth 10000 in
theorem g_162_103 : GO x d 162 Q 103 [v0, v1, v2, some (.inl a), v4] st I J = (nlO (some v2) = true ∧ GO x d 162 Q 106 [v0, v1, v2, some (.inl (a + (1))), v4] st I J) := ge (A := (7, 106, 3, 0, 1)) rfl
set_option maxRecDepth 10000 in
theorem g_162_106 : GO x d 162 Q 106 [v0, v1, v2, v3, v4] st I J = GO x d 162 Q 23 [v0, v1, v2, v3, v4] st I J := ge (A := (35, 109, 23, 0, 0)) rfl
set_option maxRecDepth 10000 in
theorem g_162_109 : GO x d 162 Q 109 [some (.inr (.inr w)), v1, v2, v3, v4] st I J = GO x d 162 Q 110 [some (.inr (.inr w)), v1, v2, v3, v4] (.inr (.inr w) :: st) I J := ge (A := (2, 110, 0, 0, 0)) rfl
set_option maxRecDepth 10000 in
theorem g_162_110 : GO x d 162 Q 110 [some (.inr (.inr w)), v1, v2, v3, v4] st I J = GO x d 162 Q 111 [some (.inr (.inr w)), v1, v2, v3, v4] (.inr (.inr w) :: st) I J := ge (A := (2, 111, 0, 0, 0)) rfl
set_option maxRecDepth 10000 in
theorem g_162_111 : GO x d 162 Q 111 [v0, v1, v2, v3, v4] (.inr (.inr (.inl r)) :: st) I J = (okF r 10 10 ∧ GO x d 162 Q 114 [v0, v1, v2, v3, v4] (.inr (.inr (.inl (rfN r 10))) :: st) I J) := (ge (A := (39, 114, 10, 10, 0)) rfl).trans (gref (f := fun q => GO x d 162 Q 114 [v0, v1, v2, v3, v4] (.inr (.inr (.inl q)) :: st) I J))
set_option maxRecDepth 10000 in
theorem g_162_114 : GO x d 162 Q 114 [v0, some (.inl a), v2, v3, v4] st I J = GO x d 162 Q 115 [v0, some (.inl a), v2, v3, v4] (.inl a :: st) I J := ge (A := (1, 115, 1, 0, 0)) rfl
set_option maxRecDepth 10000 in
theorem g_162_115 : GO x d 162 Q 115 [v0, v1, v2, v3, some (.inl a)] st I J = GO x d 162 Q 117 [v0, v1, v2, v3, some (.inl a)] (.inl a :: st) I J := ge (A := (1, 117, 4, 0, 0)) rfl
set_option maxRecDepth 10000 in
theorem g_162_117 : GO x d 162 Q 117 [v0, v1, v2, v3, v4] (.inl b :: .inl a :: st) I J = GO x d 162 Q 118 [v0, v1, v2, v3, v4] (.inl (a + b) :: st) I J := ge (A := (8, 118, 0, 0, 0)) rfl
set_option maxRecDepth 10000 in
theorem h_162_118 : GO x d 162 Q 118 [v0, v1, v2, v3, v4] (.inl a :: .inr (.inr (.inr q)) :: st) I J = (q < 4 ∧ 0 ≤ a ∧ a < (roA x q).1 ∧ GO x d 162 Q 119 [v0, v1, v2, v3, v4] (.inl ((roA x q).2 a.toNat) :: st) I J) := ge (A := (44, 119, 0, 0, 0)) rfl
set_option maxRecDepth 10000 in
theorem g_162_118 : GO x d 162 Q 118 [v0, v1, v2, v3, v4] (.inl a :: .inr (.inr (.inl r)) :: st) I J = (okA r 20 ∧ 0 ≤ a ∧ a < lnN r ∧ GO x d 162 Q 119 [v0, v1, v2, v3, v4] (.inl (I r a) :: st) I J) := ge (A := (44, 119, 0, 0, 0)) rfl
set_option maxRecDepth 10000 in
theorem g_162_119 : GO x d 162 Q 119 [some (.inr (.inr w)), v1, v2, v3, v4] st I J = GO x d 162 Q 120 [some (.inr (.inr w)), v1, v2, v3, v4] (.inr (.inr w) :: st) I J := ge (A := (2, 120, 0, 0, 0)) rfl
set_option maxRecDepth 10000 in
theorem g_162_120 : GO x d 162 Q 120 [v0, v1, v2, v3, v4] (.inr (.inr (.inl r)) :: st) I J = (okF r 10 22 ∧ GO x d 162 Q 123 [v0, v1, v2, v3, v4] (.inr (.inr (.inl (rfN r 22))) :: st) I J) := (ge (A := (39, 123, 10, 22, 0)) rfl).trans (gref (f := fun q => GO x d 162 Q 123 [v0, v1, v2, v3, v4] (.inr (.inr (.inl q)) :: st) I J))
set_option maxRecDepth 10000 in
theorem g_162_123 : GO x d 162 Q 123 [v0, v1, v2, v3, some (.inl a)] st I J = GO x d 162 Q 125 [v0, v1, v2, v3, some (.inl a)] (.inl a :: st) I J := ge (A := (1, 125, 4, 0, 0)) rfl
set_option maxRecDepth 10000 in
theorem h_162_125 : GO x d 162 Q 125 [v0, v1, v2, v3, v4] (.inl a :: .inr (.inr (.inr q)) :: st) I J = (q < 4 ∧ 0 ≤ a ∧ a < (roA x q).1 ∧ GO x d 162 Q 126 [v0, v1, v2, v3, v4] (.inl ((roA x q).2 a.toNat) :: st) I J) := ge (A := (44, 126, 0, 0, 0)) rfl
set_option maxRecDepth 10000 in
theorem g_162_125 : GO x d 162 Q 125 [v0, v1, v2, v3, v4] (.inl a :: .inr (.inr (.inl r)) :: st) I J = (okA r 20 ∧ 0 ≤ a ∧ a < lnN r ∧ GO x d 162 Q 126 [v0, v1, v2, v3, v4] (.inl (I r a) :: st) I J) := ge (A := (44, 126, 0, 0, 0)) rfl
set_option maxRecDepth 10000 in
theorem g_162_126 : GO x d 162 Q 126 [v0, v1, v2, v3, v4] [.inl i0, .inl i1, .inr (.inr (.inl r))] I J = (okO r 10 ∧ EX x d 139 [.inr (.inr (.inl r)), .inl i1, .inl i0] I J (fun r1 I1 J1 => GO x d 162 Q 129 [v0, v1, v2, v3, v4] (r1.toList ++ []) I1 J1)) := (ge (A := (53, 129, 139, 2, 0)) rfl).trans (gtrue (Nat.le_of_ble_eq_true rfl))
set_option maxRecDepth 10000 in
theorem g_162_129 : GO x d 162 Q 129 [v0, v1, v2, v3, some (.inl a)] st I J = (nlO (some v3) = true ∧ GO x d 162 Q 132 [v0, v1, v2, v3, some (.inl (a + (1)))] st I J) := ge (A := (7, 132, 4, 0, 1)) rfl
set_option maxRecDepth 10000 in
theorem g_162_132 : GO x d 162 Q 132 [some (.inr (.inr w)), v1, v2, v3, v4] st I J = GO x d 162 Q 133 [some (.inr (.inr w)), v1, v2, v3, v4] (.inr (.inr w) :: st) I J := ge (A := (2, 133, 0, 0, 0)) rfl
set_option maxRecDepth 10000 in
theorem g_162_133 : GO x d 162 Q 133 [v0, v1, v2, v3, some (.inl a)] st I J = GO x d 162 Q 135 [v0, v1, v2, v3, some (.inl a)] (.inl a :: st) I J := ge (A := (1, 135, 4, 0, 0)) rfl
set_option maxRecDepth 10000 in
theorem g_162_135 : GO x d 162 Q 135 [v0, v1, v2, v3, v4] [.inl i0, .inr (.inr (.inl r))] I J = (okO r 10 ∧ EX x d 150 [.inr (.inr (.inl r)), .inl i0] I J (fun r1 I1 J1 => GO x d 162 Q 138 [v0, v1, v2, v3, v4] (r1.toList ++ []) I1 J1)) := (ge (A := (53, 138, 150, 1, 0)) rfl).trans (gtrue (Nat.le_of_ble_eq_true rfl))
set_option maxRecDepth 10000 in
theorem g_162_138 : GO x d 162 Q 138 [some (.inr (.inr w)), v1, v2, v3, v4] st I J = GO x d 162 Q 139 [some (.inr (.inr w)), v1, v2, v3, v4] (.inr (.inr w) :: st) I J := ge (A := (2, 139, 0, 0, 0)) rfl
set_option maxRecDepth 10000 in
theorem g_162_139 : GO x d 162 Q 139 [v0, v1, v2, v3, v4] (.inr (.inr (.inl r)) :: st) I J = (okF r 10 22 ∧ GO x d 162 Q 142 [v0, v1, v2, v3, v4] (.inr (.inr (.inl (rfN r 22))) :: st) I J) := (ge (A := (39, 142, 10, 22, 0)) rfl).trans (gref (f := fun q => GO x d 162 Q 142 [v0, v1, v2, v3, v4] (.inr (.inr (.inl q)) :: st) I J))
set_option maxRecDepth 10000 in
theorem g_162_142 : GO x d 162 Q 142 [v0, v1, v2, v3, some (.inl a)] st I J = GO x d 162 Q 144 [v0, v1, v2, v3, some (.inl a)] (.inl a :: st) I J := ge (A := (1, 144, 4, 0, 0)) rfl
set_option maxRecDepth 10000 in
theorem g_162_144 : GO x d 162 Q 144 [v0, v1, v2, v3, v4] st I J = GO x d 162 Q 145 [v0, v1, v2, v3, v4] (.inl (-1) :: st) I J := ge (A := (0, 145, 0, 0, -1)) rfl
set_option maxRecDepth 10000 in
theorem g_162_145 : GO x d 162 Q 145 [v0, v1, v2, v3, v4] (.inl b :: .inl a :: .inr (.inr (.inl r)) :: st) I J = (okA r 20 ∧ 0 ≤ a ∧ a < lnN r ∧ GO x d 162 Q 146 [v0, v1, v2, v3, v4] st (up I r a b) J) := ge (A := (45, 146, 0, 0, 0)) rfl
set_option maxRecDepth 10000 in
theorem g_162_146 : GO x d 162 Q 146 [v0, v1, v2, v3, v4] st I J = GO x d 162 Q 23 [v0, v1, v2, v3, v4] st I J := ge (A := (35, 149, 23, 0, 0)) rfl
set_option maxRecDepth 10000 in
theorem g_162_149 : GO x d 162 Q 149 [v0, v1, v2, some (.inl a), v4] st I J = GO x d 162 Q 150 [v0, v1, v2, some (.inl a), v4] (.inl a :: st) I J := ge (A := (1, 150, 3, 0, 0)) rfl
set_option maxRecDepth 10000 in
theorem g_162_150 : GO x d 162 Q 150 [v0, v1, v2, v3, v4] [.inl a] I J = Q (some (.inl a)) I J := ge (A := (55, 151, 0, 0, 0)) rfl
set_option maxRecDepth 10000 in
theorem e_162 : EX x (d + 1) 162 [.inr (.inr w0), .inl i0, .inl i1] I J Q = GO x d 162 Q 0 [some (.inr (.inr w0)), some (.inl i0), some (.inl i1), none, none] [] I J := ex_eq (Nat.le_of_ble_eq_true rfl) rfl (Nat.le_of_ble_eq_true rfl) rfl
set_option maxRecDepth 10000 in
theorem g_163_0 : GO x d 163 Q 0 [some (.inr (.inr w)), v1, v2, v3, v4, v5, v6, v7] st I J = GO x d 163 Q 1 [some (.inr (.inr w)), v1, v2, v3, v4, v5, v6, v7] (.inr (.inr w) :: st) I J := ge (A := (2, 1, 0, 0, 0)) rfl
set_option maxRecDepth 10000 in
theorem g_163_1 : GO x d 163 Q 1 [v0, v1, v2, v3, v4, v5, v6, v7] [.inr (.inr (.inl r))] I J = (okO r 10 ∧ EX x d 110 [.inr (.inr (.inl r))] I J (fun r1 I1 J1 => GO x d 163 Q 4 [v0, v1, v2, v3, v4, v5, v6, v7] (r1.toList ++ []) I1 J1)) := (ge (A := (53, 4, 110, 0, 0)) rfl).trans (gtrue (Nat.le_of_ble_eq_true rfl))
set_option maxRecDepth 10000 in
theorem g_163_4 : GO x d 163 Q 4 [v0, v1, v2, v3, v4, v5, v6, v7] (.inl a :: st) I J = (inR a ∧ if a = 0 then GO x d 163 Q 7 [v0, v1, v2, v3, v4, v5, v6, v7] st I J else GO x d 163 Q 10 [v0, v1, v2, v3, v4, v5, v6, v7] st I J) := (ge (A := (33, 7, 10, 1, 0)) rfl).trans (gifn (p := a = 0) inferInstance)
set_option maxRecDepth 10000 in
theorem g_163_7 : GO x d 163 Q 7 [v0, v1, v2, v3, v4, v5, v6, v7] st I J = GO x d 163 Q 9 [v0, v1, v2, v3, v4, v5, v6, v7] (.inl (-1000002) :: st) I J := ge (A := (0, 9, 0, 0, -1000002)) rfl
set_option maxRecDepth 10000 in
theorem g_163_9 : GO x d 163 Q 9 [v0, v1, v2, v3, v4, v5, v6, v7] [.inl a] I J = Q (some (.inl a)) I J := ge (A := (55, 10, 0, 0, 0)) rfl
set_option maxRecDepth 10000 in
theorem g_163_10 : GO x d 163 Q 10 [v0, some (.inl a), v2, v3, v4, v5, v6, v7] st I J = GO x d 163 Q 11 [v0, some (.inl a), v2, v3, v4, v5, v6, v7] (.inl a :: st) I J := ge (A := (1, 11, 1, 0, 0)) rfl
set_option maxRecDepth 10000 in
theorem g_163_11 : GO x d 163 Q 11 [v0, v1, v2, v3, v4, v5, v6, v7] [.inl i0] I J = EX x d 113 [.inl i0] I J (fun r1 I1 J1 => GO x d 163 Q 14 [v0, v1, v2, v3, v4, v5, v6, v7] (r1.toList ++ []) I1 J1) := (ge (A := (52, 14, 113, 1, 0)) rfl).trans (gtrue2 (Nat.le_of_ble_eq_true rfl) (Nat.le_of_ble_eq_true rfl))
set_option maxRecDepth 10000 in
theorem g_163_14 : GO x d 163 Q 14 [v0, v1, v2, v3, v4, v5, v6, v7] (.inl a :: st) I J = (inR a ∧ if a = 0 then GO x d 163 Q 26 [v0, v1, v2, v3, v4, v5, v6, v7] st I J else GO x d 163 Q 17 [v0, v1, v2, v3, v4, v5, v6, v7] st I J) := (ge (A := (33, 17, 26, 0, 0)) rfl).trans (gif (p := a = 0) inferInstance)
set_option maxRecDepth 10000 in
theorem g_163_17 : GO x d 163 Q 17 [v0, v1, v2, some (.inl a), v4, v5, v6, v7] st I J = GO x d 163 Q 18 [v0, v1, v2, some (.inl a), v4, v5, v6, v7] (.inl a :: st) I J := ge (A := (1, 18, 3, 0, 0)) rfl
set_option maxRecDepth 10000 in
theorem g_163_18 : GO x d 163 Q 18 [v0, v1, v2, v3, v4, v5, v6, v7] st I J = GO x d 163 Q 19 [v0, v1, v2, v3, v4, v5, v6, v7] (.inl (0) :: st) I J := ge (A := (0, 19, 0, 0, 0)) rfl
set_option maxRecDepth 10000 in
theorem g_163_19 : GO x d 163 Q 19 [v0, v1, v2, v3, v4, v5, v6, v7] st I J = GO x d 163 Q 20 [v0, v1, v2, v3, v4, v5, v6, v7] (.inl (5) :: st) I J := ge (A := (0, 20, 0, 0, 5)) rfl
set_option maxRecDepth 10000 in
theorem g_163_20 : GO x d 163 Q 20 [v0, v1, v2, v3, v4, v5, v6, v7] [.inl i0, .inl i1, .inl i2] I J = EX x d 109 [.inl i2, .inl i1, .inl i0] I J (fun r1 I1 J1 => GO x d 163 Q 23 [v0, v1, v2, v3, v4, v5, v6, v7] (r1.toList ++ []) I1 J1) := (ge (A := (52, 23, 109, 3, 0)) rfl).trans (gtrue2 (Nat.le_of_ble_eq_true rfl) (Nat.le_of_ble_eq_true rfl))
set_option maxRecDepth 10000 in
theorem g_163_23 : GO x d 163 Q 23 [v0, v1, v2, v3, v4, v5, v6, v7] (.inl a :: st) I J = (inR a ∧ if a = 0 then GO x d 163 Q 26 [v0, v1, v2, v3, v4, v5, v6, v7] st I J else GO x d 163 Q 29 [v0, v1, v2, v3, v4, v5, v6, v7] st I J) := (ge (A := (33, 26, 29, 1, 0)) rfl).trans (gifn (p := a = 0) inferInstance)
set_option maxRecDepth 10000 in
theorem g_163_26 : GO x d 163 Q 26 [v0, v1, v2, v3, v4, v5, v6, v7] st I J = GO x d 163 Q 28 [v0, v1, v2, v3, v4, v5, v6, v7] (.inl (-1000001) :: st) I J := ge (A := (0, 28, 0, 0, -1000001)) rfl
set_option maxRecDepth 10000 in
theorem g_163_28 : GO x d 163 Q 28 [v0, v1, v2, v3, v4, v5, v6, v7] [.inl a] I J = Q (some (.inl a)) I J := ge (A := (55, 29, 0, 0, 0)) rfl
set_option maxRecDepth 10000 in
theorem g_163_29 : GO x d 163 Q 29 [some (.inr (.inr w)), v1, v2, v3, v4, v5, v6, v7] st I J = GO x d 163 Q 30 [some (.inr (.inr w)), v1, v2, v3, v4, v5, v6, v7] (.inr (.inr w) :: st) I J := ge (A := (2, 30, 0, 0, 0)) rfl
set_option maxRecDepth 10000 in
theorem g_163_30 : GO x d 163 Q 30 [v0, v1, v2, v3, v4, v5, v6, v7] (.inr (.inr (.inl r)) :: st) I J = (okF r 10 8 ∧ GO x d 163 Q 33 [v0, v1, v2, v3, v4, v5, v6, v7] (.inr (.inr (.inl (rfN r 8))) :: st) I J) := (ge (A := (39, 33, 10, 8, 0)) rfl).trans (gref (f := fun q => GO x d 163 Q 33 [v0, v1, v2, v3, v4, v5, v6, v7] (.inr (.inr (.inl q)) :: st) I J))
set_option maxRecDepth 10000 in
theorem g_163_33 : GO x d 163 Q 33 [v0, some (.inl a), v2, v3, v4, v5, v6, v7] st I J = GO x d 163 Q 34 [v0, some (.inl a), v2, v3, v4, v5, v6, v7] (.inl a :: st) I J := ge (A := (1, 34, 1, 0, 0)) rfl
set_option maxRecDepth 10000 in
theorem h_163_34 : GO x d 163 Q 34 [v0, v1, v2, v3, v4, v5, v6, v7] (.inl a :: .inr (.inr (.inr q)) :: st) I J = (q < 4 ∧ 0 ≤ a ∧ a < (roA x q).1 ∧ GO x d 163 Q 35 [v0, v1, v2, v3, v4, v5, v6, v7] (.inl ((roA x q).2 a.toNat) :: st) I J) := ge (A := (44, 35, 0, 0, 0)) rfl
set_option maxRecDepth 10000 in
theorem g_163_34 : GO x d 163 Q 34 [v0, v1, v2, v3, v4, v5, v6, v7] (.inl a :: .inr (.inr (.inl r)) :: st) I J = (okA r 20 ∧ 0 ≤ a ∧ a < lnN r ∧ GO x d 163 Q 35 [v0, v1, v2, v3, v4, v5, v6, v7] (.inl (I r a) :: st) I J) := ge (A := (44, 35, 0, 0, 0)) rfl
set_option maxRecDepth 10000 in
theorem g_163_35 : GO x d 163 Q 35 [v0, v1, v2, v3, v4, v5, v6, v7] (.inl a :: st) I J = (inR a ∧ if a = 0 then GO x d 163 Q 38 [v0, v1, v2, v3, v4, v5, v6, v7] st I J else GO x d 163 Q 44 [v0, v1, v2, v3, v4, v5, v6, v7] st I J) := (ge (A := (33, 38, 44, 1, 0)) rfl).trans (gifn (p := a = 0) inferInstance)
set_option maxRecDepth 10000 in
theorem g_163_38 : GO x d 163 Q 38 [some (.inr (.inr w)), v1, v2, v3, v4, v5, v6, v7] st I J = GO x d 163 Q 39 [some (.inr (.inr w)), v1, v2, v3, v4, v5, v6, v7] (.inr (.inr w) :: st) I J := ge (A := (2, 39, 0, 0, 0)) rfl
set_option maxRecDepth 10000 in
theorem g_163_39 : GO x d 163 Q 39 [v0, v1, v2, v3, v4, v5, v6, v7] st I J = GO x d 163 Q 40 [v0, v1, v2, v3, v4, v5, v6, v7] (.inl (1) :: st) I J := ge (A := (0, 40, 0, 0, 1)) rfl
set_option maxRecDepth 10000 in
theorem g_163_40 : GO x d 163 Q 40 [v0, v1, v2, v3, v4, v5, v6, v7] [.inl i0, .inr (.inr (.inl r))] I J = (okO r 10 ∧ EX x d 114 [.inr (.inr (.inl r)), .inl i0] I J (fun r1 I1 J1 => GO x d 163 Q 43 [v0, v1, v2, v3, v4, v5, v6, v7] (r1.toList ++ []) I1 J1)) := (ge (A := (53, 43, 114, 1, 0)) rfl).trans (gtrue (Nat.le_of_ble_eq_true rfl))
set_option maxRecDepth 10000 in
theorem g_163_43 : GO x d 163 Q 43 [v0, v1, v2, v3, v4, v5, v6, v7] [.inl a] I J = Q (some (.inl a)) I J := ge (A := (55, 44, 0, 0, 0)) rfl
set_option maxRecDepth 10000 in
theorem g_163_44 : GO x d 163 Q 44 [v0, v1, some (.inl a), v3, v4, v5, v6, v7] st I J = GO x d 163 Q 45 [v0, v1, some (.inl a), v3, v4, v5, v6, v7] (.inl a :: st) I J := ge (A := (1, 45, 2, 0, 0)) rfl
set_option maxRecDepth 10000 in
theorem g_163_45 : GO x d 163 Q 45 [v0, v1, v2, some (.inl a), v4, v5, v6, v7] st I J = GO x d 163 Q 46 [v0, v1, v2, some (.inl a), v4, v5, v6, v7] (.inl a :: st) I J := ge (A := (1, 46, 3, 0, 0)) rfl
set_option maxRecDepth 10000 in
theorem g_163_46 : GO x d 163 Q 46 [some (.inr (.inr w)), v1, v2, v3, v4, v5, v6, v7] st I J = GO x d 163 Q 47 [some (.inr (.inr w)), v1, v2, v3, v4, v5, v6, v7] (.inr (.inr w) :: st) I J := ge (A := (2, 47, 0, 0, 0)) rfl
set_option maxRecDepth 10000 in
theorem g_163_47 : GO x d 163 Q 47 [v0, v1, v2, v3, v4, v5, v6, v7] (.inr (.inr (.inl r)) :: st) I J = (okF r 10 9 ∧ GO x d 163 Q 50 [v0, v1, v2, v3, v4, v5, v6, v7] (.inr (.inr (.inl (rfN r 9))) :: st) I J) := (ge (A := (39, 50, 10, 9, 0)) rfl).trans (gref (f := fun q => GO x d 163 Q 50 [v0, v1, v2, v3, v4, v5, v6, v7] (.inr (.inr (.inl q)) :: st) I J))
set_option maxRecDepth 10000 in
theorem g_163_50 : GO x d 163 Q 50 [v0, some (.inl a), v2, v3, v4, v5, v6, v7] st I J = GO x d 163 Q 51 [v0, some (.inl a), v2, v3, v4, v5, v6, v7] (.inl a :: st) I J := ge (A := (1, 51, 1, 0, 0)) rfl
set_option maxRecDepth 10000 in
theorem h_163_51 : GO x d 163 Q 51 [v0, v1, v2, v3, v4, v5, v6, v7] (.inl a :: .inr (.inr (.inr q)) :: st) I J = (q < 4 ∧ 0 ≤ a ∧ a < (roA x q).1 ∧ GO x d 163 Q 52 [v0, v1, v2, v3, v4, v5, v6, v7] (.inl ((roA x q).2 a.toNat) :: st) I J) := ge (A := (44, 52, 0, 0, 0)) rfl
set_option maxRecDepth 10000 in
theorem g_163_51 : GO x d 163 Q 51 [v0, v1, v2, v3, v4, v5, v6, v7] (.inl a :: .inr (.inr (.inl r)) :: st) I J = (okA r 20 ∧ 0 ≤ a ∧ a < lnN r ∧ GO x d 163 Q 52 [v0, v1, v2, v3, v4, v5, v6, v7] (.inl (I r a) :: st) I J) := ge (A := (44, 52, 0, 0, 0)) rfl
set_option maxRecDepth 10000 in
theorem g_163_52 : GO x d 163 Q 52 [v0, v1, v2, v3, v4, v5, v6, v7] [.inl i0, .inl i1, .inl i2] I J = EX x d 117 [.inl i2, .inl i1, .inl i0] I J (fun r1 I1 J1 => GO x d 163 Q 55 [v0, v1, v2, v3, v4, v5, v6, v7] (r1.toList ++ []) I1 J1) := (ge (A := (52, 55, 117, 3, 0)) rfl).trans (gtrue2 (Nat.le_of_ble_eq_true rfl) (Nat.le_of_ble_eq_true rfl))
set_option maxRecDepth 10000 in
theorem g_163_55 : GO x d 163 Q 55 [v0, v1, v2, v3, v4, v5, v6, v7] (.inl a :: st) I J = (inR a ∧ if a = 0 then GO x d 163 Q 64 [v0, v1, v2, v3, v4, v5, v6, v7] st I J else GO x d 163 Q 58 [v0, v1, v2, v3, v4, v5, v6, v7] st I J) := (ge (A := (33, 58, 64, 0, 0)) rfl).trans (gif (p := a = 0) inferInstance)
set_option maxRecDepth 10000 in
theorem g_163_58 : GO x d 163 Q 58 [some (.inr (.inr w)), v1, v2, v3, v4, v5, v6, v7] st I J = GO x d 163 Q 59 [some (.inr (.inr w)), v1, v2, v3, v4, v5, v6, v7] (.inr (.inr w) :: st) I J := ge (A := (2, 59, 0, 0, 0)) rfl
set_option maxRecDepth 10000 in
theorem g_163_59 : GO x d 163 Q 59 [v0, v1, v2, v3, v4, v5, v6, v7] st I J = GO x d 163 Q 60 [v0, v1, v2, v3, v4, v5, v6, v7] (.inl (2) :: st) I J := ge (A := (0, 60, 0, 0, 2)) rfl
set_option maxRecDepth 10000 in
theorem g_163_60 : GO x d 163 Q 60 [v0, v1, v2, v3, v4, v5, v6, v7] [.inl i0, .inr (.inr (.inl r))] I J = (okO r 10 ∧ EX x d 114 [.inr (.inr (.inl r)), .inl i0] I J (fun r1 I1 J1 => GO x d 163 Q 63 [v0, v1, v2, v3, v4, v5, v6, v7] (r1.toList ++ []) I1 J1)) := (ge (A := (53, 63, 114, 1, 0)) rfl).trans (gtrue (Nat.le_of_ble_eq_true rfl))
set_option maxRecDepth 10000 in
theorem g_163_63 : GO x d 163 Q 63 [v0, v1, v2, v3, v4, v5, v6, v7] [.inl a] I J = Q (some (.inl a)) I J := ge (A := (55, 64, 0, 0, 0)) rfl
set_option maxRecDepth 10000 in
theorem g_163_64 : GO x d 163 Q 64 [v0, v1, v2, v3, v4, v5, v6, v7] st I J = GO x d 163 Q 66 [v0, v1, v2, v3, v4, v5, v6, v7] (.inl (40) :: st) I J := ge (A := (0, 66, 0, 0, 40)) rfl
set_option maxRecDepth 10000 in
theorem g_163_66 : GO x d 163 Q 66 [v0, some (.inl a), v2, v3, v4, v5, v6, v7] st I J = GO x d 163 Q 67 [v0, some (.inl a), v2, v3, v4, v5, v6, v7] (.inl a :: st) I J := ge (A := (1, 67, 1, 0, 0)) rfl
set_option maxRecDepth 10000 in
theorem g_163_67 : GO x d 163 Q 67 [v0, v1, v2, v3, v4, v5, v6, v7] (.inl b :: .inl a :: st) I J = GO x d 163 Q 68 [v0, v1, v2, v3, v4, v5, v6, v7] (.inl (a * b) :: st) I J := ge (A := (10, 68, 0, 0, 0)) rfl
set_option maxRecDepth 10000 in
theorem g_163_68 : GO x d 163 Q 68 [v0, v1, some (.inl a), v3, v4, v5, v6, v7] st I J = GO x d 163 Q 69 [v0, v1, some (.inl a), v3, v4, v5, v6, v7] (.inl a :: st) I J := ge (A := (1, 69, 2, 0, 0)) rfl
set_option maxRecDepth 10000 in
theorem g_163_69 : GO x d 163 Q 69 [v0, v1, v2, v3, v4, v5, v6, v7] (.inl b :: .inl a :: st) I J = GO x d 163 Q 70 [v0, v1, v2, v3, v4, v5, v6, v7] (.inl (a + b) :: st) I J := ge (A := (8, 70, 0, 0, 0)) rfl
set_option maxRecDepth 10000 in
theorem g_163_70 : GO x d 163 Q 70 [v0, v1, v2, v3, v4, v5, v6, v7] (.inl a :: st) I J = (nlO (some v3) = true ∧ GO x d 163 Q 72 [v0, v1, v2, v3, some (.inl a), v5, v6, v7] st I J) := (ge (A := (4, 72, 4, 0, 0)) rfl).trans (gst (Nat.le_of_ble_eq_true rfl) _)
set_option maxRecDepth 10000 in
theorem g_163_72 : GO x d 163 Q 72 [v0, v1, v2, v3, v4, v5, v6, v7] st I J = GO x d 163 Q 73 [v0, v1, v2, v3, v4, v5, v6, v7] (.inl (0) :: st) I J := ge (A := (0, 73, 0, 0, 0)) rfl
set_option maxRecDepth 10000 in
theorem g_163_73 : GO x d 163 Q 73 [v0, v1, v2, v3, v4, v5, v6, v7] (.inl a :: st) I J = (nlO (some v4) = true ∧ GO x d 163 Q 75 [v0, v1, v2, v3, v4, some (.inl a), v6, v7] st I J) := (ge (A := (4, 75, 5, 0, 0)) rfl).trans (gst (Nat.le_of_ble_eq_true rfl) _)
set_option maxRecDepth 10000 in
theorem g_163_75 : GO x d 163 Q 75 [v0, v1, v2, v3, v4, v5, v6, v7] st I J = GO x d 163 Q 76 [v0, v1, v2, v3, v4, v5, v6, v7] (.inl (0) :: st) I J := ge (A := (0, 76, 0, 0, 0)) rfl
set_option maxRecDepth 10000 in
theorem g_163_76 : GO x d 163 Q 76 [v0, v1, v2, v3, v4, v5, v6, v7] (.inl a :: st) I J = (nlO (some v5) = true ∧ GO x d 163 Q 78 [v0, v1, v2, v3, v4, v5, some (.inl a), v7] st I J) := (ge (A := (4, 78, 6, 0, 0)) rfl).trans (gst (Nat.le_of_ble_eq_true rfl) _)
set_option maxRecDepth 10000 in
theorem g_163_78 : GO x d 163 Q 78 [v0, v1, v2, v3, v4, v5, some (.inl a), v7] st I J = GO x d 163 Q 80 [v0, v1, v2, v3, v4, v5, some (.inl a), v7] (.inl a :: st) I J := ge (A := (1, 80, 6, 0, 0)) rfl
set_option maxRecDepth 10000 in
theorem g_163_80 : GO x d 163 Q 80 [v0, v1, v2, some (.inl a), v4, v5, v6, v7] st I J = GO x d 163 Q 81 [v0, v1, v2, some (.inl a), v4, v5, v6, v7] (.inl a :: st) I J := ge (A := (1, 81, 3, 0, 0)) rfl
set_option maxRecDepth 10000 in
theorem g_163_81 : GO x d 163 Q 81 [v0, v1, v2, v3, v4, v5, v6, v7] (.inl b :: .inl a :: st) I J = (inR a ∧ inR b ∧ if a < b then GO x d 163 Q 84 [v0, v1, v2, v3, v4, v5, v6, v7] st I J else GO x d 163 Q 134 [v0, v1, v2, v3, v4, v5, v6, v7] st I J) := (ge (A := (34, 84, 134, 3, 0)) rfl).trans (ggec)
set_option maxRecDepth 10000 in
theorem g_163_84 : GO x d 163 Q 84 [some (.inr (.inr w)), v1, v2, v3, v4, v5, v6, v7] st I J = GO x d 163 Q 85 [some (.inr (.inr w)), v1, v2, v3, v4, v5, v6, v7] (.inr (.inr w) :: st) I J := ge (A := (2, 85, 0, 0, 0)) rfl
set_option maxRecDepth 10000 in
theorem g_163_85 : GO x d 163 Q 85 [v0, v1, v2, v3, v4, v5, v6, v7] (.inr (.inr (.inl r)) :: st) I J = (okF r 10 10 ∧ GO x d 163 Q 88 [v0, v1, v2, v3, v4, v5, v6, v7] (.inr (.inr (.inl (rfN r 10))) :: st) I J) := (ge (A := (39, 88, 10, 10, 0)) rfl).trans (gref (f := fun q => GO x d 163 Q 88 [v0, v1, v2, v3, v4, v5, v6, v7] (.inr (.inr (.inl q)) :: st) I J))
set_option maxRecDepth 10000 in
theorem g_163_88 : GO x d 163 Q 88 [v0, v1, v2, v3, some (.inl a), v5, v6, v7] st I J = GO x d 163 Q 90 [v0, v1, v2, v3, some (.inl a), v5, v6, v7] (.inl a :: st) I J := ge (A := (1, 90, 4, 0, 0)) rfl
set_option maxRecDepth 10000 in
theorem g_163_90 : GO x d 163 Q 90 [v0, v1, v2, v3, v4, v5, some (.inl a), v7] st I J = GO x d 163 Q 92 [v0, v1, v2, v3, v4, v5, some (.inl a), v7] (.inl a :: st) I J := ge (A := (1, 92, 6, 0, 0)) rfl
set_option maxRecDepth 10000 in
theorem g_163_92 : GO x d 163 Q 92 [v0, v1, v2, v3, v4, v5, v6, v7] (.inl b :: .inl a :: st) I J = GO x d 163 Q 93 [v0, v1, v2, v3, v4, v5, v6, v7] (.inl (a + b) :: st) I J := ge (A := (8, 93, 0, 0, 0)) rfl
set_option maxRecDepth 10000 in
theorem h_163_93 : GO x d 163 Q 93 [v0, v1, v2, v3, v4, v5, v6, v7] (.inl a :: .inr (.inr (.inr q)) :: st) I J = (q < 4 ∧ 0 ≤ a ∧ a < (roA x q).1 ∧ GO x d 163 Q 94 [v0, v1, v2, v3, v4, v5, v6, v7] (.inl ((roA x q).2 a.toNat) :: st) I J) := ge (A := (44, 94, 0, 0, 0)) rfl
set_option maxRecDepth 10000 in
theorem g_163_93 : GO x d 163 Q 93 [v0, v1, v2, v3, v4, v5, v6, v7] (.inl a :: .inr (.inr (.inl r)) :: st) I J = (okA r 20 ∧ 0 ≤ a ∧ a < lnN r ∧ GO x d 163 Q 94 [v0, v1, v2, v3, v4, v5, v6, v7] (.inl (I r a) :: st) I J) := ge (A := (44, 94, 0, 0, 0)) rfl
set_option maxRecDepth 10000 in
theorem g_163_94 : GO x d 163 Q 94 [v0, v1, v2, v3, v4, v5, v6, v7] (.inl a :: st) I J = (nlO (some v6) = true ∧ GO x d 163 Q 96 [v0, v1, v2, v3, v4, v5, v6, some (.inl a)] st I J) := (ge (A := (4, 96, 7, 0, 0)) rfl).trans (gst (Nat.le_of_ble_eq_true rfl) _)
set_option maxRecDepth 10000 in
theorem g_163_96 : GO x d 163 Q 96 [some (.inr (.inr w)), v1, v2, v3, v4, v5, v6, v7] st I J = GO x d 163 Q 97 [some (.inr (.inr w)), v1, v2, v3, v4, v5, v6, v7] (.inr (.inr w) :: st) I J := ge (A := (2, 97, 0, 0, 0)) rfl
set_option maxRecDepth 10000 in
theorem g_163_97 : GO x d 163 Q 97 [v0, v1, v2, v3, v4, v5, v6, some (.inl a)] st I J = GO x d 163 Q 99 [v0, v1, v2, v3, v4, v5, v6, some (.inl a)] (.inl a :: st) I J := ge (A := (1, 99, 7, 0, 0)) rfl
set_option maxRecDepth 10000 in
theorem g_163_99 : GO x d 163 Q 99 [v0, v1, v2, v3, v4, v5, v6, v7] [.inl i0, .inr (.inr (.inl r))] I J = (okO r 10 ∧ EX x d 112 [.inr (.inr (.inl r)), .inl i0] I J (fun r1 I1 J1 => GO x d 163 Q 102 [v0, v1, v2, v3, v4, v5, v6, v7] (r1.toList ++ []) I1 J1)) := (ge (A := (53, 102, 112, 1, 0)) rfl).trans (gtrue (Nat.le_of_ble_eq_true rfl))
set_option maxRecDepth 10000 in
theorem g_163_102 : GO x d 163 Q 102 [v0, v1, v2, v3, v4, v5, v6, v7] (.inl a :: st) I J = (inR a ∧ if a = 0 then GO x d 163 Q 116 [v0, v1, v2, v3, v4, v5, v6, v7] st I J else GO x d 163 Q 105 [v0, v1, v2, v3, v4, v5, v6, v7] st I J) := (ge (A := (33, 105, 116, 0, 0)) rfl).trans (gif (p := a = 0) inferInstance)
set_option maxRecDepth 10000 in
theorem g_163_105 : GO x d 163 Q 105 [v0, v1, v2, v3, v4, some (.inl a), v6, v7] st I J = GO x d 163 Q 107 [v0, v1, v2, v3, v4, some (.inl a), v6, v7] (.inl a :: st) I J := ge (A := (1, 107, 5, 0, 0)) rfl
set_option maxRecDepth 10000 in
theorem g_163_107 : GO x d 163 Q 107 [v0, v1, v2, v3, v4, v5, v6, some (.inl a)] st I J = GO x d 163 Q 109 [v0, v1, v2, v3, v4, v5, v6, some (.inl a)] (.inl a :: st) I J := ge (A := (1, 109, 7, 0, 0)) rfl
set_option maxRecDepth 10000 in
theorem g_163_109 : GO x d 163 Q 109 [v0, v1, v2, v3, v4, v5, v6, v7] (.inl b :: .inl a :: st) I J = GO x d 163 Q 110 [v0, v1, v2, v3, v4, v5, v6, v7] (.inl (shrI a b) :: st) I J := ge (A := (15, 110, 0, 0, 0)) rfl
set_option maxRecDepth 10000 in
theorem g_163_110 : GO x d 163 Q 110 [v0, v1, v2, v3, v4, v5, v6, v7] st I J = GO x d 163 Q 111 [v0, v1, v2, v3, v4, v5, v6, v7] (.inl (1) :: st) I J := ge (A := (0, 111, 0, 0, 1)) rfl
set_option maxRecDepth 10000 in
theorem g_163_111 : GO x d 163 Q 111 [v0, v1, v2, v3, v4, v5, v6, v7] (.inl b :: .inl a :: st) I J = GO x d 163 Q 112 [v0, v1, v2, v3, v4, v5, v6, v7] (.inl (andI a b) :: st) I J := ge (A := (11, 112, 0, 0, 0)) rfl
set_option maxRecDepth 10000 in
theorem g_163_112 : GO x d 163 Q 112 [v0, v1, v2, v3, v4, v5, v6, v7] st I J = GO x d 163 Q 113 [v0, v1, v2, v3, v4, v5, v6, v7] (.inl (1) :: st) I J := ge (A := (0, 113, 0, 0, 1)) rfl
set_option maxRecDepth 10000 in
theorem g_163_113 : GO x d 163 Q 113 [v0, v1, v2, v3, v4, v5, v6, v7] (.inl b :: .inl a :: st) I J = (inR a ∧ inR b ∧ if a = b then GO x d 163 Q 116 [v0, v1, v2, v3, v4, v5, v6, v7] st I J else GO x d 163 Q 119 [v0, v1, v2, v3, v4, v5, v6, v7] st I J) := (ge (A := (34, 116, 119, 1, 0)) rfl).trans (gicn (p := a = b) inferInstance)
set_option maxRecDepth 10000 in
theorem g_163_116 : GO x d 163 Q 116 [v0, v1, v2, v3, v4, v5, v6, v7] st I J = GO x d 163 Q 118 [v0, v1, v2, v3, v4, v5, v6, v7] (.inl (-1000001) :: st) I J := ge (A := (0, 118, 0, 0, -1000001)) rfl
set_option maxRecDepth 10000 in
theorem g_163_118 : GO x d 163 Q 118 [v0, v1, v2, v3, v4, v5, v6, v7] [.inl a] I J = Q (some (.inl a)) I J := ge (A := (55, 119, 0, 0, 0)) rfl
set_option maxRecDepth 10000 in
theorem g_163_119 : GO x d 163 Q 119 [v0, v1, v2, v3, v4, some (.inl a), v6, v7] st I J = GO x d 163 Q 121 [v0, v1, v2, v3, v4, some (.inl a), v6, v7] (.inl a :: st) I J := ge (A := (1, 121, 5, 0, 0)) rfl
set_option maxRecDepth 10000 in
theorem g_163_121 : GO x d 163 Q 121 [v0, v1, v2, v3, v4, v5, v6, v7] st I J = GO x d 163 Q 122 [v0, v1, v2, v3, v4, v5, v6, v7] (.inl (1) :: st) I J := ge (A := (0, 122, 0, 0, 1)) rfl
set_option maxRecDepth 10000 in
theorem g_163_122 : GO x d 163 Q 122 [v0, v1, v2, v3, v4, v5, v6, some (.inl a)] st I J = GO x d 163 Q 124 [v0, v1, v2, v3, v4, v5, v6, some (.inl a)] (.inl a :: st) I J := ge (A := (1, 124, 7, 0, 0)) rfl
set_option maxRecDepth 10000 in
theorem g_163_124 : GO x d 163 Q 124 [v0, v1, v2, v3, v4, v5, v6, v7] (.inl b :: .inl a :: st) I J = GO x d 163 Q 125 [v0, v1, v2, v3, v4, v5, v6, v7] (.inl (shlI a b) :: st) I J := ge (A := (14, 125, 0, 0, 0)) rfl
set_option maxRecDepth 10000 in
theorem g_163_125 : GO x d 163 Q 125 [v0, v1, v2, v3, v4, v5, v6, v7] (.inl b :: .inl a :: st) I J = GO x d 163 Q 126 [v0, v1, v2, v3, v4, v5, v6, v7] (.inl (orI a b) :: st) I J := ge (A := (12, 126, 0, 0, 0)) rfl
set_option maxRecDepth 10000 in
theorem g_163_126 : GO x d 163 Q 126 [v0, v1, v2, v3, v4, v5, v6, v7] (.inl a :: st) I J = (nlO (some v4) = true ∧ GO x d 163 Q 128 [v0, v1, v2, v3, v4, some (.inl a), v6, v7] st I J) := (ge (A := (4, 128, 5, 0, 0)) rfl).trans (gst (Nat.le_of_ble_eq_true rfl) _)
set_option maxRecDepth 10000 in
theorem g_163_128 : GO x d 163 Q 128 [v0, v1, v2, v3, v4, v5, some (.inl a), v7] st I J = (nlO (some v5) = true ∧ GO x d 163 Q 131 [v0, v1, v2, v3, v4, v5, some (.inl (a + (1))), v7] st I J) := ge (A := (7, 131, 6, 0, 1)) rfl
set_option maxRecDepth 10000 in
theorem g_163_131 : GO x d 163 Q 131 [v0, v1, v2, v3, v4, v5, v6, v7] st I J = GO x d 163 Q 78 [v0, v1, v2, v3, v4, v5, v6, v7] st I J := ge (A := (35, 134, 78, 0, 0)) rfl
set_option maxRecDepth 10000 in
theorem g_163_134 : GO x d 163 Q 134 [some (.inr (.inr w)), v1, v2, v3, v4, v5, v6, v7] st I J = GO x d 163 Q 135 [some (.inr (.inr w)), v1, v2, v3, v4, v5, v6, v7] (.inr (.inr w) :: st) I J := ge (A := (2, 135, 0, 0, 0)) rfl
set_option maxRecDepth 10000 in
theorem g_163_135 : GO x d 163 Q 135 [v0, v1, v2, v3, v4, v5, v6, v7] st I J = GO x d 163 Q 136 [v0, v1, v2, v3, v4, v5, v6, v7] (.inl (0) :: st) I J := ge (A := (0, 136, 0, 0, 0)) rfl
set_option maxRecDepth 10000 in
theorem g_163_136 : GO x d 163 Q 136 [v0, v1, v2, v3, v4, v5, v6, v7] (.inl a :: .inr (.inr (.inl r)) :: st) I J = (okO r 10 ∧ GO x d 163 Q 139 [v0, v1, v2, v3, v4, v5, v6, v7] st (up I r 13 a) J) := ge (A := (40, 139, 10, 13, 0)) rfl
set_option maxRecDepth 10000 in
theorem g_163_139 : GO x d 163 Q 139 [some (.inr (.inr w)), v1, v2, v3, v4, v5, v6, v7] st I J = GO x d 163 Q 140 [some (.inr (.inr w)), v1, v2, v3, v4, v5, v6, v7] (.inr (.inr w) :: st) I J := ge (A := (2, 140, 0, 0, 0)) rfl
set_option maxRecDepth 10000 in
theorem g_163_140 : GO x d 163 Q 140 [v0, v1, v2, v3, v4, v5, v6, v7] [.inr (.inr (.inl r))] I J = (okO r 10 ∧ EX x d 126 [.inr (.inr (.inl r))] I J (fun r1 I1 J1 => GO x d 163 Q 143 [v0, v1, v2, v3, v4, v5, v6, v7] (r1.toList ++ []) I1 J1)) := (ge (A := (53, 143, 126, 0, 0)) rfl).trans (gtrue (Nat.le_of_ble_eq_true rfl))
set_option maxRecDepth 10000 in
theorem g_163_143 : GO x d 163 Q 143 [v0, v1, v2, v3, v4, v5, v6, v7] st I J = GO x d 163 Q 144 [v0, v1, v2, v3, v4, v5, v6, v7] (.inl (0) :: st) I J := ge (A := (0, 144, 0, 0, 0)) rfl
set_option maxRecDepth 10000 in
theorem g_163_144 : GO x d 163 Q 144 [v0, v1, v2, v3, v4, v5, v6, v7] (.inl a :: st) I J = (nlO (some v5) = true ∧ GO x d 163 Q 146 [v0, v1, v2, v3, v4, v5, some (.inl a), v7] st I J) := (ge (A := (4, 146, 6, 0, 0)) rfl).trans (gst (Nat.le_of_ble_eq_true rfl) _)
set_option maxRecDepth 10000 in
theorem g_163_146 : GO x d 163 Q 146 [v0, v1, v2, v3, v4, v5, some (.inl a), v7] st I J = GO x d 163 Q 148 [v0, v1, v2, v3, v4, v5, some (.inl a), v7] (.inl a :: st) I J := ge (A := (1, 148, 6, 0, 0)) rfl
set_option maxRecDepth 10000 in
theorem g_163_148 : GO x d 163 Q 148 [v0, v1, v2, v3, v4, v5, v6, v7] st I J = GO x d 163 Q 150 [v0, v1, v2, v3, v4, v5, v6, v7] (.inl (24) :: st) I J := ge (A := (0, 150, 0, 0, 24)) rfl
set_option maxRecDepth 10000 in
theorem g_163_150 : GO x d 163 Q 150 [v0, v1, v2, v3, v4, v5, v6, v7] (.inl b :: .inl a :: st) I J = (inR a ∧ inR b ∧ if a < b then GO x d 163 Q 153 [v0, v1, v2, v3, v4, v5, v6, v7] st I J else GO x d 163 Q 196 [v0, v1, v2, v3, v4, v5, v6, v7] st I J) := (ge (A := (34, 153, 196, 3, 0)) rfl).trans (ggec)
set_option maxRecDepth 10000 in
theorem g_163_153 : GO x d 163 Q 153 [some (.inr (.inr w)), v1, v2, v3, v4, v5, v6, v7] st I J = GO x d 163 Q 154 [some (.inr (.inr w)), v1, v2, v3, v4, v5, v6, v7] (.inr (.inr w) :: st) I J := ge (A := (2, 154, 0, 0, 0)) rfl
set_option maxRecDepth 10000 in
theorem g_163_154 : GO x d 163 Q 154 [v0, v1, v2, v3, v4, v5, v6, v7] (.inr (.inr (.inl r)) :: st) I J = (okF r 10 27 ∧ GO x d 163 Q 157 [v0, v1, v2, v3, v4, v5, v6, v7] (.inr (.inr (.inl (rfN r 27))) :: st) I J) := (ge (A := (39, 157, 10, 27, 0)) rfl).trans (gref (f := fun q => GO x d 163 Q 157 [v0, v1, v2, v3, v4, v5, v6, v7] (.inr (.inr (.inl q)) :: st) I J))
set_option maxRecDepth 10000 in
theorem g_163_157 : GO x d 163 Q 157 [v0, v1, v2, v3, v4, v5, some (.inl a), v7] st I J = GO x d 163 Q 159 [v0, v1, v2, v3, v4, v5, some (.inl a), v7] (.inl a :: st) I J := ge (A := (1, 159, 6, 0, 0)) rfl
set_option maxRecDepth 10000 in
theorem g_163_159 : GO x d 163 Q 159 [some (.inr (.inr w)), v1, v2, v3, v4, v5, v6, v7] st I J = GO x d 163 Q 160 [some (.inr (.inr w)), v1, v2, v3, v4, v5, v6, v7] (.inr (.inr w) :: st) I J := ge (A := (2, 160, 0, 0, 0)) rfl
set_option maxRecDepth 10000 in
theorem g_163_160 : GO x d 163 Q 160 [v0, v1, v2, v3, v4, v5, v6, v7] (.inr (.inr (.inl r)) :: st) I J = (okF r 10 2 ∧ GO x d 163 Q 163 [v0, v1, v2, v3, v4, v5, v6, v7] (.inr (.inr (.inl (rfN r 2))) :: st) I J) := (ge (A := (39, 163, 10, 2, 0)) rfl).trans (gref (f := fun q => GO x d 163 Q 163 [v0, v1, v2, v3, v4, v5, v6, v7] (.inr (.inr (.inl q)) :: st) I J))
set_option maxRecDepth 10000 in
theorem g_163_163 : GO x d 163 Q 163 [v0, v1, v2, v3, v4, v5, v6, v7] st I J = GO x d 163 Q 165 [v0, v1, v2, v3, v4, v5, v6, v7] (.inl (29) :: st) I J := ge (A := (0, 165, 0, 0, 29)) rfl
set_option maxRecDepth 10000 in
theorem g_163_165 : GO x d 163 Q 165 [v0, v1, v2, v3, v4, v5, some (.inl a), v7] st I J = GO x d 163 Q 167 [v0, v1, v2, v3, v4, v5, some (.inl a), v7] (.inl a :: st) I J := ge (A := (1, 167, 6, 0, 0)) rfl
set_option maxRecDepth 10000 in
theorem g_163_167 : GO x d 163 Q 167 [v0, v1, v2, v3, v4, v5, v6, v7] (.inl b :: .inl a :: st) I J = GO x d 163 Q 168 [v0, v1, v2, v3, v4, v5, v6, v7] (.inl (a + b) :: st) I J := ge (A := (8, 168, 0, 0, 0)) rfl
set_option maxRecDepth 10000 in
theorem h_163_168 : GO x d 163 Q 168 [v0, v1, v2, v3, v4, v5, v6, v7] (.inl a :: .inr (.inr (.inr q)) :: st) I J = (q < 4 ∧ 0 ≤ a ∧ a < (roA x q).1 ∧ GO x d 163 Q 169 [v0, v1, v2, v3, v4, v5, v6, v7] (.inl ((roA x q).2 a.toNat) :: st) I J) := ge (A := (44, 169, 0, 0, 0)) rfl
set_option maxRecDepth 10000 in
theorem g_163_168 : GO x d 163 Q 168 [v0, v1, v2, v3, v4, v5, v6, v7] (.inl a :: .inr (.inr (.inl r)) :: st) I J = (okA r 20 ∧ 0 ≤ a ∧ a < lnN r ∧ GO x d 163 Q 169 [v0, v1, v2, v3, v4, v5, v6, v7] (.inl (I r a) :: st) I J) := ge (A := (44, 169, 0, 0, 0)) rfl
set_option maxRecDepth 10000 in
theorem g_163_169 : GO x d 163 Q 169 [v0, v1, v2, v3, v4, v5, v6, v7] (.inl b :: .inl a :: .inr (.inr (.inl r)) :: st) I J = (okA r 20 ∧ 0 ≤ a ∧ a < lnN r ∧ GO x d 163 Q 170 [v0, v1, v2, v3, v4, v5, v6, v7] st (up I r a b) J) := ge (A := (45, 170, 0, 0, 0)) rfl
set_option maxRecDepth 10000 in
theorem g_163_170 : GO x d 163 Q 170 [some (.inr (.inr w)), v1, v2, v3, v4, v5, v6, v7] st I J = GO x d 163 Q 171 [some (.inr (.inr w)), v1, v2, v3, v4, v5, v6, v7] (.inr (.inr w) :: st) I J := ge (A := (2, 171, 0, 0, 0)) rfl
set_option maxRecDepth 10000 in
theorem g_163_171 : GO x d 163 Q 171 [v0, v1, v2, v3, v4, v5, v6, v7] (.inr (.inr (.inl r)) :: st) I J = (okF r 10 2 ∧ GO x d 163 Q 174 [v0, v1, v2, v3, v4, v5, v6, v7] (.inr (.inr (.inl (rfN r 2))) :: st) I J) := (ge (A := (39, 174, 10, 2, 0)) rfl).trans (gref (f := fun q => GO x d 163 Q 174 [v0, v1, v2, v3, v4, v5, v6, v7] (.inr (.inr (.inl q)) :: st) I J))
set_option maxRecDepth 10000 in
theorem g_163_174 : GO x d 163 Q 174 [v0, v1, v2, v3, v4, v5, v6, v7] st I J = GO x d 163 Q 176 [v0, v1, v2, v3, v4, v5, v6, v7] (.inl (29) :: st) I J := ge (A := (0, 176, 0, 0, 29)) rfl
set_option maxRecDepth 10000 in
theorem g_163_176 : GO x d 163 Q 176 [v0, v1, v2, v3, v4, v5, some (.inl a), v7] st I J = GO x d 163 Q 178 [v0, v1, v2, v3, v4, v5, some (.inl a), v7] (.inl a :: st) I J := ge (A := (1, 178, 6, 0, 0)) rfl
set_option maxRecDepth 10000 in
theorem g_163_178 : GO x d 163 Q 178 [v0, v1, v2, v3, v4, v5, v6, v7] (.inl b :: .inl a :: st) I J = GO x d 163 Q 179 [v0, v1, v2, v3, v4, v5, v6, v7] (.inl (a + b) :: st) I J := ge (A := (8, 179, 0, 0, 0)) rfl
set_option maxRecDepth 10000 in
theorem g_163_179 : GO x d 163 Q 179 [some (.inr (.inr w)), v1, v2, v3, v4, v5, v6, v7] st I J = GO x d 163 Q 180 [some (.inr (.inr w)), v1, v2, v3, v4, v5, v6, v7] (.inr (.inr w) :: st) I J := ge (A := (2, 180, 0, 0, 0)) rfl
set_option maxRecDepth 10000 in
theorem g_163_180 : GO x d 163 Q 180 [v0, v1, v2, v3, v4, v5, v6, v7] (.inr (.inr (.inl r)) :: st) I J = (okF r 10 3 ∧ GO x d 163 Q 183 [v0, v1, v2, v3, v4, v5, v6, v7] (.inr (.inr (.inl (rfN r 3))) :: st) I J) := (ge (A := (39, 183, 10, 3, 0)) rfl).trans (gref (f := fun q => GO x d 163 Q 183 [v0, v1, v2, v3, v4, v5, v6, v7] (.inr (.inr (.inl q)) :: st) I J))
set_option maxRecDepth 10000 in
theorem g_163_183 : GO x d 163 Q 183 [v0, v1, v2, v3, v4, v5, v6, v7] st I J = GO x d 163 Q 185 [v0, v1, v2, v3, v4, v5, v6, v7] (.inl (29) :: st) I J := ge (A := (0, 185, 0, 0, 29)) rfl
set_option maxRecDepth 10000 in
theorem g_163_185 : GO x d 163 Q 185 [v0, v1, v2, v3, v4, v5, some (.inl a), v7] st I J = GO x d 163 Q 187 [v0, v1, v2, v3, v4, v5, some (.inl a), v7] (.inl a :: st) I J := ge (A := (1, 187, 6, 0, 0)) rfl
set_option maxRecDepth 10000 in
theorem g_163_187 : GO x d 163 Q 187 [v0, v1, v2, v3, v4, v5, v6, v7] (.inl b :: .inl a :: st) I J = GO x d 163 Q 188 [v0, v1, v2, v3, v4, v5, v6, v7] (.inl (a + b) :: st) I J := ge (A := (8, 188, 0, 0, 0)) rfl
set_option maxRecDepth 10000 in
theorem h_163_188 : GO x d 163 Q 188 [v0, v1, v2, v3, v4, v5, v6, v7] (.inl a :: .inr (.inr (.inr q)) :: st) I J = (q < 4 ∧ 0 ≤ a ∧ a < (roA x q).1 ∧ GO x d 163 Q 189 [v0, v1, v2, v3, v4, v5, v6, v7] (.inl ((roA x q).2 a.toNat) :: st) I J) := ge (A := (44, 189, 0, 0, 0)) rfl
set_option maxRecDepth 10000 in
theorem g_163_188 : GO x d 163 Q 188 [v0, v1, v2, v3, v4, v5, v6, v7] (.inl a :: .inr (.inr (.inl r)) :: st) I J = (okA r 20 ∧ 0 ≤ a ∧ a < lnN r ∧ GO x d 163 Q 189 [v0, v1, v2, v3, v4, v5, v6, v7] (.inl (I r a) :: st) I J) := ge (A := (44, 189, 0, 0, 0)) rfl
set_option maxRecDepth 10000 in
theorem g_163_189 : GO x d 163 Q 189 [v0, v1, v2, v3, v4, v5, v6, v7] (.inl b :: .inl a :: .inr (.inr (.inl r)) :: st) I J = (okA r 20 ∧ 0 ≤ a ∧ a < lnN r ∧ GO x d 163 Q 190 [v0, v1, v2, v3, v4, v5, v6, v7] st (up I r a b) J) := ge (A := (45, 190, 0, 0, 0)) rfl
set_option maxRecDepth 10000 in
theorem g_163_190 : GO x d 163 Q 190 [v0, v1, v2, v3, v4, v5, some (.inl a), v7] st I J = (nlO (some v5) = true ∧ GO x d 163 Q 193 [v0, v1, v2, v3, v4, v5, some (.inl (a + (1))), v7] st I J) := ge (A := (7, 193, 6, 0, 1)) rfl
set_option maxRecDepth 10000 in
theorem g_163_193 : GO x d 163 Q 193 [v0, v1, v2, v3, v4, v5, v6, v7] st I J = GO x d 163 Q 146 [v0, v1, v2, v3, v4, v5, v6, v7] st I J := ge (A := (35, 196, 146, 0, 0)) rfl
set_option maxRecDepth 10000 in
theorem g_163_196 : GO x d 163 Q 196 [some (.inr (.inr w)), v1, v2, v3, v4, v5, v6, v7] st I J = GO x d 163 Q 197 [some (.inr (.inr w)), v1, v2, v3, v4, v5, v6, v7] (.inr (.inr w) :: st) I J := ge (A := (2, 197, 0, 0, 0)) rfl
set_option maxRecDepth 10000 in
theorem g_163_197 : GO x d 163 Q 197 [v0, v1, v2, v3, some (.inl a), v5, v6, v7] st I J = GO x d 163 Q 199 [v0, v1, v2, v3, some (.inl a), v5, v6, v7] (.inl a :: st) I J := ge (A := (1, 199, 4, 0, 0)) rfl
set_option maxRecDepth 10000 in
theorem g_163_199 : GO x d 163 Q 199 [v0, v1, v2, some (.inl a), v4, v5, v6, v7] st I J = GO x d 163 Q 200 [v0, v1, v2, some (.inl a), v4, v5, v6, v7] (.inl a :: st) I J := ge (A := (1, 200, 3, 0, 0)) rfl
set_option maxRecDepth 10000 in
theorem g_163_200 : GO x d 163 Q 200 [v0, v1, v2, v3, v4, v5, v6, v7] [.inl i0, .inl i1, .inr (.inr (.inl r))] I J = (okO r 10 ∧ EX x d 162 [.inr (.inr (.inl r)), .inl i1, .inl i0] I J (fun r1 I1 J1 => GO x d 163 Q 203 [v0, v1, v2, v3, v4, v5, v6, v7] (r1.toList ++ []) I1 J1)) := (ge (A := (53, 203, 162, 2, 0)) rfl).trans (gtrue (Nat.le_of_ble_eq_true rfl))
set_option maxRecDepth 10000 in
theorem g_163_203 : GO x d 163 Q 203 [v0, v1, v2, v3, v4, v5, v6, v7] (.inl a :: st) I J = (nlO (some v5) = true ∧ GO x d 163 Q 205 [v0, v1, v2, v3, v4, v5, some (.inl a), v7] st I J) := (ge (A := (4, 205, 6, 0, 0)) rfl).trans (gst (Nat.le_of_ble_eq_true rfl) _)
set_option maxRecDepth 10000 in
theorem g_163_205 : GO x d 163 Q 205 [v0, v1, v2, v3, v4, v5, v6, v7] st I J = GO x d 163 Q 206 [v0, v1, v2, v3, v4, v5, v6, v7] (.inl (0) :: st) I J := ge (A := (0, 206, 0, 0, 0)) rfl
set_option maxRecDepth 10000 in
theorem g_163_206 : GO x d 163 Q 206 [v0, v1, v2, v3, v4, v5, v6, v7] (.inl a :: st) I J = (nlO (some v6) = true ∧ GO x d 163 Q 208 [v0, v1, v2, v3, v4, v5, v6, some (.inl a)] st I J) := (ge (A := (4, 208, 7, 0, 0)) rfl).trans (gst (Nat.le_of_ble_eq_true rfl) _)
set_option maxRecDepth 10000 in
theorem g_163_208 : GO x d 163 Q 208 [v0, v1, v2, v3, v4, v5, v6, some (.inl a)] st I J = GO x d 163 Q 210 [v0, v1, v2, v3, v4, v5, v6, some (.inl a)] (.inl a :: st) I J := ge (A := (1, 210, 7, 0, 0)) rfl
set_option maxRecDepth 10000 in
theorem g_163_210 : GO x d 163 Q 210 [v0, v1, v2, v3, v4, v5, v6, v7] st I J = GO x d 163 Q 212 [v0, v1, v2, v3, v4, v5, v6, v7] (.inl (24) :: st) I J := ge (A := (0, 212, 0, 0, 24)) rfl
set_option maxRecDepth 10000 in
theorem g_163_212 : GO x d 163 Q 212 [v0, v1, v2, v3, v4, v5, v6, v7] (.inl b :: .inl a :: st) I J = (inR a ∧ inR b ∧ if a < b then GO x d 163 Q 215 [v0, v1, v2, v3, v4, v5, v6, v7] st I J else GO x d 163 Q 238 [v0, v1, v2, v3, v4, v5, v6, v7] st I J) := (ge (A := (34, 215, 238, 3, 0)) rfl).trans (ggec)
set_option maxRecDepth 10000 in
theorem g_163_215 : GO x d 163 Q 215 [some (.inr (.inr w)), v1, v2, v3, v4, v5, v6, v7] st I J = GO x d 163 Q 216 [some (.inr (.inr w)), v1, v2, v3, v4, v5, v6, v7] (.inr (.inr w) :: st) I J := ge (A := (2, 216, 0, 0, 0)) rfl
set_option maxRecDepth 10000 in
theorem g_163_216 : GO x d 163 Q 216 [v0, v1, v2, v3, v4, v5, v6, v7] (.inr (.inr (.inl r)) :: st) I J = (okF r 10 2 ∧ GO x d 163 Q 219 [v0, v1, v2, v3, v4, v5, v6, v7] (.inr (.inr (.inl (rfN r 2))) :: st) I J) := (ge (A := (39, 219, 10, 2, 0)) rfl).trans (gref (f := fun q => GO x d 163 Q 219 [v0, v1, v2, v3, v4, v5, v6, v7] (.inr (.inr (.inl q)) :: st) I J))
set_option maxRecDepth 10000 in
theorem g_163_219 : GO x d 163 Q 219 [v0, v1, v2, v3, v4, v5, v6, v7] st I J = GO x d 163 Q 221 [v0, v1, v2, v3, v4, v5, v6, v7] (.inl (29) :: st) I J := ge (A := (0, 221, 0, 0, 29)) rfl
set_option maxRecDepth 10000 in
theorem g_163_221 : GO x d 163 Q 221 [v0, v1, v2, v3, v4, v5, v6, some (.inl a)] st I J = GO x d 163 Q 223 [v0, v1, v2, v3, v4, v5, v6, some (.inl a)] (.inl a :: st) I J := ge (A := (1, 223, 7, 0, 0)) rfl
set_option maxRecDepth 10000 in
theorem g_163_223 : GO x d 163 Q 223 [v0, v1, v2, v3, v4, v5, v6, v7] (.inl b :: .inl a :: st) I J = GO x d 163 Q 224 [v0, v1, v2, v3, v4, v5, v6, v7] (.inl (a + b) :: st) I J := ge (A := (8, 224, 0, 0, 0)) rfl
set_option maxRecDepth 10000 in
theorem g_163_224 : GO x d 163 Q 224 [some (.inr (.inr w)), v1, v2, v3, v4, v5, v6, v7] st I J = GO x d 163 Q 225 [some (.inr (.inr w)), v1, v2, v3, v4, v5, v6, v7] (.inr (.inr w) :: st) I J := ge (A := (2, 225, 0, 0, 0)) rfl
set_option maxRecDepth 10000 in
theorem g_163_225 : GO x d 163 Q 225 [v0, v1, v2, v3, v4, v5, v6, v7] (.inr (.inr (.inl r)) :: st) I J = (okF r 10 27 ∧ GO x d 163 Q 228 [v0, v1, v2, v3, v4, v5, v6, v7] (.inr (.inr (.inl (rfN r 27))) :: st) I J) := (ge (A := (39, 228, 10, 27, 0)) rfl).trans (gref (f := fun q => GO x d 163 Q 228 [v0, v1, v2, v3, v4, v5, v6, v7] (.inr (.inr (.inl q)) :: st) I J))
set_option maxRecDepth 10000 in
theorem g_163_228 : GO x d 163 Q 228 [v0, v1, v2, v3, v4, v5, v6, some (.inl a)] st I J = GO x d 163 Q 230 [v0, v1, v2, v3, v4, v5, v6, some (.inl a)] (.inl a :: st) I J := ge (A := (1, 230, 7, 0, 0)) rfl
set_option maxRecDepth 10000 in
theorem h_163_230 : GO x d 163 Q 230 [v0, v1, v2, v3, v4, v5, v6, v7] (.inl a :: .inr (.inr (.inr q)) :: st) I J = (q < 4 ∧ 0 ≤ a ∧ a < (roA x q).1 ∧ GO x d 163 Q 231 [v0, v1, v2, v3, v4, v5, v6, v7] (.inl ((roA x q).2 a.toNat) :: st) I J) := ge (A := (44, 231, 0, 0, 0)) rfl
set_option maxRecDepth 10000 in
theorem g_163_230 : GO x d 163 Q 230 [v0, v1, v2, v3, v4, v5, v6, v7] (.inl a :: .inr (.inr (.inl r)) :: st) I J = (okA r 20 ∧ 0 ≤ a ∧ a < lnN r ∧ GO x d 163 Q 231 [v0, v1, v2, v3, v4, v5, v6, v7] (.inl (I r a) :: st) I J) := ge (A := (44, 231, 0, 0, 0)) rfl
set_option maxRecDepth 10000 in
theorem g_163_231 : GO x d 163 Q 231 [v0, v1, v2, v3, v4, v5, v6, v7] (.inl b :: .inl a :: .inr (.inr (.inl r)) :: st) I J = (okA r 20 ∧ 0 ≤ a ∧ a < lnN r ∧ GO x d 163 Q 232 [v0, v1, v2, v3, v4, v5, v6, v7] st (up I r a b) J) := ge (A := (45, 232, 0, 0, 0)) rfl
set_option maxRecDepth 10000 in
theorem g_163_232 : GO x d 163 Q 232 [v0, v1, v2, v3, v4, v5, v6, some (.inl a)] st I J = (nlO (some v6) = true ∧ GO x d 163 Q 235 [v0, v1, v2, v3, v4, v5, v6, some (.inl (a + (1)))] st I J) := ge (A := (7, 235, 7, 0, 1)) rfl
set_option maxRecDepth 10000 in
theorem g_163_235 : GO x d 163 Q 235 [v0, v1, v2, v3, v4, v5, v6, v7] st I J = GO x d 163 Q 208 [v0, v1, v2, v3, v4, v5, v6, v7] st I J := ge (A := (35, 238, 208, 0, 0)) rfl
set_option maxRecDepth 10000 in
theorem g_163_238 : GO x d 163 Q 238 [v0, v1, v2, v3, v4, v5, some (.inl a), v7] st I J = GO x d 163 Q 240 [v0, v1, v2, v3, v4, v5, some (.inl a), v7] (.inl a :: st) I J := ge (A := (1, 240, 6, 0, 0)) rfl
set_option maxRecDepth 10000 in
theorem g_163_240 : GO x d 163 Q 240 [v0, v1, v2, v3, v4, v5, v6, v7] [.inl a] I J = Q (some (.inl a)) I J := ge (A := (55, 241, 0, 0, 0)) rfl
set_option maxRecDepth 10000 in
theorem e_163 : EX x (d + 1) 163 [.inr (.inr w0), .inl i0, .inl i1, .inl i2] I J Q = GO x d 163 Q 0 [some (.inr (.inr w0)), some (.inl i0), some (.inl i1), some (.inl i2), none, none, none, none] [] I J := ex_eq (Nat.le_of_ble_eq_true rfl) rfl (Nat.le_of_ble_eq_true rfl) rfl
set_option maxRecDepth 10000 in
theorem g_164_0 : GO x d 164 Q 0 [v0, some (.inl a), v2] st I J = GO x d 164 Q 1 [v0, some (.inl a), v2] (.inl a :: st) I J := ge (A := (1, 1, 1, 0, 0)) rfl
set_option maxRecDepth 10000 in
theorem g_164_1 : GO x d 164 Q 1 [v0, v1, v2] st I J = GO x d 164 Q 2 [v0, v1, v2] (.inl (0) :: st) I J := ge (A := (0, 2, 0, 0, 0)) rfl
set_option maxRecDepth 10000 in
theorem g_164_2 : GO x d 164 Q 2 [v0, v1, v2] st I J = GO x d 164 Q 3 [v0, v1, v2] (.inl (1) :: st) I J := ge (A := (0, 3, 0, 0, 1)) rfl
set_option maxRecDepth 10000 in
theorem g_164_3 : GO x d 164 Q 3 [v0, v1, v2] [.inl i0, .inl i1, .inl i2] I J = EX x d 109 [.inl i2, .inl i1, .inl i0] I J (fun r1 I1 J1 => GO x d 164 Q 6 [v0, v1, v2] (r1.toList ++ []) I1 J1) := (ge (A := (52, 6, 109, 3, 0)) rfl).trans (gtrue2 (Nat.le_of_ble_eq_true rfl) (Nat.le_of_ble_eq_true rfl))
set_option maxRecDepth 10000 in
theorem g_164_6 : GO x d 164 Q 6 [v0, v1, v2] (.inl a :: st) I J = (inR a ∧ if a = 0 then GO x d 164 Q 9 [v0, v1, v2] st I J else GO x d 164 Q 12 [v0, v1, v2] st I J) := (ge (A := (33, 9, 12, 1, 0)) rfl).trans (gifn (p := a = 0) inferInstance)
set_option maxRecDepth 10000 in
theorem g_164_9 : GO x d 164 Q 9 [v0, v1, v2] st I J = GO x d 164 Q 11 [v0, v1, v2] (.inl (-1000001) :: st) I J := ge (A := (0, 11, 0, 0, -1000001)) rfl
set_option maxRecDepth 10000 in
theorem g_164_11 : GO x d 164 Q 11 [v0, v1, v2] [.inl a] I J = Q (some (.inl a)) I J := ge (A := (55, 12, 0, 0, 0)) rfl
set_option maxRecDepth 10000 in
theorem g_164_12 : GO x d 164 Q 12 [some (.inr (.inr w)), v1, v2] st I J = GO x d 164 Q 13 [some (.inr (.inr w)), v1, v2] (.inr (.inr w) :: st) I J := ge (A := (2, 13, 0, 0, 0)) rfl
set_option maxRecDepth 10000 in
theorem g_164_13 : GO x d 164 Q 13 [v0, v1, v2] [.inr (.inr (.inl r))] I J = (okO r 10 ∧ EX x d 110 [.inr (.inr (.inl r))] I J (fun r1 I1 J1 => GO x d 164 Q 16 [v0, v1, v2] (r1.toList ++ []) I1 J1)) := (ge (A := (53, 16, 110, 0, 0)) rfl).trans (gtrue (Nat.le_of_ble_eq_true rfl))
set_option maxRecDepth 10000 in
theorem g_164_16 : GO x d 164 Q 16 [v0, v1, v2] (.inl a :: st) I J = (inR a ∧ if a = 0 then GO x d 164 Q 19 [v0, v1, v2] st I J else GO x d 164 Q 22 [v0, v1, v2] st I J) := (ge (A := (33, 19, 22, 1, 0)) rfl).trans (gifn (p := a = 0) inferInstance)
set_option maxRecDepth 10000 in
theorem g_164_19 : GO x d 164 Q 19 [v0, v1, v2] st I J = GO x d 164 Q 21 [v0, v1, v2] (.inl (-1000002) :: st) I J := ge (A := (0, 21, 0, 0, -1000002)) rfl
set_option maxRecDepth 10000 in
theorem g_164_21 : GO x d 164 Q 21 [v0, v1, v2] [.inl a] I J = Q (some (.inl a)) I J := ge (A := (55, 22, 0, 0, 0)) rfl
set_option maxRecDepth 10000 in
theorem g_164_22 : GO x d 164 Q 22 [v0, v1, v2] st I J = GO x d 164 Q 23 [v0, v1, v2] (.inl (0) :: st) I J := ge (A := (0, 23, 0, 0, 0)) rfl
set_option maxRecDepth 10000 in
theorem g_164_23 : GO x d 164 Q 23 [v0, v1, v2] (.inl a :: st) I J = (nlO (some v1) = true ∧ GO x d 164 Q 24 [v0, v1, some (.inl a)] st I J) := (ge (A := (4, 24, 2, 0, 0)) rfl).trans (gst (Nat.le_of_ble_eq_true rfl) _)
set_option maxRecDepth 10000 in
theorem g_164_24 : GO x d 164 Q 24 [v0, v1, some (.inl a)] st I J = GO x d 164 Q 25 [v0, v1, some (.inl a)] (.inl a :: st) I J := ge (A := (1, 25, 2, 0, 0)) rfl
set_option maxRecDepth 10000 in
theorem g_164_25 : GO x d 164 Q 25 [v0, v1, v2] st I J = GO x d 164 Q 27 [v0, v1, v2] (.inl (53) :: st) I J := ge (A := (0, 27, 0, 0, 53)) rfl
set_option maxRecDepth 10000 in
theorem g_164_27 : GO x d 164 Q 27 [v0, v1, v2] (.inl b :: .inl a :: st) I J = (inR a ∧ inR b ∧ if a < b then GO x d 164 Q 30 [v0, v1, v2] st I J else GO x d 164 Q 53 [v0, v1, v2] st I J) := (ge (A := (34, 30, 53, 3, 0)) rfl).trans (ggec)
set_option maxRecDepth 10000 in
theorem g_164_30 : GO x d 164 Q 30 [some (.inr (.inr w)), v1, v2] st I J = GO x d 164 Q 31 [some (.inr (.inr w)), v1, v2] (.inr (.inr w) :: st) I J := ge (A := (2, 31, 0, 0, 0)) rfl
set_option maxRecDepth 10000 in
theorem g_164_31 : GO x d 164 Q 31 [v0, v1, v2] (.inr (.inr (.inl r)) :: st) I J = (okF r 10 6 ∧ GO x d 164 Q 34 [v0, v1, v2] (.inr (.inr (.inl (rfN r 6))) :: st) I J) := (ge (A := (39, 34, 10, 6, 0)) rfl).trans (gref (f := fun q => GO x d 164 Q 34 [v0, v1, v2] (.inr (.inr (.inl q)) :: st) I J))
set_option maxRecDepth 10000 in
theorem g_164_34 : GO x d 164 Q 34 [v0, v1, v2] st I J = GO x d 164 Q 36 [v0, v1, v2] (.inl (53) :: st) I J := ge (A := (0, 36, 0, 0, 53)) rfl
set_option maxRecDepth 10000 in
theorem g_164_36 : GO x d 164 Q 36 [v0, some (.inl a), v2] st I J = GO x d 164 Q 37 [v0, some (.inl a), v2] (.inl a :: st) I J := ge (A := (1, 37, 1, 0, 0)) rfl
set_option maxRecDepth 10000 in
theorem g_164_37 : GO x d 164 Q 37 [v0, v1, v2] (.inl b :: .inl a :: st) I J = GO x d 164 Q 38 [v0, v1, v2] (.inl (a * b) :: st) I J := ge (A := (10, 38, 0, 0, 0)) rfl
set_option maxRecDepth 10000 in
theorem g_164_38 : GO x d 164 Q 38 [v0, v1, some (.inl a)] st I J = GO x d 164 Q 39 [v0, v1, some (.inl a)] (.inl a :: st) I J := ge (A := (1, 39, 2, 0, 0)) rfl
set_option maxRecDepth 10000 in
theorem g_164_39 : GO x d 164 Q 39 [v0, v1, v2] (.inl b :: .inl a :: st) I J = GO x d 164 Q 40 [v0, v1, v2] (.inl (a + b) :: st) I J := ge (A := (8, 40, 0, 0, 0)) rfl
set_option maxRecDepth 10000 in
theorem g_164_40 : GO x d 164 Q 40 [some (.inr (.inr w)), v1, v2] st I J = GO x d 164 Q 41 [some (.inr (.inr w)), v1, v2] (.inr (.inr w) :: st) I J := ge (A := (2, 41, 0, 0, 0)) rfl
set_option maxRecDepth 10000 in
theorem g_164_41 : GO x d 164 Q 41 [v0, v1, v2] (.inr (.inr (.inl r)) :: st) I J = (okF r 10 2 ∧ GO x d 164 Q 44 [v0, v1, v2] (.inr (.inr (.inl (rfN r 2))) :: st) I J) := (ge (A := (39, 44, 10, 2, 0)) rfl).trans (gref (f := fun q => GO x d 164 Q 44 [v0, v1, v2] (.inr (.inr (.inl q)) :: st) I J))
set_option maxRecDepth 10000 in
theorem g_164_44 : GO x d 164 Q 44 [v0, v1, some (.inl a)] st I J = GO x d 164 Q 45 [v0, v1, some (.inl a)] (.inl a :: st) I J := ge (A := (1, 45, 2, 0, 0)) rfl
set_option maxRecDepth 10000 in
theorem h_164_45 : GO x d 164 Q 45 [v0, v1, v2] (.inl a :: .inr (.inr (.inr q)) :: st) I J = (q < 4 ∧ 0 ≤ a ∧ a < (roA x q).1 ∧ GO x d 164 Q 46 [v0, v1, v2] (.inl ((roA x q).2 a.toNat) :: st) I J) := ge (A := (44, 46, 0, 0, 0)) rfl
set_option maxRecDepth 10000 in
theorem g_164_45 : GO x d 164 Q 45 [v0, v1, v2] (.inl a :: .inr (.inr (.inl r)) :: st) I J = (okA r 20 ∧ 0 ≤ a ∧ a < lnN r ∧ GO x d 164 Q 46 [v0, v1, v2] (.inl (I r a) :: st) I J) := ge (A := (44, 46, 0, 0, 0)) rfl
set_option maxRecDepth 10000 in
theorem g_164_46 : GO x d 164 Q 46 [v0, v1, v2] (.inl b :: .inl a :: .inr (.inr (.inl r)) :: st) I J = (okA r 20 ∧ 0 ≤ a ∧ a < lnN r ∧ GO x d 164 Q 47 [v0, v1, v2] st (up I r a b) J) := ge (A := (45, 47, 0, 0, 0)) rfl
set_option maxRecDepth 10000 in
theorem g_164_47 : GO x d 164 Q 47 [v0, v1, some (.inl a)] st I J = (nlO (some v1) = true ∧ GO x d 164 Q 50 [v0, v1, some (.inl (a + (1)))] st I J) := ge (A := (7, 50, 2, 0, 1)) rfl
set_option maxRecDepth 10000 in
theorem g_164_50 : GO x d 164 Q 50 [v0, v1, v2] st I J = GO x d 164 Q 24 [v0, v1, v2] st I J := ge (A := (35, 53, 24, 0, 0)) rfl
set_option maxRecDepth 10000 in
theorem g_164_53 : GO x d 164 Q 53 [some (.inr (.inr w)), v1, v2] st I J = GO x d 164 Q 54 [some (.inr (.inr w)), v1, v2] (.inr (.inr w) :: st) I J := ge (A := (2, 54, 0, 0, 0)) rfl
set_option maxRecDepth 10000 in
theorem g_164_54 : GO x d 164 Q 54 [v0, v1, v2] (.inr (.inr (.inl r)) :: st) I J = (okF r 10 7 ∧ GO x d 164 Q 57 [v0, v1, v2] (.inr (.inr (.inl (rfN r 7))) :: st) I J) := (ge (A := (39, 57, 10, 7, 0)) rfl).trans (gref (f := fun q => GO x d 164 Q 57 [v0, v1, v2] (.inr (.inr (.inl q)) :: st) I J))
set_option maxRecDepth 10000 in
theorem g_164_57 : GO x d 164 Q 57 [v0, some (.inl a), v2] st I J = GO x d 164 Q 58 [v0, some (.inl a), v2] (.inl a :: st) I J := ge (A := (1, 58, 1, 0, 0)) rfl
set_option maxRecDepth 10000 in
theorem g_164_58 : GO x d 164 Q 58 [v0, v1, v2] st I J = GO x d 164 Q 59 [v0, v1, v2] (.inl (1) :: st) I J := ge (A := (0, 59, 0, 0, 1)) rfl
set_option maxRecDepth 10000 in
theorem g_164_59 : GO x d 164 Q 59 [v0, v1, v2] (.inl b :: .inl a :: .inr (.inr (.inl r)) :: st) I J = (okA r 22 ∧ 0 ≤ a ∧ a < lnN r ∧ ret01 b ∧ GO x d 164 Q 60 [v0, v1, v2] st (up I r a b) J) := ge (A := (47, 60, 0, 0, 0)) rfl
set_option maxRecDepth 10000 in
theorem g_164_60 : GO x d 164 Q 60 [v0, v1, v2] st I J = GO x d 164 Q 61 [v0, v1, v2] (.inl (1) :: st) I J := ge (A := (0, 61, 0, 0, 1)) rfl
set_option maxRecDepth 10000 in
theorem g_164_61 : GO x d 164 Q 61 [v0, v1, v2] [.inl a] I J = Q (some (.inl a)) I J := ge (A := (55, 62, 0, 0, 0)) rfl
set_option maxRecDepth 10000 in
theorem e_164 : EX x (d + 1) 164 [.inr (.inr w0), .inl i0] I J Q = GO x d 164 Q 0 [some (.inr (.inr w0)), some (.inl i0), none] [] I J := ex_eq (Nat.le_of_ble_eq_true rfl) rfl (Nat.le_of_ble_eq_true rfl) rfl
set_option maxRecDepth 10000 in
theorem g_165_0 : GO x d 165 Q 0 [v0, some (.inl a), v2] st I J = GO x d 165 Q 1 [v0, some (.inl a), v2] (.inl a :: st) I J := ge (A := (1, 1, 1, 0, 0)) rfl
set_option maxRecDepth 10000 in
theorem g_165_1 : GO x d 165 Q 1 [v0, v1, v2] st I J = GO x d 165 Q 2 [v0, v1, v2] (.inl (0) :: st) I J := ge (A := (0, 2, 0, 0, 0)) rfl
set_option maxRecDepth 10000 in
theorem g_165_2 : GO x d 165 Q 2 [v0, v1, v2] st I J = GO x d 165 Q 3 [v0, v1, v2] (.inl (1) :: st) I J := ge (A := (0, 3, 0, 0, 1)) rfl
set_option maxRecDepth 10000 in
theorem g_165_3 : GO x d 165 Q 3 [v0, v1, v2] [.inl i0, .inl i1, .inl i2] I J = EX x d 109 [.inl i2, .inl i1, .inl i0] I J (fun r1 I1 J1 => GO x d 165 Q 6 [v0, v1, v2] (r1.toList ++ []) I1 J1) := (ge (A := (52, 6, 109, 3, 0)) rfl).trans (gtrue2 (Nat.le_of_ble_eq_true rfl) (Nat.le_of_ble_eq_true rfl))
set_option maxRecDepth 10000 in
theorem g_165_6 : GO x d 165 Q 6 [v0, v1, v2] (.inl a :: st) I J = (inR a ∧ if a = 0 then GO x d 165 Q 9 [v0, v1, v2] st I J else GO x d 165 Q 12 [v0, v1, v2] st I J) := (ge (A := (33, 9, 12, 1, 0)) rfl).trans (gifn (p := a = 0) inferInstance)
set_option maxRecDepth 10000 in
theorem g_165_9 : GO x d 165 Q 9 [v0, v1, v2] st I J = GO x d 165 Q 11 [v0, v1, v2] (.inl (-1000001) :: st) I J := ge (A := (0, 11, 0, 0, -1000001)) rfl
set_option maxRecDepth 10000 in
theorem g_165_11 : GO x d 165 Q 11 [v0, v1, v2] [.inl a] I J = Q (some (.inl a)) I J := ge (A := (55, 12, 0, 0, 0)) rfl
set_option maxRecDepth 10000 in
theorem g_165_12 : GO x d 165 Q 12 [some (.inr (.inr w)), v1, v2] st I J = GO x d 165 Q 13 [some (.inr (.inr w)), v1, v2] (.inr (.inr w) :: st) I J := ge (A := (2, 13, 0, 0, 0)) rfl
set_option maxRecDepth 10000 in
theorem g_165_13 : GO x d 165 Q 13 [v0, v1, v2] (.inr (.inr (.inl r)) :: st) I J = (okF r 10 7 ∧ GO x d 165 Q 16 [v0, v1, v2] (.inr (.inr (.inl (rfN r 7))) :: st) I J) := (ge (A := (39, 16, 10, 7, 0)) rfl).trans (gref (f := fun q => GO x d 165 Q 16 [v0, v1, v2] (.inr (.inr (.inl q)) :: st) I J))
set_option maxRecDepth 10000 in
theorem g_165_16 : GO x d 165 Q 16 [v0, some (.inl a), v2] st I J = GO x d 165 Q 17 [v0, some (.inl a), v2] (.inl a :: st) I J := ge (A := (1, 17, 1, 0, 0)) rfl
set_option maxRecDepth 10000 in
theorem g_165_17 : GO x d 165 Q 17 [v0, v1, v2] (.inl a :: .inr (.inr (.inl r)) :: st) I J = (okA r 22 ∧ 0 ≤ a ∧ a < lnN r ∧ GO x d 165 Q 18 [v0, v1, v2] (.inl (I r a) :: st) I J) := ge (A := (46, 18, 0, 0, 0)) rfl
set_option maxRecDepth 10000 in
theorem g_165_18 : GO x d 165 Q 18 [v0, v1, v2] (.inl a :: st) I J = (inR a ∧ if a = 0 then GO x d 165 Q 21 [v0, v1, v2] st I J else GO x d 165 Q 24 [v0, v1, v2] st I J) := (ge (A := (33, 21, 24, 1, 0)) rfl).trans (gifn (p := a = 0) inferInstance)
set_option maxRecDepth 10000 in
theorem g_165_21 : GO x d 165 Q 21 [v0, v1, v2] st I J = GO x d 165 Q 23 [v0, v1, v2] (.inl (-1000002) :: st) I J := ge (A := (0, 23, 0, 0, -1000002)) rfl
set_option maxRecDepth 10000 in
theorem g_165_23 : GO x d 165 Q 23 [v0, v1, v2] [.inl a] I J = Q (some (.inl a)) I J := ge (A := (55, 24, 0, 0, 0)) rfl
set_option maxRecDepth 10000 in
theorem g_165_24 : GO x d 165 Q 24 [v0, v1, v2] st I J = GO x d 165 Q 25 [v0, v1, v2] (.inl (0) :: st) I J := ge (A := (0, 25, 0, 0, 0)) rfl
set_option maxRecDepth 10000 in
theorem g_165_25 : GO x d 165 Q 25 [v0, v1, v2] (.inl a :: st) I J = (nlO (some v1) = true ∧ GO x d 165 Q 26 [v0, v1, some (.inl a)] st I J) := (ge (A := (4, 26, 2, 0, 0)) rfl).trans (gst (Nat.le_of_ble_eq_true rfl) _)
set_option maxRecDepth 10000 in
theorem g_165_26 : GO x d 165 Q 26 [v0, v1, some (.inl a)] st I J = GO x d 165 Q 27 [v0, v1, some (.inl a)] (.inl a :: st) I J := ge (A := (1, 27, 2, 0, 0)) rfl
set_option maxRecDepth 10000 in
theorem g_165_27 : GO x d 165 Q 27 [v0, v1, v2] st I J = GO x d 165 Q 29 [v0, v1, v2] (.inl (53) :: st) I J := ge (A := (0, 29, 0, 0, 53)) rfl
set_option maxRecDepth 10000 in
theorem g_165_29 : GO x d 165 Q 29 [v0, v1, v2] (.inl b :: .inl a :: st) I J = (inR a ∧ inR b ∧ if a < b then GO x d 165 Q 32 [v0, v1, v2] st I J else GO x d 165 Q 55 [v0, v1, v2] st I J) := (ge (A := (34, 32, 55, 3, 0)) rfl).trans (ggec)
set_option maxRecDepth 10000 in
theorem g_165_32 : GO x d 165 Q 32 [some (.inr (.inr w)), v1, v2] st I J = GO x d 165 Q 33 [some (.inr (.inr w)), v1, v2] (.inr (.inr w) :: st) I J := ge (A := (2, 33, 0, 0, 0)) rfl
set_option maxRecDepth 10000 in
theorem g_165_33 : GO x d 165 Q 33 [v0, v1, v2] (.inr (.inr (.inl r)) :: st) I J = (okF r 10 2 ∧ GO x d 165 Q 36 [v0, v1, v2] (.inr (.inr (.inl (rfN r 2))) :: st) I J) := (ge (A := (39, 36, 10, 2, 0)) rfl).trans (gref (f := fun q => GO x d 165 Q 36 [v0, v1, v2] (.inr (.inr (.inl q)) :: st) I J))
set_option maxRecDepth 10000 in
theorem g_165_36 : GO x d 165 Q 36 [v0, v1, some (.inl a)] st I J = GO x d 165 Q 37 [v0, v1, some (.inl a)] (.inl a :: st) I J := ge (A := (1, 37, 2, 0, 0)) rfl
set_option maxRecDepth 10000 in
theorem g_165_37 : GO x d 165 Q 37 [some (.inr (.inr w)), v1, v2] st I J = GO x d 165 Q 38 [some (.inr (.inr w)), v1, v2] (.inr (.inr w) :: st) I J := ge (A := (2, 38, 0, 0, 0)) rfl
set_option maxRecDepth 10000 in
theorem g_165_38 : GO x d 165 Q 38 [v0, v1, v2] (.inr (.inr (.inl r)) :: st) I J = (okF r 10 6 ∧ GO x d 165 Q 41 [v0, v1, v2] (.inr (.inr (.inl (rfN r 6))) :: st) I J) := (ge (A := (39, 41, 10, 6, 0)) rfl).trans (gref (f := fun q => GO x d 165 Q 41 [v0, v1, v2] (.inr (.inr (.inl q)) :: st) I J))
set_option maxRecDepth 10000 in
theorem g_165_41 : GO x d 165 Q 41 [v0, v1, v2] st I J = GO x d 165 Q 43 [v0, v1, v2] (.inl (53) :: st) I J := ge (A := (0, 43, 0, 0, 53)) rfl
set_option maxRecDepth 10000 in
theorem g_165_43 : GO x d 165 Q 43 [v0, some (.inl a), v2] st I J = GO x d 165 Q 44 [v0, some (.inl a), v2] (.inl a :: st) I J := ge (A := (1, 44, 1, 0, 0)) rfl
set_option maxRecDepth 10000 in
theorem g_165_44 : GO x d 165 Q 44 [v0, v1, v2] (.inl b :: .inl a :: st) I J = GO x d 165 Q 45 [v0, v1, v2] (.inl (a * b) :: st) I J := ge (A := (10, 45, 0, 0, 0)) rfl
set_option maxRecDepth 10000 in
theorem g_165_45 : GO x d 165 Q 45 [v0, v1, some (.inl a)] st I J = GO x d 165 Q 46 [v0, v1, some (.inl a)] (.inl a :: st) I J := ge (A := (1, 46, 2, 0, 0)) rfl
set_option maxRecDepth 10000 in
theorem g_165_46 : GO x d 165 Q 46 [v0, v1, v2] (.inl b :: .inl a :: st) I J = GO x d 165 Q 47 [v0, v1, v2] (.inl (a + b) :: st) I J := ge (A := (8, 47, 0, 0, 0)) rfl
set_option maxRecDepth 10000 in
theorem h_165_47 : GO x d 165 Q 47 [v0, v1, v2] (.inl a :: .inr (.inr (.inr q)) :: st) I J = (q < 4 ∧ 0 ≤ a ∧ a < (roA x q).1 ∧ GO x d 165 Q 48 [v0, v1, v2] (.inl ((roA x q).2 a.toNat) :: st) I J) := ge (A := (44, 48, 0, 0, 0)) rfl
set_option maxRecDepth 10000 in
theorem g_165_47 : GO x d 165 Q 47 [v0, v1, v2] (.inl a :: .inr (.inr (.inl r)) :: st) I J = (okA r 20 ∧ 0 ≤ a ∧ a < lnN r ∧ GO x d 165 Q 48 [v0, v1, v2] (.inl (I r a) :: st) I J) := ge (A := (44, 48, 0, 0, 0)) rfl
set_option maxRecDepth 10000 in
theorem g_165_48 : GO x d 165 Q 48 [v0, v1, v2] (.inl b :: .inl a :: .inr (.inr (.inl r)) :: st) I J = (okA r 20 ∧ 0 ≤ a ∧ a < lnN r ∧ GO x d 165 Q 49 [v0, v1, v2] st (up I r a b) J) := ge (A := (45, 49, 0, 0, 0)) rfl
set_option maxRecDepth 10000 in
theorem g_165_49 : GO x d 165 Q 49 [v0, v1, some (.inl a)] st I J = (nlO (some v1) = true ∧ GO x d 165 Q 52 [v0, v1, some (.inl (a + (1)))] st I J) := ge (A := (7, 52, 2, 0, 1)) rfl
set_option maxRecDepth 10000 in
theorem g_165_52 : GO x d 165 Q 52 [v0, v1, v2] st I J = GO x d 165 Q 26 [v0, v1, v2] st I J := ge (A := (35, 55, 26, 0, 0)) rfl
set_option maxRecDepth 10000 in
theorem g_165_55 : GO x d 165 Q 55 [some (.inr (.inr w)), v1, v2] st I J = GO x d 165 Q 56 [some (.inr (.inr w)), v1, v2] (.inr (.inr w) :: st) I J := ge (A := (2, 56, 0, 0, 0)) rfl
set_option maxRecDepth 10000 in
theorem g_165_56 : GO x d 165 Q 56 [v0, v1, v2] st I J = GO x d 165 Q 57 [v0, v1, v2] (.inl (0) :: st) I J := ge (A := (0, 57, 0, 0, 0)) rfl
set_option maxRecDepth 10000 in
theorem g_165_57 : GO x d 165 Q 57 [v0, v1, v2] (.inl a :: .inr (.inr (.inl r)) :: st) I J = (okO r 10 ∧ GO x d 165 Q 60 [v0, v1, v2] st (up I r 5 a) J) := ge (A := (40, 60, 10, 5, 0)) rfl
set_option maxRecDepth 10000 in
theorem g_165_60 : GO x d 165 Q 60 [v0, v1, v2] st I J = GO x d 165 Q 61 [v0, v1, v2] (.inl (1) :: st) I J := ge (A := (0, 61, 0, 0, 1)) rfl
set_option maxRecDepth 10000 in
theorem g_165_61 : GO x d 165 Q 61 [v0, v1, v2] [.inl a] I J = Q (some (.inl a)) I J := ge (A := (55, 62, 0, 0, 0)) rfl
set_option maxRecDepth 10000 in
theorem e_165 : EX x (d + 1) 165 [.inr (.inr w0), .inl i0] I J Q = GO x d 165 Q 0 [some (.inr (.inr w0)), some (.inl i0), none] [] I J := ex_eq (Nat.le_of_ble_eq_true rfl) rfl (Nat.le_of_ble_eq_true rfl) rfl
set_option maxRecDepth 10000 in
theorem g_166_0 : GO x d 166 Q 0 [some (.inr (.inr w)), v1] st I J = GO x d 166 Q 1 [some (.inr (.inr w)), v1] (.inr (.inr w) :: st) I J := ge (A := (2, 1, 0, 0, 0)) rfl
set_option maxRecDepth 10000 in
theorem g_166_1 : GO x d 166 Q 1 [v0, some (.inl a)] st I J = GO x d 166 Q 2 [v0, some (.inl a)] (.inl a :: st) I J := ge (A := (1, 2, 1, 0, 0)) rfl
set_option maxRecDepth 10000 in
theorem g_166_2 : GO x d 166 Q 2 [v0, v1] [.inl i0, .inr (.inr (.inl r))] I J = (okO r 10 ∧ EX x d 111 [.inr (.inr (.inl r)), .inl i0] I J (fun r1 I1 J1 => GO x d 166 Q 5 [v0, v1] (r1.toList ++ []) I1 J1)) := (ge (A := (53, 5, 111, 1, 0)) rfl).trans (gtrue (Nat.le_of_ble_eq_true rfl))
set_option maxRecDepth 10000 in
theorem g_166_5 : GO x d 166 Q 5 [v0, v1] (.inl a :: st) I J = (inR a ∧ if a = 0 then GO x d 166 Q 20 [v0, v1] st I J else GO x d 166 Q 8 [v0, v1] st I J) := (ge (A := (33, 8, 20, 0, 0)) rfl).trans (gif (p := a = 0) inferInstance)
set_option maxRecDepth 10000 in
theorem g_166_8 : GO x d 166 Q 8 [some (.inr (.inr w)), v1] st I J = GO x d 166 Q 9 [some (.inr (.inr w)), v1] (.inr (.inr w) :: st) I J := ge (A := (2, 9, 0, 0, 0)) rfl
set_option maxRecDepth 10000 in
theorem g_166_9 : GO x d 166 Q 9 [v0, v1] (.inr (.inr (.inl r)) :: st) I J = (okF r 10 2 ∧ GO x d 166 Q 12 [v0, v1] (.inr (.inr (.inl (rfN r 2))) :: st) I J) := (ge (A := (39, 12, 10, 2, 0)) rfl).trans (gref (f := fun q => GO x d 166 Q 12 [v0, v1] (.inr (.inr (.inl q)) :: st) I J))
set_option maxRecDepth 10000 in
theorem g_166_12 : GO x d 166 Q 12 [v0, v1] st I J = GO x d 166 Q 14 [v0, v1] (.inl (8) :: st) I J := ge (A := (0, 14, 0, 0, 8)) rfl
set_option maxRecDepth 10000 in
theorem g_166_14 : GO x d 166 Q 14 [v0, some (.inl a)] st I J = GO x d 166 Q 15 [v0, some (.inl a)] (.inl a :: st) I J := ge (A := (1, 15, 1, 0, 0)) rfl
set_option maxRecDepth 10000 in
theorem g_166_15 : GO x d 166 Q 15 [v0, v1] (.inl b :: .inl a :: st) I J = GO x d 166 Q 16 [v0, v1] (.inl (a + b) :: st) I J := ge (A := (8, 16, 0, 0, 0)) rfl
set_option maxRecDepth 10000 in
theorem h_166_16 : GO x d 166 Q 16 [v0, v1] (.inl a :: .inr (.inr (.inr q)) :: st) I J = (q < 4 ∧ 0 ≤ a ∧ a < (roA x q).1 ∧ GO x d 166 Q 17 [v0, v1] (.inl ((roA x q).2 a.toNat) :: st) I J) := ge (A := (44, 17, 0, 0, 0)) rfl
set_option maxRecDepth 10000 in
theorem g_166_16 : GO x d 166 Q 16 [v0, v1] (.inl a :: .inr (.inr (.inl r)) :: st) I J = (okA r 20 ∧ 0 ≤ a ∧ a < lnN r ∧ GO x d 166 Q 17 [v0, v1] (.inl (I r a) :: st) I J) := ge (A := (44, 17, 0, 0, 0)) rfl
set_option maxRecDepth 10000 in
theorem g_166_17 : GO x d 166 Q 17 [v0, v1] st I J = GO x d 166 Q 22 [v0, v1] st I J := ge (A := (35, 20, 22, 0, 0)) rfl
set_option maxRecDepth 10000 in
theorem g_166_20 : GO x d 166 Q 20 [v0, v1] st I J = GO x d 166 Q 22 [v0, v1] (.inl (-1000001) :: st) I J := ge (A := (0, 22, 0, 0, -1000001)) rfl
set_option maxRecDepth 10000 in
theorem g_166_22 : GO x d 166 Q 22 [v0, v1] [.inl a] I J = Q (some (.inl a)) I J := ge (A := (55, 23, 0, 0, 0)) rfl
set_option maxRecDepth 10000 in
theorem e_166 : EX x (d + 1) 166 [.inr (.inr w0), .inl i0] I J Q = GO x d 166 Q 0 [some (.inr (.inr w0)), some (.inl i0)] [] I J := ex_eq (Nat.le_of_ble_eq_true rfl) rfl (Nat.le_of_ble_eq_true rfl) rfl
set_option maxRecDepth 10000 in
theorem g_167_0 : GO x d 167 Q 0 [some (.inr (.inr w)), v1, v2, v3, v4] st I J = GO x d 167 Q 1 [some (.inr (.inr w)), v1, v2, v3, v4] (.inr (.inr w) :: st) I J := ge (A := (2, 1, 0, 0, 0)) rfl
set_option maxRecDepth 10000 in
theorem g_167_1 : GO x d 167 Q 1 [v0, some (.inl a), v2, v3, v4] st I J = GO x d 167 Q 2 [v0, some (.inl a), v2, v3, v4] (.inl a :: st) I J := ge (A := (1, 2, 1, 0, 0)) rfl
set_option maxRecDepth 10000 in
theorem g_167_2 : GO x d 167 Q 2 [v0, v1, v2, v3, v4] [.inl i0, .inr (.inr (.inl r))] I J = (okO r 10 ∧ EX x d 111 [.inr (.inr (.inl r)), .inl i0] I J (fun r1 I1 J1 => GO x d 167 Q 5 [v0, v1, v2, v3, v4] (r1.toList ++ []) I1 J1)) := (ge (A := (53, 5, 111, 1, 0)) rfl).trans (gtrue (Nat.le_of_ble_eq_true rfl))
set_option maxRecDepth 10000 in
theorem g_167_5 : GO x d 167 Q 5 [v0, v1, v2, v3, v4] (.inl a :: st) I J = (inR a ∧ if a = 0 then GO x d 167 Q 17 [v0, v1, v2, v3, v4] st I J else GO x d 167 Q 8 [v0, v1, v2, v3, v4] st I J) := (ge (A := (33, 8, 17, 0, 0)) rfl).trans (gif (p := a = 0) inferInstance)
set_option maxRecDepth 10000 in
theorem g_167_8 : GO x d 167 Q 8 [v0, v1, some (.inl a), v3, v4] st I J = GO x d 167 Q 9 [v0, v1, some (.inl a), v3, v4] (.inl a :: st) I J := ge (A := (1, 9, 2, 0, 0)) rfl
set_option maxRecDepth 10000 in
theorem g_167_9 : GO x d 167 Q 9 [v0, v1, v2, v3, v4] st I J = GO x d 167 Q 10 [v0, v1, v2, v3, v4] (.inl (0) :: st) I J := ge (A := (0, 10, 0, 0, 0)) rfl
set_option maxRecDepth 10000 in
theorem g_167_10 : GO x d 167 Q 10 [v0, v1, v2, v3, v4] st I J = GO x d 167 Q 11 [v0, v1, v2, v3, v4] (.inl (5) :: st) I J := ge (A := (0, 11, 0, 0, 5)) rfl
set_option maxRecDepth 10000 in
theorem g_167_11 : GO x d 167 Q 11 [v0, v1, v2, v3, v4] [.inl i0, .inl i1, .inl i2] I J = EX x d 109 [.inl i2, .inl i1, .inl i0] I J (fun r1 I1 J1 => GO x d 167 Q 14 [v0, v1, v2, v3, v4] (r1.toList ++ []) I1 J1) := (ge (A := (52, 14, 109, 3, 0)) rfl).trans (gtrue2 (Nat.le_of_ble_eq_true rfl) (Nat.le_of_ble_eq_true rfl))
set_option maxRecDepth 10000 in
theorem g_167_14 : GO x d 167 Q 14 [v0, v1, v2, v3, v4] (.inl a :: st) I J = (inR a ∧ if a = 0 then GO x d 167 Q 17 [v0, v1, v2, v3, v4] st I J else GO x d 167 Q 20 [v0, v1, v2, v3, v4] st I J) := (ge (A := (33, 17, 20, 1, 0)) rfl).trans (gifn (p := a = 0) inferInstance)
set_option maxRecDepth 10000 in
theorem g_167_17 : GO x d 167 Q 17 [v0, v1, v2, v3, v4] st I J = GO x d 167 Q 19 [v0, v1, v2, v3, v4] (.inl (-1000001) :: st) I J := ge (A := (0, 19, 0, 0, -1000001)) rfl
set_option maxRecDepth 10000 in
theorem g_167_19 : GO x d 167 Q 19 [v0, v1, v2, v3, v4] [.inl a] I J = Q (some (.inl a)) I J := ge (A := (55, 20, 0, 0, 0)) rfl
set_option maxRecDepth 10000 in
theorem g_167_20 : GO x d 167 Q 20 [some (.inr (.inr w)), v1, v2, v3, v4] st I J = GO x d 167 Q 21 [some (.inr (.inr w)), v1, v2, v3, v4] (.inr (.inr w) :: st) I J := ge (A := (2, 21, 0, 0, 0)) rfl
set_option maxRecDepth 10000 in
theorem g_167_21 : GO x d 167 Q 21 [v0, v1, v2, v3, v4] (.inr (.inr (.inl r)) :: st) I J = (okF r 10 2 ∧ GO x d 167 Q 24 [v0, v1, v2, v3, v4] (.inr (.inr (.inl (rfN r 2))) :: st) I J) := (ge (A := (39, 24, 10, 2, 0)) rfl).trans (gref (f := fun q => GO x d 167 Q 24 [v0, v1, v2, v3, v4] (.inr (.inr (.inl q)) :: st) I J))
set_option maxRecDepth 10000 in
theorem g_167_24 : GO x d 167 Q 24 [v0, v1, v2, v3, v4] st I J = GO x d 167 Q 26 [v0, v1, v2, v3, v4] (.inl (8) :: st) I J := ge (A := (0, 26, 0, 0, 8)) rfl
set_option maxRecDepth 10000 in
theorem g_167_26 : GO x d 167 Q 26 [v0, some (.inl a), v2, v3, v4] st I J = GO x d 167 Q 27 [v0, some (.inl a), v2, v3, v4] (.inl a :: st) I J := ge (A := (1, 27, 1, 0, 0)) rfl
set_option maxRecDepth 10000 in
theorem g_167_27 : GO x d 167 Q 27 [v0, v1, v2, v3, v4] (.inl b :: .inl a :: st) I J = GO x d 167 Q 28 [v0, v1, v2, v3, v4] (.inl (a + b) :: st) I J := ge (A := (8, 28, 0, 0, 0)) rfl
set_option maxRecDepth 10000 in
theorem h_167_28 : GO x d 167 Q 28 [v0, v1, v2, v3, v4] (.inl a :: .inr (.inr (.inr q)) :: st) I J = (q < 4 ∧ 0 ≤ a ∧ a < (roA x q).1 ∧ GO x d 167 Q 29 [v0, v1, v2, v3, v4] (.inl ((roA x q).2 a.toNat) :: st) I J) := ge (A := (44, 29, 0, 0, 0)) rfl
set_option maxRecDepth 10000 in
theorem g_167_28 : GO x d 167 Q 28 [v0, v1, v2, v3, v4] (.inl a :: .inr (.inr (.inl r)) :: st) I J = (okA r 20 ∧ 0 ≤ a ∧ a < lnN r ∧ GO x d 167 Q 29 [v0, v1, v2, v3, v4] (.inl (I r a) :: st) I J) := ge (A := (44, 29, 0, 0, 0)) rfl
set_option maxRecDepth 10000 in
theorem g_167_29 : GO x d 167 Q 29 [v0, v1, v2, v3, v4] (.inl a :: st) I J = (nlO (some v2) = true ∧ GO x d 167 Q 30 [v0, v1, v2, some (.inl a), v4] st I J) := (ge (A := (4, 30, 3, 0, 0)) rfl).trans (gst (Nat.le_of_ble_eq_true rfl) _)
set_option maxRecDepth 10000 in
theorem g_167_30 : GO x d 167 Q 30 [v0, v1, some (.inl a), v3, v4] st I J = GO x d 167 Q 31 [v0, v1, some (.inl a), v3, v4] (.inl a :: st) I J := ge (A := (1, 31, 2, 0, 0)) rfl
set_option maxRecDepth 10000 in
theorem g_167_31 : GO x d 167 Q 31 [v0, v1, v2, v3, v4] (.inl a :: st) I J = (inR a ∧ if a = 0 then GO x d 167 Q 59 [v0, v1, v2, v3, v4] st I J else GO x d 167 Q 34 [v0, v1, v2, v3, v4] st I J) := (ge (A := (33, 34, 59, 0, 0)) rfl).trans (gif (p := a = 0) inferInstance)
set_option maxRecDepth 10000 in
theorem g_167_34 : GO x d 167 Q 34 [v0, v1, some (.inl a), v3, v4] st I J = GO x d 167 Q 35 [v0, v1, some (.inl a), v3, v4] (.inl a :: st) I J := ge (A := (1, 35, 2, 0, 0)) rfl
set_option maxRecDepth 10000 in
theorem g_167_35 : GO x d 167 Q 35 [v0, v1, v2, some (.inl a), v4] st I J = GO x d 167 Q 36 [v0, v1, v2, some (.inl a), v4] (.inl a :: st) I J := ge (A := (1, 36, 3, 0, 0)) rfl
set_option maxRecDepth 10000 in
theorem g_167_36 : GO x d 167 Q 36 [v0, v1, v2, v3, v4] (.inl b :: .inl a :: st) I J = (inR a ∧ inR b ∧ if a = b then GO x d 167 Q 59 [v0, v1, v2, v3, v4] st I J else GO x d 167 Q 39 [v0, v1, v2, v3, v4] st I J) := (ge (A := (34, 39, 59, 0, 0)) rfl).trans (gic (p := a = b) inferInstance)
set_option maxRecDepth 10000 in
theorem g_167_39 : GO x d 167 Q 39 [v0, v1, some (.inl a), v3, v4] st I J = GO x d 167 Q 40 [v0, v1, some (.inl a), v3, v4] (.inl a :: st) I J := ge (A := (1, 40, 2, 0, 0)) rfl
set_option maxRecDepth 10000 in
theorem g_167_40 : GO x d 167 Q 40 [v0, v1, v2, v3, v4] st I J = GO x d 167 Q 41 [v0, v1, v2, v3, v4] (.inl (1) :: st) I J := ge (A := (0, 41, 0, 0, 1)) rfl
set_option maxRecDepth 10000 in
theorem g_167_41 : GO x d 167 Q 41 [v0, v1, v2, v3, v4] (.inl b :: .inl a :: st) I J = (inR a ∧ inR b ∧ if a = b then GO x d 167 Q 44 [v0, v1, v2, v3, v4] st I J else GO x d 167 Q 49 [v0, v1, v2, v3, v4] st I J) := (ge (A := (34, 44, 49, 1, 0)) rfl).trans (gicn (p := a = b) inferInstance)
set_option maxRecDepth 10000 in
theorem g_167_44 : GO x d 167 Q 44 [v0, v1, v2, some (.inl a), v4] st I J = GO x d 167 Q 45 [v0, v1, v2, some (.inl a), v4] (.inl a :: st) I J := ge (A := (1, 45, 3, 0, 0)) rfl
set_option maxRecDepth 10000 in
theorem g_167_45 : GO x d 167 Q 45 [v0, v1, v2, v3, v4] st I J = GO x d 167 Q 46 [v0, v1, v2, v3, v4] (.inl (4) :: st) I J := ge (A := (0, 46, 0, 0, 4)) rfl
set_option maxRecDepth 10000 in
theorem g_167_46 : GO x d 167 Q 46 [v0, v1, v2, v3, v4] (.inl b :: .inl a :: st) I J = (inR a ∧ inR b ∧ if a < b then GO x d 167 Q 59 [v0, v1, v2, v3, v4] st I J else GO x d 167 Q 49 [v0, v1, v2, v3, v4] st I J) := (ge (A := (34, 49, 59, 2, 0)) rfl).trans (gic (p := a < b) inferInstance)
set_option maxRecDepth 10000 in
theorem g_167_49 : GO x d 167 Q 49 [v0, v1, some (.inl a), v3, v4] st I J = GO x d 167 Q 50 [v0, v1, some (.inl a), v3, v4] (.inl a :: st) I J := ge (A := (1, 50, 2, 0, 0)) rfl
set_option maxRecDepth 10000 in
theorem g_167_50 : GO x d 167 Q 50 [v0, v1, v2, v3, v4] st I J = GO x d 167 Q 51 [v0, v1, v2, v3, v4] (.inl (4) :: st) I J := ge (A := (0, 51, 0, 0, 4)) rfl
set_option maxRecDepth 10000 in
theorem g_167_51 : GO x d 167 Q 51 [v0, v1, v2, v3, v4] (.inl b :: .inl a :: st) I J = (inR a ∧ inR b ∧ if a = b then GO x d 167 Q 54 [v0, v1, v2, v3, v4] st I J else GO x d 167 Q 63 [v0, v1, v2, v3, v4] st I J) := (ge (A := (34, 54, 63, 1, 0)) rfl).trans (gicn (p := a = b) inferInstance)
set_option maxRecDepth 10000 in
theorem g_167_54 : GO x d 167 Q 54 [v0, v1, v2, some (.inl a), v4] st I J = GO x d 167 Q 55 [v0, v1, v2, some (.inl a), v4] (.inl a :: st) I J := ge (A := (1, 55, 3, 0, 0)) rfl
set_option maxRecDepth 10000 in
theorem g_167_55 : GO x d 167 Q 55 [v0, v1, v2, v3, v4] st I J = GO x d 167 Q 56 [v0, v1, v2, v3, v4] (.inl (5) :: st) I J := ge (A := (0, 56, 0, 0, 5)) rfl
set_option maxRecDepth 10000 in
theorem g_167_56 : GO x d 167 Q 56 [v0, v1, v2, v3, v4] (.inl b :: .inl a :: st) I J = (inR a ∧ inR b ∧ if a = b then GO x d 167 Q 59 [v0, v1, v2, v3, v4] st I J else GO x d 167 Q 63 [v0, v1, v2, v3, v4] st I J) := (ge (A := (34, 59, 63, 1, 0)) rfl).trans (gicn (p := a = b) inferInstance)
set_option maxRecDepth 10000 in
theorem g_167_59 : GO x d 167 Q 59 [v0, v1, v2, v3, v4] st I J = GO x d 167 Q 60 [v0, v1, v2, v3, v4] (.inl (1) :: st) I J := ge (A := (0, 60, 0, 0, 1)) rfl
set_option maxRecDepth 10000 in
theorem g_167_60 : GO x d 167 Q 60 [v0, v1, v2, v3, v4] st I J = GO x d 167 Q 64 [v0, v1, v2, v3, v4] st I J := ge (A := (35, 63, 64, 0, 0)) rfl
set_option maxRecDepth 10000 in
theorem g_167_63 : GO x d 167 Q 63 [v0, v1, v2, v3, v4] st I J = GO x d 167 Q 64 [v0, v1, v2, v3, v4] (.inl (0) :: st) I J := ge (A := (0, 64, 0, 0, 0)) rfl
set_option maxRecDepth 10000 in
theorem g_167_64 : GO x d 167 Q 64 [v0, v1, v2, v3, v4] (.inl a :: st) I J = (nlO (some v3) = true ∧ GO x d 167 Q 66 [v0, v1, v2, v3, some (.inl a)] st I J) := (ge (A := (4, 66, 4, 0, 0)) rfl).trans (gst (Nat.le_of_ble_eq_true rfl) _)
set_option maxRecDepth 10000 in
theorem g_167_66 : GO x d 167 Q 66 [v0, v1, v2, v3, some (.inl a)] st I J = GO x d 167 Q 68 [v0, v1, v2, v3, some (.inl a)] (.inl a :: st) I J := ge (A := (1, 68, 4, 0, 0)) rfl
set_option maxRecDepth 10000 in
theorem g_167_68 : GO x d 167 Q 68 [v0, v1, v2, v3, v4] (.inl a :: st) I J = (inR a ∧ if a = 0 then GO x d 167 Q 71 [v0, v1, v2, v3, v4] st I J else GO x d 167 Q 77 [v0, v1, v2, v3, v4] st I J) := (ge (A := (33, 71, 77, 1, 0)) rfl).trans (gifn (p := a = 0) inferInstance)
set_option maxRecDepth 10000 in
theorem g_167_71 : GO x d 167 Q 71 [some (.inr (.inr w)), v1, v2, v3, v4] st I J = GO x d 167 Q 72 [some (.inr (.inr w)), v1, v2, v3, v4] (.inr (.inr w) :: st) I J := ge (A := (2, 72, 0, 0, 0)) rfl
set_option maxRecDepth 10000 in
theorem g_167_72 : GO x d 167 Q 72 [v0, v1, v2, v3, v4] st I J = GO x d 167 Q 73 [v0, v1, v2, v3, v4] (.inl (3) :: st) I J := ge (A := (0, 73, 0, 0, 3)) rfl
set_option maxRecDepth 10000 in
theorem g_167_73 : GO x d 167 Q 73 [v0, v1, v2, v3, v4] [.inl i0, .inr (.inr (.inl r))] I J = (okO r 10 ∧ EX x d 114 [.inr (.inr (.inl r)), .inl i0] I J (fun r1 I1 J1 => GO x d 167 Q 76 [v0, v1, v2, v3, v4] (r1.toList ++ []) I1 J1)) := (ge (A := (53, 76, 114, 1, 0)) rfl).trans (gtrue (Nat.le_of_ble_eq_true rfl))
set_option maxRecDepth 10000 in
theorem g_167_76 : GO x d 167 Q 76 [v0, v1, v2, v3, v4] [.inl a] I J = Q (some (.inl a)) I J := ge (A := (55, 77, 0, 0, 0)) rfl
set_option maxRecDepth 10000 in
theorem g_167_77 : GO x d 167 Q 77 [some (.inr (.inr w)), v1, v2, v3, v4] st I J = GO x d 167 Q 78 [some (.inr (.inr w)), v1, v2, v3, v4] (.inr (.inr w) :: st) I J := ge (A := (2, 78, 0, 0, 0)) rfl
set_option maxRecDepth 10000 in
theorem g_167_78 : GO x d 167 Q 78 [v0, v1, v2, v3, v4] st I J = GO x d 167 Q 79 [v0, v1, v2, v3, v4] (.inl (0) :: st) I J := ge (A := (0, 79, 0, 0, 0)) rfl
set_option maxRecDepth 10000 in
theorem g_167_79 : GO x d 167 Q 79 [v0, v1, v2, v3, v4] (.inl a :: .inr (.inr (.inl r)) :: st) I J = (okO r 10 ∧ GO x d 167 Q 82 [v0, v1, v2, v3, v4] st (up I r 13 a) J) := ge (A := (40, 82, 10, 13, 0)) rfl
set_option maxRecDepth 10000 in
theorem g_167_82 : GO x d 167 Q 82 [v0, some (.inl a), v2, v3, v4] st I J = GO x d 167 Q 83 [v0, some (.inl a), v2, v3, v4] (.inl a :: st) I J := ge (A := (1, 83, 1, 0, 0)) rfl
set_option maxRecDepth 10000 in
theorem g_167_83 : GO x d 167 Q 83 [v0, v1, v2, v3, v4] [.inl a] I J = Q (some (.inl a)) I J := ge (A := (55, 84, 0, 0, 0)) rfl
set_option maxRecDepth 10000 in
theorem e_167 : EX x (d + 1) 167 [.inr (.inr w0), .inl i0, .inl i1] I J Q = GO x d 167 Q 0 [some (.inr (.inr w0)), some (.inl i0), some (.inl i1), none, none] [] I J := ex_eq (Nat.le_of_ble_eq_true rfl) rfl (Nat.le_of_ble_eq_true rfl) rfl
set_option maxRecDepth 10000 in
theorem g_168_0 : GO x d 168 Q 0 [some (.inr (.inr w)), v1] st I J = GO x d 168 Q 1 [some (.inr (.inr w)), v1] (.inr (.inr w) :: st) I J := ge (A := (2, 1, 0, 0, 0)) rfl
set_option maxRecDepth 10000 in
theorem g_168_1 : GO x d 168 Q 1 [v0, v1] (.inr (.inr (.inl r)) :: st) I J = (okO r 10 ∧ GO x d 168 Q 4 [v0, v1] (.inl (I r 12) :: st) I J) := ge (A := (37, 4, 10, 12, 0)) rfl
set_option maxRecDepth 10000 in
theorem g_168_4 : GO x d 168 Q 4 [v0, v1] st I J = GO x d 168 Q 6 [v0, v1] (.inl (16) :: st) I J := ge (A := (0, 6, 0, 0, 16)) rfl
set_option maxRecDepth 10000 in
theorem g_168_6 : GO x d 168 Q 6 [v0, v1] (.inl b :: .inl a :: st) I J = (inR a ∧ inR b ∧ if a < b then GO x d 168 Q 9 [v0, v1] st I J else GO x d 168 Q 29 [v0, v1] st I J) := (ge (A := (34, 9, 29, 3, 0)) rfl).trans (ggec)
set_option maxRecDepth 10000 in
theorem g_168_9 : GO x d 168 Q 9 [some (.inr (.inr w)), v1] st I J = GO x d 168 Q 10 [some (.inr (.inr w)), v1] (.inr (.inr w) :: st) I J := ge (A := (2, 10, 0, 0, 0)) rfl
set_option maxRecDepth 10000 in
theorem g_168_10 : GO x d 168 Q 10 [v0, v1] (.inr (.inr (.inl r)) :: st) I J = (okF r 10 11 ∧ GO x d 168 Q 13 [v0, v1] (.inr (.inr (.inl (rfN r 11))) :: st) I J) := (ge (A := (39, 13, 10, 11, 0)) rfl).trans (gref (f := fun q => GO x d 168 Q 13 [v0, v1] (.inr (.inr (.inl q)) :: st) I J))
set_option maxRecDepth 10000 in
theorem g_168_13 : GO x d 168 Q 13 [some (.inr (.inr w)), v1] st I J = GO x d 168 Q 14 [some (.inr (.inr w)), v1] (.inr (.inr w) :: st) I J := ge (A := (2, 14, 0, 0, 0)) rfl
set_option maxRecDepth 10000 in
theorem g_168_14 : GO x d 168 Q 14 [v0, v1] (.inr (.inr (.inl r)) :: st) I J = (okO r 10 ∧ GO x d 168 Q 17 [v0, v1] (.inl (I r 12) :: st) I J) := ge (A := (37, 17, 10, 12, 0)) rfl
set_option maxRecDepth 10000 in
theorem g_168_17 : GO x d 168 Q 17 [v0, some (.inl a)] st I J = GO x d 168 Q 18 [v0, some (.inl a)] (.inl a :: st) I J := ge (A := (1, 18, 1, 0, 0)) rfl
set_option maxRecDepth 10000 in
theorem g_168_18 : GO x d 168 Q 18 [v0, v1] (.inl b :: .inl a :: .inr (.inr (.inl r)) :: st) I J = (okA r 20 ∧ 0 ≤ a ∧ a < lnN r ∧ GO x d 168 Q 19 [v0, v1] st (up I r a b) J) := ge (A := (45, 19, 0, 0, 0)) rfl
set_option maxRecDepth 10000 in
theorem g_168_19 : GO x d 168 Q 19 [some (.inr (.inr w)), v1] st I J = GO x d 168 Q 20 [some (.inr (.inr w)), v1] (.inr (.inr w) :: st) I J := ge (A := (2, 20, 0, 0, 0)) rfl
set_option maxRecDepth 10000 in
theorem g_168_20 : GO x d 168 Q 20 [v0, v1] (.inr (.inr w) :: st) I J = GO x d 168 Q 21 [v0, v1] (.inr (.inr w) :: .inr (.inr w) :: st) I J := ge (A := (31, 21, 0, 0, 0)) rfl
set_option maxRecDepth 10000 in
theorem g_168_21 : GO x d 168 Q 21 [v0, v1] (.inr (.inr (.inl r)) :: st) I J = (okO r 10 ∧ GO x d 168 Q 24 [v0, v1] (.inl (I r 12) :: st) I J) := ge (A := (37, 24, 10, 12, 0)) rfl
set_option maxRecDepth 10000 in
theorem g_168_24 : GO x d 168 Q 24 [v0, v1] st I J = GO x d 168 Q 25 [v0, v1] (.inl (1) :: st) I J := ge (A := (0, 25, 0, 0, 1)) rfl
set_option maxRecDepth 10000 in
theorem g_168_25 : GO x d 168 Q 25 [v0, v1] (.inl b :: .inl a :: st) I J = GO x d 168 Q 26 [v0, v1] (.inl (a + b) :: st) I J := ge (A := (8, 26, 0, 0, 0)) rfl
set_option maxRecDepth 10000 in
theorem g_168_26 : GO x d 168 Q 26 [v0, v1] (.inl a :: .inr (.inr (.inl r)) :: st) I J = (okO r 10 ∧ GO x d 168 Q 29 [v0, v1] st (up I r 12 a) J) := ge (A := (40, 29, 10, 12, 0)) rfl
set_option maxRecDepth 10000 in
theorem g_168_29 : GO x d 168 Q 29 [v0, v1] [] I J = Q none I J := ge (A := (57, 30, 0, 0, 0)) rfl
set_option maxRecDepth 10000 in
theorem e_168 : EX x (d + 1) 168 [.inr (.inr w0), .inl i0] I J Q = GO x d 168 Q 0 [some (.inr (.inr w0)), some (.inl i0)] [] I J := ex_eq (Nat.le_of_ble_eq_true rfl) rfl (Nat.le_of_ble_eq_true rfl) rfl
set_option maxRecDepth 10000 in
theorem g_169_0 : GO x d 169 Q 0 [some (.inr (.inr w)), v1] st I J = GO x d 169 Q 1 [some (.inr (.inr w)), v1] (.inr (.inr w) :: st) I J := ge (A := (2, 1, 0, 0, 0)) rfl
set_option maxRecDepth 10000 in
theorem g_169_1 : GO x d 169 Q 1 [v0, v1] st I J = GO x d 169 Q 3 [v0, v1] (.inl (10) :: st) I J := ge (A := (0, 3, 0, 0, 10)) rfl
set_option maxRecDepth 10000 in
theorem g_169_3 : GO x d 169 Q 3 [v0, v1] [.inl i0, .inr (.inr (.inl r))] I J = (okO r 10 ∧ EX x d 168 [.inr (.inr (.inl r)), .inl i0] I J (fun r1 I1 J1 => GO x d 169 Q 6 [v0, v1] (r1.toList ++ []) I1 J1)) := (ge (A := (53, 6, 168, 1, 0)) rfl).trans (gtrue (Nat.le_of_ble_eq_true rfl))
set_option maxRecDepth 10000 in
theorem g_169_6 : GO x d 169 Q 6 [some (.inr (.inr w)), v1] st I J = GO x d 169 Q 7 [some (.inr (.inr w)), v1] (.inr (.inr w) :: st) I J := ge (A := (2, 7, 0, 0, 0)) rfl
set_option maxRecDepth 10000 in
theorem g_169_7 : GO x d 169 Q 7 [v0, v1] (.inr (.inr (.inl r)) :: st) I J = (okF r 10 2 ∧ GO x d 169 Q 10 [v0, v1] (.inr (.inr (.inl (rfN r 2))) :: st) I J) := (ge (A := (39, 10, 10, 2, 0)) rfl).trans (gref (f := fun q => GO x d 169 Q 10 [v0, v1] (.inr (.inr (.inl q)) :: st) I J))
set_option maxRecDepth 10000 in
theorem g_169_10 : GO x d 169 Q 10 [v0, v1] st I J = GO x d 169 Q 12 [v0, v1] (.inl (40) :: st) I J := ge (A := (0, 12, 0, 0, 40)) rfl
set_option maxRecDepth 10000 in
theorem g_169_12 : GO x d 169 Q 12 [v0, some (.inl a)] st I J = GO x d 169 Q 13 [v0, some (.inl a)] (.inl a :: st) I J := ge (A := (1, 13, 1, 0, 0)) rfl
set_option maxRecDepth 10000 in
theorem g_169_13 : GO x d 169 Q 13 [v0, v1] (.inl b :: .inl a :: st) I J = GO x d 169 Q 14 [v0, v1] (.inl (a + b) :: st) I J := ge (A := (8, 14, 0, 0, 0)) rfl
set_option maxRecDepth 10000 in
theorem h_169_14 : GO x d 169 Q 14 [v0, v1] (.inl a :: .inr (.inr (.inr q)) :: st) I J = (q < 4 ∧ 0 ≤ a ∧ a < (roA x q).1 ∧ GO x d 169 Q 15 [v0, v1] (.inl ((roA x q).2 a.toNat) :: st) I J) := ge (A := (44, 15, 0, 0, 0)) rfl
set_option maxRecDepth 10000 in
theorem g_169_14 : GO x d 169 Q 14 [v0, v1] (.inl a :: .inr (.inr (.inl r)) :: st) I J = (okA r 20 ∧ 0 ≤ a ∧ a < lnN r ∧ GO x d 169 Q 15 [v0, v1] (.inl (I r a) :: st) I J) := ge (A := (44, 15, 0, 0, 0)) rfl
set_option maxRecDepth 10000 in
theorem g_169_15 : GO x d 169 Q 15 [v0, v1] [.inl a] I J = Q (some (.inl a)) I J := ge (A := (55, 16, 0, 0, 0)) rfl
set_option maxRecDepth 10000 in
theorem e_169 : EX x (d + 1) 169 [.inr (.inr w0), .inl i0] I J Q = GO x d 169 Q 0 [some (.inr (.inr w0)), some (.inl i0)] [] I J := ex_eq (Nat.le_of_ble_eq_true rfl) rfl (Nat.le_of_ble_eq_true rfl) rfl
set_option maxRecDepth 10000 in
theorem g_170_0 : GO x d 170 Q 0 [some (.inr (.inr w)), v1] st I J = GO x d 170 Q 1 [some (.inr (.inr w)), v1] (.inr (.inr w) :: st) I J := ge (A := (2, 1, 0, 0, 0)) rfl
set_option maxRecDepth 10000 in
theorem g_170_1 : GO x d 170 Q 1 [v0, v1] st I J = GO x d 170 Q 3 [v0, v1] (.inl (20) :: st) I J := ge (A := (0, 3, 0, 0, 20)) rfl
set_option maxRecDepth 10000 in
theorem g_170_3 : GO x d 170 Q 3 [v0, v1] [.inl i0, .inr (.inr (.inl r))] I J = (okO r 10 ∧ EX x d 168 [.inr (.inr (.inl r)), .inl i0] I J (fun r1 I1 J1 => GO x d 170 Q 6 [v0, v1] (r1.toList ++ []) I1 J1)) := (ge (A := (53, 6, 168, 1, 0)) rfl).trans (gtrue (Nat.le_of_ble_eq_true rfl))
set_option maxRecDepth 10000 in
theorem g_170_6 : GO x d 170 Q 6 [v0, some (.inl a)] st I J = GO x d 170 Q 7 [v0, some (.inl a)] (.inl a :: st) I J := ge (A := (1, 7, 1, 0, 0)) rfl
set_option maxRecDepth 10000 in
theorem g_170_7 : GO x d 170 Q 7 [v0, v1] [.inl a] I J = Q (some (.inl a)) I J := ge (A := (55, 8, 0, 0, 0)) rfl
set_option maxRecDepth 10000 in
theorem e_170 : EX x (d + 1) 170 [.inr (.inr w0), .inl i0] I J Q = GO x d 170 Q 0 [some (.inr (.inr w0)), some (.inl i0)] [] I J := ex_eq (Nat.le_of_ble_eq_true rfl) rfl (Nat.le_of_ble_eq_true rfl) rfl
set_option maxRecDepth 10000 in
theorem g_171_0 : GO x d 171 Q 0 [some (.inr (.inr w)), v1] st I J = GO x d 171 Q 1 [some (.inr (.inr w)), v1] (.inr (.inr w) :: st) I J := ge (A := (2, 1, 0, 0, 0)) rfl
set_option maxRecDepth 10000 in
theorem g_171_1 : GO x d 171 Q 1 [v0, v1] st I J = GO x d 171 Q 3 [v0, v1] (.inl (21) :: st) I J := ge (A := (0, 3, 0, 0, 21)) rfl
set_option maxRecDepth 10000 in
theorem g_171_3 : GO x d 171 Q 3 [v0, v1] [.inl i0, .inr (.inr (.inl r))] I J = (okO r 10 ∧ EX x d 168 [.inr (.inr (.inl r)), .inl i0] I J (fun r1 I1 J1 => GO x d 171 Q 6 [v0, v1] (r1.toList ++ []) I1 J1)) := (ge (A := (53, 6, 168, 1, 0)) rfl).trans (gtrue (Nat.le_of_ble_eq_true rfl))
set_option maxRecDepth 10000 in
theorem g_171_6 : GO x d 171 Q 6 [some (.inr (.inr w)), v1] st I J = GO x d 171 Q 7 [some (.inr (.inr w)), v1] (.inr (.inr w) :: st) I J := ge (A := (2, 7, 0, 0, 0)) rfl
set_option maxRecDepth 10000 in
theorem g_171_7 : GO x d 171 Q 7 [v0, some (.inl a)] st I J = GO x d 171 Q 8 [v0, some (.inl a)] (.inl a :: st) I J := ge (A := (1, 8, 1, 0, 0)) rfl
set_option maxRecDepth 10000 in
theorem g_171_8 : GO x d 171 Q 8 [v0, v1] [.inl i0, .inr (.inr (.inl r))] I J = (okO r 10 ∧ EX x d 170 [.inr (.inr (.inl r)), .inl i0] I J (fun r1 I1 J1 => GO x d 171 Q 11 [v0, v1] (r1.toList ++ []) I1 J1)) := (ge (A := (53, 11, 170, 1, 0)) rfl).trans (gtrue (Nat.le_of_ble_eq_true rfl))
set_option maxRecDepth 10000 in
theorem g_171_11 : GO x d 171 Q 11 [some (.inr (.inr w)), v1] st I J = GO x d 171 Q 12 [some (.inr (.inr w)), v1] (.inr (.inr w) :: st) I J := ge (A := (2, 12, 0, 0, 0)) rfl
set_option maxRecDepth 10000 in
theorem g_171_12 : GO x d 171 Q 12 [v0, v1] (.inr (.inr (.inl r)) :: st) I J = (okF r 10 2 ∧ GO x d 171 Q 15 [v0, v1] (.inr (.inr (.inl (rfN r 2))) :: st) I J) := (ge (A := (39, 15, 10, 2, 0)) rfl).trans (gref (f := fun q => GO x d 171 Q 15 [v0, v1] (.inr (.inr (.inl q)) :: st) I J))
set_option maxRecDepth 10000 in
theorem g_171_15 : GO x d 171 Q 15 [v0, v1] st I J = GO x d 171 Q 17 [v0, v1] (.inl (16) :: st) I J := ge (A := (0, 17, 0, 0, 16)) rfl
set_option maxRecDepth 10000 in
theorem g_171_17 : GO x d 171 Q 17 [v0, some (.inl a)] st I J = GO x d 171 Q 18 [v0, some (.inl a)] (.inl a :: st) I J := ge (A := (1, 18, 1, 0, 0)) rfl
set_option maxRecDepth 10000 in
theorem g_171_18 : GO x d 171 Q 18 [v0, v1] (.inl b :: .inl a :: st) I J = GO x d 171 Q 19 [v0, v1] (.inl (a + b) :: st) I J := ge (A := (8, 19, 0, 0, 0)) rfl
set_option maxRecDepth 10000 in
theorem h_171_19 : GO x d 171 Q 19 [v0, v1] (.inl a :: .inr (.inr (.inr q)) :: st) I J = (q < 4 ∧ 0 ≤ a ∧ a < (roA x q).1 ∧ GO x d 171 Q 20 [v0, v1] (.inl ((roA x q).2 a.toNat) :: st) I J) := ge (A := (44, 20, 0, 0, 0)) rfl
set_option maxRecDepth 10000 in
theorem g_171_19 : GO x d 171 Q 19 [v0, v1] (.inl a :: .inr (.inr (.inl r)) :: st) I J = (okA r 20 ∧ 0 ≤ a ∧ a < lnN r ∧ GO x d 171 Q 20 [v0, v1] (.inl (I r a) :: st) I J) := ge (A := (44, 20, 0, 0, 0)) rfl
set_option maxRecDepth 10000 in
theorem g_171_20 : GO x d 171 Q 20 [v0, v1] (.inl b :: .inl a :: st) I J = GO x d 171 Q 21 [v0, v1] (.inl (a + b) :: st) I J := ge (A := (8, 21, 0, 0, 0)) rfl
set_option maxRecDepth 10000 in
theorem g_171_21 : GO x d 171 Q 21 [v0, v1] [.inl a] I J = Q (some (.inl a)) I J := ge (A := (55, 22, 0, 0, 0)) rfl
set_option maxRecDepth 10000 in
theorem e_171 : EX x (d + 1) 171 [.inr (.inr w0), .inl i0] I J Q = GO x d 171 Q 0 [some (.inr (.inr w0)), some (.inl i0)] [] I J := ex_eq (Nat.le_of_ble_eq_true rfl) rfl (Nat.le_of_ble_eq_true rfl) rfl
set_option maxRecDepth 10000 in
theorem g_172_0 : GO x d 172 Q 0 [some (.inr (.inr w)), v1] st I J = GO x d 172 Q 1 [some (.inr (.inr w)), v1] (.inr (.inr w) :: st) I J := ge (A := (2, 1, 0, 0, 0)) rfl
set_option maxRecDepth 10000 in
theorem g_172_1 : GO x d 172 Q 1 [v0, v1] st I J = GO x d 172 Q 3 [v0, v1] (.inl (13) :: st) I J := ge (A := (0, 3, 0, 0, 13)) rfl
set_option maxRecDepth 10000 in
theorem g_172_3 : GO x d 172 Q 3 [v0, v1] [.inl i0, .inr (.inr (.inl r))] I J = (okO r 10 ∧ EX x d 168 [.inr (.inr (.inl r)), .inl i0] I J (fun r1 I1 J1 => GO x d 172 Q 6 [v0, v1] (r1.toList ++ []) I1 J1)) := (ge (A := (53, 6, 168, 1, 0)) rfl).trans (gtrue (Nat.le_of_ble_eq_true rfl))
set_option maxRecDepth 10000 in
theorem g_172_6 : GO x d 172 Q 6 [some (.inr (.inr w)), v1] st I J = GO x d 172 Q 7 [some (.inr (.inr w)), v1] (.inr (.inr w) :: st) I J := ge (A := (2, 7, 0, 0, 0)) rfl
set_option maxRecDepth 10000 in
theorem g_172_7 : GO x d 172 Q 7 [v0, some (.inl a)] st I J = GO x d 172 Q 8 [v0, some (.inl a)] (.inl a :: st) I J := ge (A := (1, 8, 1, 0, 0)) rfl
set_option maxRecDepth 10000 in
theorem g_172_8 : GO x d 172 Q 8 [v0, v1] [.inl i0, .inr (.inr (.inl r))] I J = (okO r 10 ∧ EX x d 169 [.inr (.inr (.inl r)), .inl i0] I J (fun r1 I1 J1 => GO x d 172 Q 11 [v0, v1] (r1.toList ++ []) I1 J1)) := (ge (A := (53, 11, 169, 1, 0)) rfl).trans (gtrue (Nat.le_of_ble_eq_true rfl))
set_option maxRecDepth 10000 in
theorem g_172_11 : GO x d 172 Q 11 [v0, v1] st I J = GO x d 172 Q 13 [v0, v1] (.inl (100) :: st) I J := ge (A := (0, 13, 0, 0, 100)) rfl
set_option maxRecDepth 10000 in
theorem g_172_13 : GO x d 172 Q 13 [v0, v1] (.inl b :: .inl a :: st) I J = GO x d 172 Q 14 [v0, v1] (.inl (a - b) :: st) I J := ge (A := (9, 14, 0, 0, 0)) rfl
set_option maxRecDepth 10000 in
theorem g_172_14 : GO x d 172 Q 14 [v0, v1] [.inl a] I J = Q (some (.inl a)) I J := ge (A := (55, 15, 0, 0, 0)) rfl
set_option maxRecDepth 10000 in
theorem e_172 : EX x (d + 1) 172 [.inr (.inr w0), .inl i0] I J Q = GO x d 172 Q 0 [some (.inr (.inr w0)), some (.inl i0)] [] I J := ex_eq (Nat.le_of_ble_eq_true rfl) rfl (Nat.le_of_ble_eq_true rfl) rfl
set_option maxRecDepth 10000 in
theorem g_173_0 : GO x d 173 Q 0 [some (.inr (.inr w)), v1, v2] st I J = GO x d 173 Q 1 [some (.inr (.inr w)), v1, v2] (.inr (.inr w) :: st) I J := ge (A := (2, 1, 0, 0, 0)) rfl
set_option maxRecDepth 10000 in
theorem g_173_1 : GO x d 173 Q 1 [v0, v1, v2] (.inr (.inr (.inl r)) :: st) I J = (okF r 10 2 ∧ GO x d 173 Q 4 [v0, v1, v2] (.inr (.inr (.inl (rfN r 2))) :: st) I J) := (ge (A := (39, 4, 10, 2, 0)) rfl).trans (gref (f := fun q => GO x d 173 Q 4 [v0, v1, v2] (.inr (.inr (.inl q)) :: st) I J))
set_option maxRecDepth 10000 in
theorem g_173_4 : GO x d 173 Q 4 [v0, v1, v2] st I J = GO x d 173 Q 6 [v0, v1, v2] (.inl (8) :: st) I J := ge (A := (0, 6, 0, 0, 8)) rfl
set_option maxRecDepth 10000 in
theorem g_173_6 : GO x d 173 Q 6 [v0, some (.inl a), v2] st I J = GO x d 173 Q 7 [v0, some (.inl a), v2] (.inl a :: st) I J := ge (A := (1, 7, 1, 0, 0)) rfl
set_option maxRecDepth 10000 in
theorem g_173_7 : GO x d 173 Q 7 [v0, v1, v2] (.inl b :: .inl a :: st) I J = GO x d 173 Q 8 [v0, v1, v2] (.inl (a + b) :: st) I J := ge (A := (8, 8, 0, 0, 0)) rfl
set_option maxRecDepth 10000 in
theorem h_173_8 : GO x d 173 Q 8 [v0, v1, v2] (.inl a :: .inr (.inr (.inr q)) :: st) I J = (q < 4 ∧ 0 ≤ a ∧ a < (roA x q).1 ∧ GO x d 173 Q 9 [v0, v1, v2] (.inl ((roA x q).2 a.toNat) :: st) I J) := ge (A := (44, 9, 0, 0, 0)) rfl
set_option maxRecDepth 10000 in
theorem g_173_8 : GO x d 173 Q 8 [v0, v1, v2] (.inl a :: .inr (.inr (.inl r)) :: st) I J = (okA r 20 ∧ 0 ≤ a ∧ a < lnN r ∧ GO x d 173 Q 9 [v0, v1, v2] (.inl (I r a) :: st) I J) := ge (A := (44, 9, 0, 0, 0)) rfl
set_option maxRecDepth 10000 in
theorem g_173_9 : GO x d 173 Q 9 [v0, v1, v2] (.inl a :: st) I J = (nlO (some v1) = true ∧ GO x d 173 Q 10 [v0, v1, some (.inl a)] st I J) := (ge (A := (4, 10, 2, 0, 0)) rfl).trans (gst (Nat.le_of_ble_eq_true rfl) _)
set_option maxRecDepth 10000 in
theorem g_173_10 : GO x d 173 Q 10 [v0, v1, some (.inl a)] st I J = GO x d 173 Q 11 [v0, v1, some (.inl a)] (.inl a :: st) I J := ge (A := (1, 11, 2, 0, 0)) rfl
set_option maxRecDepth 10000 in
theorem g_173_11 : GO x d 173 Q 11 [v0, v1, v2] st I J = GO x d 173 Q 12 [v0, v1, v2] (.inl (2) :: st) I J := ge (A := (0, 12, 0, 0, 2)) rfl
set_option maxRecDepth 10000 in
theorem g_173_12 : GO x d 173 Q 12 [v0, v1, v2] (.inl b :: .inl a :: st) I J = (inR a ∧ inR b ∧ if a = b then GO x d 173 Q 15 [v0, v1, v2] st I J else GO x d 173 Q 29 [v0, v1, v2] st I J) := (ge (A := (34, 15, 29, 1, 0)) rfl).trans (gicn (p := a = b) inferInstance)
set_option maxRecDepth 10000 in
theorem g_173_15 : GO x d 173 Q 15 [some (.inr (.inr w)), v1, v2] st I J = GO x d 173 Q 16 [some (.inr (.inr w)), v1, v2] (.inr (.inr w) :: st) I J := ge (A := (2, 16, 0, 0, 0)) rfl
set_option maxRecDepth 10000 in
theorem g_173_16 : GO x d 173 Q 16 [v0, v1, v2] st I J = GO x d 173 Q 18 [v0, v1, v2] (.inl (24) :: st) I J := ge (A := (0, 18, 0, 0, 24)) rfl
set_option maxRecDepth 10000 in
theorem g_173_18 : GO x d 173 Q 18 [v0, v1, v2] [.inl i0, .inr (.inr (.inl r))] I J = (okO r 10 ∧ EX x d 168 [.inr (.inr (.inl r)), .inl i0] I J (fun r1 I1 J1 => GO x d 173 Q 21 [v0, v1, v2] (r1.toList ++ []) I1 J1)) := (ge (A := (53, 21, 168, 1, 0)) rfl).trans (gtrue (Nat.le_of_ble_eq_true rfl))
set_option maxRecDepth 10000 in
theorem g_173_21 : GO x d 173 Q 21 [v0, v1, v2] st I J = GO x d 173 Q 22 [v0, v1, v2] (.inl (2) :: st) I J := ge (A := (0, 22, 0, 0, 2)) rfl
set_option maxRecDepth 10000 in
theorem g_173_22 : GO x d 173 Q 22 [some (.inr (.inr w)), v1, v2] st I J = GO x d 173 Q 23 [some (.inr (.inr w)), v1, v2] (.inr (.inr w) :: st) I J := ge (A := (2, 23, 0, 0, 0)) rfl
set_option maxRecDepth 10000 in
theorem g_173_23 : GO x d 173 Q 23 [v0, some (.inl a), v2] st I J = GO x d 173 Q 24 [v0, some (.inl a), v2] (.inl a :: st) I J := ge (A := (1, 24, 1, 0, 0)) rfl
set_option maxRecDepth 10000 in
theorem g_173_24 : GO x d 173 Q 24 [v0, v1, v2] [.inl i0, .inr (.inr (.inl r)), .inl i1] I J = (okO r 10 ∧ EX x d 171 [.inr (.inr (.inl r)), .inl i0] I J (fun r1 I1 J1 => GO x d 173 Q 27 [v0, v1, v2] (r1.toList ++ [.inl i1]) I1 J1)) := (ge (A := (53, 27, 171, 1, 0)) rfl).trans (gtrue (Nat.le_of_ble_eq_true rfl))
set_option maxRecDepth 10000 in
theorem g_173_27 : GO x d 173 Q 27 [v0, v1, v2] (.inl b :: .inl a :: st) I J = GO x d 173 Q 28 [v0, v1, v2] (.inl (a * b) :: st) I J := ge (A := (10, 28, 0, 0, 0)) rfl
set_option maxRecDepth 10000 in
theorem g_173_28 : GO x d 173 Q 28 [v0, v1, v2] [.inl a] I J = Q (some (.inl a)) I J := ge (A := (55, 29, 0, 0, 0)) rfl
set_option maxRecDepth 10000 in
theorem g_173_29 : GO x d 173 Q 29 [v0, v1, some (.inl a)] st I J = GO x d 173 Q 30 [v0, v1, some (.inl a)] (.inl a :: st) I J := ge (A := (1, 30, 2, 0, 0)) rfl
set_option maxRecDepth 10000 in
theorem g_173_30 : GO x d 173 Q 30 [v0, v1, v2] st I J = GO x d 173 Q 31 [v0, v1, v2] (.inl (3) :: st) I J := ge (A := (0, 31, 0, 0, 3)) rfl
set_option maxRecDepth 10000 in
theorem g_173_31 : GO x d 173 Q 31 [v0, v1, v2] (.inl b :: .inl a :: st) I J = (inR a ∧ inR b ∧ if a = b then GO x d 173 Q 34 [v0, v1, v2] st I J else GO x d 173 Q 50 [v0, v1, v2] st I J) := (ge (A := (34, 34, 50, 1, 0)) rfl).trans (gicn (p := a = b) inferInstance)
set_option maxRecDepth 10000 in
theorem g_173_34 : GO x d 173 Q 34 [some (.inr (.inr w)), v1, v2] st I J = GO x d 173 Q 35 [some (.inr (.inr w)), v1, v2] (.inr (.inr w) :: st) I J := ge (A := (2, 35, 0, 0, 0)) rfl
set_option maxRecDepth 10000 in
theorem g_173_35 : GO x d 173 Q 35 [v0, v1, v2] st I J = GO x d 173 Q 37 [v0, v1, v2] (.inl (22) :: st) I J := ge (A := (0, 37, 0, 0, 22)) rfl
set_option maxRecDepth 10000 in
theorem g_173_37 : GO x d 173 Q 37 [v0, v1, v2] [.inl i0, .inr (.inr (.inl r))] I J = (okO r 10 ∧ EX x d 168 [.inr (.inr (.inl r)), .inl i0] I J (fun r1 I1 J1 => GO x d 173 Q 40 [v0, v1, v2] (r1.toList ++ []) I1 J1)) := (ge (A := (53, 40, 168, 1, 0)) rfl).trans (gtrue (Nat.le_of_ble_eq_true rfl))
set_option maxRecDepth 10000 in
theorem g_173_40 : GO x d 173 Q 40 [some (.inr (.inr w)), v1, v2] st I J = GO x d 173 Q 41 [some (.inr (.inr w)), v1, v2] (.inr (.inr w) :: st) I J := ge (A := (2, 41, 0, 0, 0)) rfl
set_option maxRecDepth 10000 in
theorem g_173_41 : GO x d 173 Q 41 [v0, some (.inl a), v2] st I J = GO x d 173 Q 42 [v0, some (.inl a), v2] (.inl a :: st) I J := ge (A := (1, 42, 1, 0, 0)) rfl
set_option maxRecDepth 10000 in
theorem g_173_42 : GO x d 173 Q 42 [v0, v1, v2] [.inl i0, .inr (.inr (.inl r))] I J = (okO r 10 ∧ EX x d 171 [.inr (.inr (.inl r)), .inl i0] I J (fun r1 I1 J1 => GO x d 173 Q 45 [v0, v1, v2] (r1.toList ++ []) I1 J1)) := (ge (A := (53, 45, 171, 1, 0)) rfl).trans (gtrue (Nat.le_of_ble_eq_true rfl))
set_option maxRecDepth 10000 in
theorem g_173_45 : GO x d 173 Q 45 [v0, v1, v2] st I J = GO x d 173 Q 48 [v0, v1, v2] (.inl (1000) :: st) I J := ge (A := (0, 48, 0, 0, 1000)) rfl
set_option maxRecDepth 10000 in
theorem g_173_48 : GO x d 173 Q 48 [v0, v1, v2] (.inl b :: .inl a :: st) I J = GO x d 173 Q 49 [v0, v1, v2] (.inl (a - b) :: st) I J := ge (A := (9, 49, 0, 0, 0)) rfl
set_option maxRecDepth 10000 in
theorem g_173_49 : GO x d 173 Q 49 [v0, v1, v2] [.inl a] I J = Q (some (.inl a)) I J := ge (A := (55, 50, 0, 0, 0)) rfl
set_option maxRecDepth 10000 in
theorem g_173_50 : GO x d 173 Q 50 [some (.inr (.inr w)), v1, v2] st I J = GO x d 173 Q 51 [some (.inr (.inr w)), v1, v2] (.inr (.inr w) :: st) I J := ge (A := (2, 51, 0, 0, 0)) rfl
set_option maxRecDepth 10000 in
theorem g_173_51 : GO x d 173 Q 51 [v0, some (.inl a), v2] st I J = GO x d 173 Q 52 [v0, some (.inl a), v2] (.inl a :: st) I J := ge (A := (1, 52, 1, 0, 0)) rfl
set_option maxRecDepth 10000 in
theorem g_173_52 : GO x d 173 Q 52 [v0, v1, v2] [.inl i0, .inr (.inr (.inl r))] I J = (okO r 10 ∧ EX x d 171 [.inr (.inr (.inl r)), .inl i0] I J (fun r1 I1 J1 => GO x d 173 Q 55 [v0, v1, v2] (r1.toList ++ []) I1 J1)) := (ge (A := (53, 55, 171, 1, 0)) rfl).trans (gtrue (Nat.le_of_ble_eq_true rfl))
set_option maxRecDepth 10000 in
theorem g_173_55 : GO x d 173 Q 55 [v0, v1, v2] [.inl a] I J = Q (some (.inl a)) I J := ge (A := (55, 56, 0, 0, 0)) rfl
set_option maxRecDepth 10000 in
theorem e_173 : EX x (d + 1) 173 [.inr (.inr w0), .inl i0] I J Q = GO x d 173 Q 0 [some (.inr (.inr w0)), some (.inl i0), none] [] I J := ex_eq (Nat.le_of_ble_eq_true rfl) rfl (Nat.le_of_ble_eq_true rfl) rfl
set_option maxRecDepth 10000 in
theorem g_174_0 : GO x d 174 Q 0 [some (.inr (.inr w)), v1, v2] st I J = GO x d 174 Q 1 [some (.inr (.inr w)), v1, v2] (.inr (.inr w) :: st) I J := ge (A := (2, 1, 0, 0, 0)) rfl
set_option maxRecDepth 10000 in
theorem g_174_1 : GO x d 174 Q 1 [v0, v1, v2] st I J = GO x d 174 Q 3 [v0, v1, v2] (.inl (11) :: st) I J := ge (A := (0, 3, 0, 0, 11)) rfl
set_option maxRecDepth 10000 in
theorem g_174_3 : GO x d 174 Q 3 [v0, v1, v2] [.inl i0, .inr (.inr (.inl r))] I J = (okO r 10 ∧ EX x d 168 [.inr (.inr (.inl r)), .inl i0] I J (fun r1 I1 J1 => GO x d 174 Q 6 [v0, v1, v2] (r1.toList ++ []) I1 J1)) := (ge (A := (53, 6, 168, 1, 0)) rfl).trans (gtrue (Nat.le_of_ble_eq_true rfl))
set_option maxRecDepth 10000 in
theorem g_174_6 : GO x d 174 Q 6 [some (.inr (.inr w)), v1, v2] st I J = GO x d 174 Q 7 [some (.inr (.inr w)), v1, v2] (.inr (.inr w) :: st) I J := ge (A := (2, 7, 0, 0, 0)) rfl
set_option maxRecDepth 10000 in
theorem g_174_7 : GO x d 174 Q 7 [v0, some (.inl a), v2] st I J = GO x d 174 Q 8 [v0, some (.inl a), v2] (.inl a :: st) I J := ge (A := (1, 8, 1, 0, 0)) rfl
set_option maxRecDepth 10000 in
theorem g_174_8 : GO x d 174 Q 8 [v0, v1, v2] [.inl i0, .inr (.inr (.inl r))] I J = (okO r 10 ∧ EX x d 169 [.inr (.inr (.inl r)), .inl i0] I J (fun r1 I1 J1 => GO x d 174 Q 11 [v0, v1, v2] (r1.toList ++ []) I1 J1)) := (ge (A := (53, 11, 169, 1, 0)) rfl).trans (gtrue (Nat.le_of_ble_eq_true rfl))
set_option maxRecDepth 10000 in
theorem g_174_11 : GO x d 174 Q 11 [v0, v1, v2] (.inl a :: st) I J = (nlO (some v1) = true ∧ GO x d 174 Q 12 [v0, v1, some (.inl a)] st I J) := (ge (A := (4, 12, 2, 0, 0)) rfl).trans (gst (Nat.le_of_ble_eq_true rfl) _)
set_option maxRecDepth 10000 in
theorem g_174_12 : GO x d 174 Q 12 [v0, v1, some (.inl a)] st I J = GO x d 174 Q 13 [v0, v1, some (.inl a)] (.inl a :: st) I J := ge (A := (1, 13, 2, 0, 0)) rfl
set_option maxRecDepth 10000 in
theorem g_174_13 : GO x d 174 Q 13 [some (.inr (.inr w)), v1, v2] st I J = GO x d 174 Q 14 [some (.inr (.inr w)), v1, v2] (.inr (.inr w) :: st) I J := ge (A := (2, 14, 0, 0, 0)) rfl
set_option maxRecDepth 10000 in
theorem g_174_14 : GO x d 174 Q 14 [v0, some (.inl a), v2] st I J = GO x d 174 Q 15 [v0, some (.inl a), v2] (.inl a :: st) I J := ge (A := (1, 15, 1, 0, 0)) rfl
set_option maxRecDepth 10000 in
theorem g_174_15 : GO x d 174 Q 15 [v0, v1, v2] [.inl i0, .inr (.inr (.inl r)), .inl i1] I J = (okO r 10 ∧ EX x d 173 [.inr (.inr (.inl r)), .inl i0] I J (fun r1 I1 J1 => GO x d 174 Q 18 [v0, v1, v2] (r1.toList ++ [.inl i1]) I1 J1)) := (ge (A := (53, 18, 173, 1, 0)) rfl).trans (gtrue (Nat.le_of_ble_eq_true rfl))
set_option maxRecDepth 10000 in
theorem g_174_18 : GO x d 174 Q 18 [v0, v1, v2] (.inl b :: .inl a :: st) I J = GO x d 174 Q 19 [v0, v1, v2] (.inl (a + b) :: st) I J := ge (A := (8, 19, 0, 0, 0)) rfl
set_option maxRecDepth 10000 in
theorem g_174_19 : GO x d 174 Q 19 [v0, v1, v2] [.inl a] I J = Q (some (.inl a)) I J := ge (A := (55, 20, 0, 0, 0)) rfl
set_option maxRecDepth 10000 in
theorem e_174 : EX x (d + 1) 174 [.inr (.inr w0), .inl i0] I J Q = GO x d 174 Q 0 [some (.inr (.inr w0)), some (.inl i0), none] [] I J := ex_eq (Nat.le_of_ble_eq_true rfl) rfl (Nat.le_of_ble_eq_true rfl) rfl
set_option maxRecDepth 10000 in
theorem g_175_0 : GO x d 175 Q 0 [some (.inr (.inr w)), v1] st I J = GO x d 175 Q 1 [some (.inr (.inr w)), v1] (.inr (.inr w) :: st) I J := ge (A := (2, 1, 0, 0, 0)) rfl
set_option maxRecDepth 10000 in
theorem g_175_1 : GO x d 175 Q 1 [v0, v1] (.inr (.inr (.inl r)) :: st) I J = (okF r 10 2 ∧ GO x d 175 Q 4 [v0, v1] (.inr (.inr (.inl (rfN r 2))) :: st) I J) := (ge (A := (39, 4, 10, 2, 0)) rfl).trans (gref (f := fun q => GO x d 175 Q 4 [v0, v1] (.inr (.inr (.inl q)) :: st) I J))
set_option maxRecDepth 10000 in
theorem g_175_4 : GO x d 175 Q 4 [v0, v1] st I J = GO x d 175 Q 6 [v0, v1] (.inl (8) :: st) I J := ge (A := (0, 6, 0, 0, 8)) rfl
set_option maxRecDepth 10000 in
theorem g_175_6 : GO x d 175 Q 6 [v0, some (.inl a)] st I J = GO x d 175 Q 7 [v0, some (.inl a)] (.inl a :: st) I J := ge (A := (1, 7, 1, 0, 0)) rfl
set_option maxRecDepth 10000 in
theorem g_175_7 : GO x d 175 Q 7 [v0, v1] (.inl b :: .inl a :: st) I J = GO x d 175 Q 8 [v0, v1] (.inl (a + b) :: st) I J := ge (A := (8, 8, 0, 0, 0)) rfl
set_option maxRecDepth 10000 in
theorem h_175_8 : GO x d 175 Q 8 [v0, v1] (.inl a :: .inr (.inr (.inr q)) :: st) I J = (q < 4 ∧ 0 ≤ a ∧ a < (roA x q).1 ∧ GO x d 175 Q 9 [v0, v1] (.inl ((roA x q).2 a.toNat) :: st) I J) := ge (A := (44, 9, 0, 0, 0)) rfl
set_option maxRecDepth 10000 in
theorem g_175_8 : GO x d 175 Q 8 [v0, v1] (.inl a :: .inr (.inr (.inl r)) :: st) I J = (okA r 20 ∧ 0 ≤ a ∧ a < lnN r ∧ GO x d 175 Q 9 [v0, v1] (.inl (I r a) :: st) I J) := ge (A := (44, 9, 0, 0, 0)) rfl
set_option maxRecDepth 10000 in
theorem g_175_9 : GO x d 175 Q 9 [v0, v1] st I J = GO x d 175 Q 10 [v0, v1] (.inl (5) :: st) I J := ge (A := (0, 10, 0, 0, 5)) rfl
set_option maxRecDepth 10000 in
theorem g_175_10 : GO x d 175 Q 10 [v0, v1] (.inl b :: .inl a :: st) I J = (inR a ∧ inR b ∧ if a = b then GO x d 175 Q 13 [v0, v1] st I J else GO x d 175 Q 27 [v0, v1] st I J) := (ge (A := (34, 13, 27, 1, 0)) rfl).trans (gicn (p := a = b) inferInstance)
set_option maxRecDepth 10000 in
theorem g_175_13 : GO x d 175 Q 13 [some (.inr (.inr w)), v1] st I J = GO x d 175 Q 14 [some (.inr (.inr w)), v1] (.inr (.inr w) :: st) I J := ge (A := (2, 14, 0, 0, 0)) rfl
set_option maxRecDepth 10000 in
theorem g_175_14 : GO x d 175 Q 14 [v0, v1] st I J = GO x d 175 Q 16 [v0, v1] (.inl (14) :: st) I J := ge (A := (0, 16, 0, 0, 14)) rfl
set_option maxRecDepth 10000 in
theorem g_175_16 : GO x d 175 Q 16 [v0, v1] [.inl i0, .inr (.inr (.inl r))] I J = (okO r 10 ∧ EX x d 168 [.inr (.inr (.inl r)), .inl i0] I J (fun r1 I1 J1 => GO x d 175 Q 19 [v0, v1] (r1.toList ++ []) I1 J1)) := (ge (A := (53, 19, 168, 1, 0)) rfl).trans (gtrue (Nat.le_of_ble_eq_true rfl))
set_option maxRecDepth 10000 in
theorem g_175_19 : GO x d 175 Q 19 [v0, v1] st I J = GO x d 175 Q 20 [v0, v1] (.inl (2) :: st) I J := ge (A := (0, 20, 0, 0, 2)) rfl
set_option maxRecDepth 10000 in
theorem g_175_20 : GO x d 175 Q 20 [some (.inr (.inr w)), v1] st I J = GO x d 175 Q 21 [some (.inr (.inr w)), v1] (.inr (.inr w) :: st) I J := ge (A := (2, 21, 0, 0, 0)) rfl
set_option maxRecDepth 10000 in
theorem g_175_21 : GO x d 175 Q 21 [v0, some (.inl a)] st I J = GO x d 175 Q 22 [v0, some (.inl a)] (.inl a :: st) I J := ge (A := (1, 22, 1, 0, 0)) rfl
set_option maxRecDepth 10000 in
theorem g_175_22 : GO x d 175 Q 22 [v0, v1] [.inl i0, .inr (.inr (.inl r)), .inl i1] I J = (okO r 10 ∧ EX x d 172 [.inr (.inr (.inl r)), .inl i0] I J (fun r1 I1 J1 => GO x d 175 Q 25 [v0, v1] (r1.toList ++ [.inl i1]) I1 J1)) := (ge (A := (53, 25, 172, 1, 0)) rfl).trans (gtrue (Nat.le_of_ble_eq_true rfl))
set_option maxRecDepth 10000 in
theorem g_175_25 : GO x d 175 Q 25 [v0, v1] (.inl b :: .inl a :: st) I J = GO x d 175 Q 26 [v0, v1] (.inl (a * b) :: st) I J := ge (A := (10, 26, 0, 0, 0)) rfl
set_option maxRecDepth 10000 in
theorem g_175_26 : GO x d 175 Q 26 [v0, v1] [.inl a] I J = Q (some (.inl a)) I J := ge (A := (55, 27, 0, 0, 0)) rfl
set_option maxRecDepth 10000 in
theorem g_175_27 : GO x d 175 Q 27 [some (.inr (.inr w)), v1] st I J = GO x d 175 Q 28 [some (.inr (.inr w)), v1] (.inr (.inr w) :: st) I J := ge (A := (2, 28, 0, 0, 0)) rfl
set_option maxRecDepth 10000 in
theorem g_175_28 : GO x d 175 Q 28 [v0, some (.inl a)] st I J = GO x d 175 Q 29 [v0, some (.inl a)] (.inl a :: st) I J := ge (A := (1, 29, 1, 0, 0)) rfl
set_option maxRecDepth 10000 in
theorem g_175_29 : GO x d 175 Q 29 [v0, v1] [.inl i0, .inr (.inr (.inl r))] I J = (okO r 10 ∧ EX x d 172 [.inr (.inr (.inl r)), .inl i0] I J (fun r1 I1 J1 => GO x d 175 Q 32 [v0, v1] (r1.toList ++ []) I1 J1)) := (ge (A := (53, 32, 172, 1, 0)) rfl).trans (gtrue (Nat.le_of_ble_eq_true rfl))
set_option maxRecDepth 10000 in
theorem g_175_32 : GO x d 175 Q 32 [v0, v1] [.inl a] I J = Q (some (.inl a)) I J := ge (A := (55, 33, 0, 0, 0)) rfl
set_option maxRecDepth 10000 in
theorem e_175 : EX x (d + 1) 175 [.inr (.inr w0), .inl i0] I J Q = GO x d 175 Q 0 [some (.inr (.inr w0)), some (.inl i0)] [] I J := ex_eq (Nat.le_of_ble_eq_true rfl) rfl (Nat.le_of_ble_eq_true rfl) rfl
end
