section
variable {x : RO} {d : Nat} {Q : QT} {I : MI} {J : MJ} {v0 v1 v2 v3 v4 v5 v6 v7 v8 v9 v10 v11 v12 : Option AV} {st : List AV} {a b e : Int} {r q : Nat} {w w2 : Nat ⊕ Nat} {y z : Int64}
variable {i0 i1 i2 i3 i4 i5 i6 i7 i8 i9 : Int} {w0 w1 w3 w4 w5 w6 w7 w8 w9 : Nat ⊕ Nat} {l0 l1 l2 l3 l4 : Int64}
set_option maxRecDepth 10000 in
theorem g_58_0 : GO x d 58 Q 0 [v0, v1, v2, v3, v4] st I J = GO x d 58 Q 1 [v0, v1, v2, v3, v4] (.inl (0) :: st) I J := ge (A := (0, 1, 0, 0, 0)) rfl
set_option maxRecDepth 10000 in
theorem g_58_1 : GO x d 58 Q 1 [v0, v1, v2, v3, v4] (.inl a :: st) I J = (nlO (some v1) = true ∧ GO x d 58 Q 2 [v0, v1, some (.inl a), v3, v4] st I J) := (ge (A := (4, 2, 2, 0, 0)) rfl).trans (gst (Nat.le_of_ble_eq_true rfl) _)
set_option maxRecDepth 10000 in
theorem g_58_2 : GO x d 58 Q 2 [v0, v1, some (.inl a), v3, v4] st I J = GO x d 58 Q 3 [v0, v1, some (.inl a), v3, v4] (.inl a :: st) I J := ge (A := (1, 3, 2, 0, 0)) rfl
set_option maxRecDepth 10000 in
theorem g_58_3 : GO x d 58 Q 3 [v0, v1, v2, v3, v4] st I J = GO x d 58 Q 5 [v0, v1, v2, v3, v4] (.inl (8) :: st) I J := ge (A := (0, 5, 0, 0, 8)) rfl
set_option maxRecDepth 10000 in
theorem g_58_5 : GO x d 58 Q 5 [v0, v1, v2, v3, v4] (.inl b :: .inl a :: st) I J = (inR a ∧ inR b ∧ if b < a then GO x d 58 Q 77 [v0, v1, v2, v3, v4] st I J else GO x d 58 Q 8 [v0, v1, v2, v3, v4] st I J) := (ge (A := (34, 8, 77, 4, 0)) rfl).trans (gic (p := b < a) inferInstance)
set_option maxRecDepth 10000 in
theorem g_58_8 : GO x d 58 Q 8 [some (.inr (.inr w)), v1, v2, v3, v4] st I J = GO x d 58 Q 9 [some (.inr (.inr w)), v1, v2, v3, v4] (.inr (.inr w) :: st) I J := ge (A := (2, 9, 0, 0, 0)) rfl
set_option maxRecDepth 10000 in
theorem g_58_9 : GO x d 58 Q 9 [v0, v1, v2, v3, v4] (.inr (.inr (.inl r)) :: st) I J = (okO r 7 ∧ GO x d 58 Q 12 [v0, v1, v2, v3, v4] (.inl (I r 2) :: st) I J) := ge (A := (37, 12, 7, 2, 0)) rfl
set_option maxRecDepth 10000 in
theorem g_58_12 : GO x d 58 Q 12 [v0, v1, v2, v3, v4] (.inl a :: st) I J = (inR a ∧ if a = 0 then GO x d 58 Q 77 [v0, v1, v2, v3, v4] st I J else GO x d 58 Q 15 [v0, v1, v2, v3, v4] st I J) := (ge (A := (33, 15, 77, 0, 0)) rfl).trans (gif (p := a = 0) inferInstance)
set_option maxRecDepth 10000 in
theorem g_58_15 : GO x d 58 Q 15 [some (.inr (.inr w)), v1, v2, v3, v4] st I J = GO x d 58 Q 16 [some (.inr (.inr w)), v1, v2, v3, v4] (.inr (.inr w) :: st) I J := ge (A := (2, 16, 0, 0, 0)) rfl
set_option maxRecDepth 10000 in
theorem g_58_16 : GO x d 58 Q 16 [v0, v1, v2, v3, v4] [.inr (.inr (.inl r))] I J = (okO r 7 ∧ EX x d 62 [.inr (.inr (.inl r))] I J (fun r1 I1 J1 => GO x d 58 Q 19 [v0, v1, v2, v3, v4] (r1.toList ++ []) I1 J1)) := (ge (A := (53, 19, 62, 0, 0)) rfl).trans (gtrue (Nat.le_of_ble_eq_true rfl))
set_option maxRecDepth 10000 in
theorem g_58_19 : GO x d 58 Q 19 [v0, v1, v2, v3, v4] [.inl i0] I J = EX x d 65 [.inl i0] I J (fun r1 I1 J1 => GO x d 58 Q 22 [v0, v1, v2, v3, v4] (r1.toList ++ []) I1 J1) := (ge (A := (52, 22, 65, 1, 0)) rfl).trans (gtrue2 (Nat.le_of_ble_eq_true rfl) (Nat.le_of_ble_eq_true rfl))
set_option maxRecDepth 10000 in
theorem g_58_22 : GO x d 58 Q 22 [v0, v1, v2, v3, v4] (.inl a :: st) I J = (nlO (some v2) = true ∧ GO x d 58 Q 23 [v0, v1, v2, some (.inl a), v4] st I J) := (ge (A := (4, 23, 3, 0, 0)) rfl).trans (gst (Nat.le_of_ble_eq_true rfl) _)
set_option maxRecDepth 10000 in
theorem g_58_23 : GO x d 58 Q 23 [v0, v1, v2, some (.inl a), v4] st I J = GO x d 58 Q 24 [v0, v1, v2, some (.inl a), v4] (.inl a :: st) I J := ge (A := (1, 24, 3, 0, 0)) rfl
set_option maxRecDepth 10000 in
theorem g_58_24 : GO x d 58 Q 24 [v0, v1, v2, v3, v4] (.inl a :: st) I J = (inR a ∧ if a = 0 then GO x d 58 Q 27 [v0, v1, v2, v3, v4] st I J else GO x d 58 Q 28 [v0, v1, v2, v3, v4] st I J) := (ge (A := (33, 27, 28, 1, 0)) rfl).trans (gifn (p := a = 0) inferInstance)
set_option maxRecDepth 10000 in
theorem g_58_27 : GO x d 58 Q 27 [v0, v1, v2, v3, v4] [] I J = Q none I J := ge (A := (57, 28, 0, 0, 0)) rfl
set_option maxRecDepth 10000 in
theorem g_58_28 : GO x d 58 Q 28 [v0, v1, some (.inl a), v3, v4] st I J = GO x d 58 Q 29 [v0, v1, some (.inl a), v3, v4] (.inl a :: st) I J := ge (A := (1, 29, 2, 0, 0)) rfl
set_option maxRecDepth 10000 in
theorem g_58_29 : GO x d 58 Q 29 [v0, v1, v2, v3, v4] st I J = GO x d 58 Q 31 [v0, v1, v2, v3, v4] (.inl (8) :: st) I J := ge (A := (0, 31, 0, 0, 8)) rfl
set_option maxRecDepth 10000 in
theorem g_58_31 : GO x d 58 Q 31 [v0, v1, v2, v3, v4] (.inl b :: .inl a :: st) I J = (inR a ∧ inR b ∧ if a = b then GO x d 58 Q 34 [v0, v1, v2, v3, v4] st I J else GO x d 58 Q 40 [v0, v1, v2, v3, v4] st I J) := (ge (A := (34, 34, 40, 1, 0)) rfl).trans (gicn (p := a = b) inferInstance)
set_option maxRecDepth 10000 in
theorem g_58_34 : GO x d 58 Q 34 [some (.inr (.inr w)), v1, v2, v3, v4] st I J = GO x d 58 Q 35 [some (.inr (.inr w)), v1, v2, v3, v4] (.inr (.inr w) :: st) I J := ge (A := (2, 35, 0, 0, 0)) rfl
set_option maxRecDepth 10000 in
theorem g_58_35 : GO x d 58 Q 35 [v0, v1, v2, v3, v4] st I J = GO x d 58 Q 36 [v0, v1, v2, v3, v4] (.inl (3) :: st) I J := ge (A := (0, 36, 0, 0, 3)) rfl
set_option maxRecDepth 10000 in
theorem g_58_36 : GO x d 58 Q 36 [v0, v1, v2, v3, v4] [.inl i0, .inr (.inr (.inl r))] I J = (okO r 7 ∧ EX x d 63 [.inr (.inr (.inl r)), .inl i0] I J (fun r1 I1 J1 => GO x d 58 Q 39 [v0, v1, v2, v3, v4] (r1.toList ++ []) I1 J1)) := (ge (A := (53, 39, 63, 1, 0)) rfl).trans (gtrue (Nat.le_of_ble_eq_true rfl))
set_option maxRecDepth 10000 in
theorem g_58_39 : GO x d 58 Q 39 [v0, v1, v2, v3, v4] [] I J = Q none I J := ge (A := (57, 40, 0, 0, 0)) rfl
set_option maxRecDepth 10000 in
theorem g_58_40 : GO x d 58 Q 40 [some (.inr (.inr w)), v1, v2, v3, v4] st I J = GO x d 58 Q 41 [some (.inr (.inr w)), v1, v2, v3, v4] (.inr (.inr w) :: st) I J := ge (A := (2, 41, 0, 0, 0)) rfl
set_option maxRecDepth 10000 in
theorem g_58_41 : GO x d 58 Q 41 [v0, v1, v2, v3, v4] (.inr (.inr w) :: st) I J = GO x d 58 Q 42 [v0, v1, v2, v3, v4] (.inr (.inr w) :: .inr (.inr w) :: st) I J := ge (A := (31, 42, 0, 0, 0)) rfl
set_option maxRecDepth 10000 in
theorem g_58_42 : GO x d 58 Q 42 [v0, v1, v2, v3, v4] (.inr (.inr (.inl r)) :: st) I J = (okO r 7 ∧ GO x d 58 Q 45 [v0, v1, v2, v3, v4] (.inl (I r 1) :: st) I J) := ge (A := (37, 45, 7, 1, 0)) rfl
set_option maxRecDepth 10000 in
theorem g_58_45 : GO x d 58 Q 45 [v0, v1, v2, v3, v4] st I J = GO x d 58 Q 46 [v0, v1, v2, v3, v4] (.inl (1) :: st) I J := ge (A := (0, 46, 0, 0, 1)) rfl
set_option maxRecDepth 10000 in
theorem g_58_46 : GO x d 58 Q 46 [v0, v1, v2, v3, v4] (.inl b :: .inl a :: st) I J = GO x d 58 Q 47 [v0, v1, v2, v3, v4] (.inl (a + b) :: st) I J := ge (A := (8, 47, 0, 0, 0)) rfl
set_option maxRecDepth 10000 in
theorem g_58_47 : GO x d 58 Q 47 [v0, v1, v2, v3, v4] (.inl a :: .inr (.inr (.inl r)) :: st) I J = (okO r 7 ∧ GO x d 58 Q 50 [v0, v1, v2, v3, v4] st (up I r 1 a) J) := ge (A := (40, 50, 7, 1, 0)) rfl
set_option maxRecDepth 10000 in
theorem g_58_50 : GO x d 58 Q 50 [some (.inr (.inr w)), v1, v2, v3, v4] st I J = GO x d 58 Q 51 [some (.inr (.inr w)), v1, v2, v3, v4] (.inr (.inr w) :: st) I J := ge (A := (2, 51, 0, 0, 0)) rfl
set_option maxRecDepth 10000 in
theorem g_58_51 : GO x d 58 Q 51 [v0, v1, v2, v3, v4] st I J = GO x d 58 Q 52 [v0, v1, v2, v3, v4] (.inl (0) :: st) I J := ge (A := (0, 52, 0, 0, 0)) rfl
set_option maxRecDepth 10000 in
theorem g_58_52 : GO x d 58 Q 52 [v0, v1, v2, v3, v4] st I J = GO x d 58 Q 53 [v0, v1, v2, v3, v4] (.inl (3) :: st) I J := ge (A := (0, 53, 0, 0, 3)) rfl
set_option maxRecDepth 10000 in
theorem g_58_53 : GO x d 58 Q 53 [v0, v1, v2, v3, v4] [.inl i0, .inl i1, .inr (.inr (.inl r))] I J = (okO r 7 ∧ EX x d 61 [.inr (.inr (.inl r)), .inl i1, .inl i0] I J (fun r1 I1 J1 => GO x d 58 Q 56 [v0, v1, v2, v3, v4] (r1.toList ++ []) I1 J1)) := (ge (A := (53, 56, 61, 2, 0)) rfl).trans (gtrue (Nat.le_of_ble_eq_true rfl))
set_option maxRecDepth 10000 in
theorem g_58_56 : GO x d 58 Q 56 [v0, v1, v2, v3, v4] (.inl a :: st) I J = (nlO (some v3) = true ∧ GO x d 58 Q 58 [v0, v1, v2, v3, some (.inl a)] st I J) := (ge (A := (4, 58, 4, 0, 0)) rfl).trans (gst (Nat.le_of_ble_eq_true rfl) _)
set_option maxRecDepth 10000 in
theorem g_58_58 : GO x d 58 Q 58 [some (.inr (.inr w)), v1, v2, v3, v4] st I J = GO x d 58 Q 59 [some (.inr (.inr w)), v1, v2, v3, v4] (.inr (.inr w) :: st) I J := ge (A := (2, 59, 0, 0, 0)) rfl
set_option maxRecDepth 10000 in
theorem g_58_59 : GO x d 58 Q 59 [v0, v1, v2, v3, v4] st I J = GO x d 58 Q 61 [v0, v1, v2, v3, v4] (.inl (59) :: st) I J := ge (A := (0, 61, 0, 0, 59)) rfl
set_option maxRecDepth 10000 in
theorem g_58_61 : GO x d 58 Q 61 [v0, v1, v2, v3, v4] [.inl i0, .inr (.inr (.inl r))] I J = (okO r 7 ∧ EX x d 60 [.inr (.inr (.inl r)), .inl i0] I J (fun r1 I1 J1 => GO x d 58 Q 64 [v0, v1, v2, v3, v4] (r1.toList ++ []) I1 J1)) := (ge (A := (53, 64, 60, 1, 0)) rfl).trans (gtrue (Nat.le_of_ble_eq_true rfl))
set_option maxRecDepth 10000 in
theorem g_58_64 : GO x d 58 Q 64 [v0, some (.inr (.inr w)), v2, v3, v4] st I J = GO x d 58 Q 65 [v0, some (.inr (.inr w)), v2, v3, v4] (.inr (.inr w) :: st) I J := ge (A := (2, 65, 1, 0, 0)) rfl
set_option maxRecDepth 10000 in
theorem g_58_65 : GO x d 58 Q 65 [v0, v1, v2, some (.inl a), v4] st I J = GO x d 58 Q 66 [v0, v1, v2, some (.inl a), v4] (.inl a :: st) I J := ge (A := (1, 66, 3, 0, 0)) rfl
set_option maxRecDepth 10000 in
theorem g_58_66 : GO x d 58 Q 66 [v0, v1, v2, v3, some (.inl a)] st I J = GO x d 58 Q 68 [v0, v1, v2, v3, some (.inl a)] (.inl a :: st) I J := ge (A := (1, 68, 4, 0, 0)) rfl
set_option maxRecDepth 10000 in
theorem g_58_68 : GO x d 58 Q 68 [v0, v1, v2, v3, v4] [.inl i0, .inl i1, .inr (.inr (.inl r))] I J = (okO r 3 ∧ EX x d 13 [.inr (.inr (.inl r)), .inl i1, .inl i0] I J (fun r1 I1 J1 => GO x d 58 Q 71 [v0, v1, v2, v3, v4] (r1.toList ++ []) I1 J1)) := (ge (A := (53, 71, 13, 2, 0)) rfl).trans (gtrue (Nat.le_of_ble_eq_true rfl))
set_option maxRecDepth 10000 in
theorem g_58_71 : GO x d 58 Q 71 [v0, v1, some (.inl a), v3, v4] st I J = (nlO (some v1) = true ∧ GO x d 58 Q 74 [v0, v1, some (.inl (a + (1))), v3, v4] st I J) := ge (A := (7, 74, 2, 0, 1)) rfl
set_option maxRecDepth 10000 in
theorem g_58_74 : GO x d 58 Q 74 [v0, v1, v2, v3, v4] st I J = GO x d 58 Q 2 [v0, v1, v2, v3, v4] st I J := ge (A := (35, 77, 2, 0, 0)) rfl
set_option maxRecDepth 10000 in
theorem g_58_77 : GO x d 58 Q 77 [v0, v1, v2, v3, v4] [] I J = Q none I J := ge (A := (57, 78, 0, 0, 0)) rfl
set_option maxRecDepth 10000 in
theorem e_58 : EX x (d + 1) 58 [.inr (.inr w0), .inr (.inr w1)] I J Q = GO x d 58 Q 0 [some (.inr (.inr w0)), some (.inr (.inr w1)), none, none, none] [] I J := ex_eq (Nat.le_of_ble_eq_true rfl) rfl (Nat.le_of_ble_eq_true rfl) rfl
set_option maxRecDepth 10000 in
theorem g_59_0 : GO x d 59 Q 0 [v0, v1, v2, v3] st I J = GO x d 59 Q 1 [v0, v1, v2, v3] (.inl (0) :: st) I J := ge (A := (0, 1, 0, 0, 0)) rfl
set_option maxRecDepth 10000 in
theorem g_59_1 : GO x d 59 Q 1 [v0, v1, v2, v3] (.inl a :: st) I J = (nlO (some v1) = true ∧ GO x d 59 Q 2 [v0, v1, some (.inl a), v3] st I J) := (ge (A := (4, 2, 2, 0, 0)) rfl).trans (gst (Nat.le_of_ble_eq_true rfl) _)
set_option maxRecDepth 10000 in
theorem g_59_2 : GO x d 59 Q 2 [v0, v1, some (.inl a), v3] st I J = GO x d 59 Q 3 [v0, v1, some (.inl a), v3] (.inl a :: st) I J := ge (A := (1, 3, 2, 0, 0)) rfl
set_option maxRecDepth 10000 in
theorem g_59_3 : GO x d 59 Q 3 [v0, v1, v2, v3] st I J = GO x d 59 Q 4 [v0, v1, v2, v3] (.inl (5) :: st) I J := ge (A := (0, 4, 0, 0, 5)) rfl
set_option maxRecDepth 10000 in
theorem g_59_4 : GO x d 59 Q 4 [v0, v1, v2, v3] (.inl b :: .inl a :: st) I J = (inR a ∧ inR b ∧ if b < a then GO x d 59 Q 82 [v0, v1, v2, v3] st I J else GO x d 59 Q 7 [v0, v1, v2, v3] st I J) := (ge (A := (34, 7, 82, 4, 0)) rfl).trans (gic (p := b < a) inferInstance)
set_option maxRecDepth 10000 in
theorem g_59_7 : GO x d 59 Q 7 [some (.inr (.inr w)), v1, v2, v3] st I J = GO x d 59 Q 8 [some (.inr (.inr w)), v1, v2, v3] (.inr (.inr w) :: st) I J := ge (A := (2, 8, 0, 0, 0)) rfl
set_option maxRecDepth 10000 in
theorem g_59_8 : GO x d 59 Q 8 [v0, v1, v2, v3] (.inr (.inr (.inl r)) :: st) I J = (okO r 7 ∧ GO x d 59 Q 11 [v0, v1, v2, v3] (.inl (I r 2) :: st) I J) := ge (A := (37, 11, 7, 2, 0)) rfl
set_option maxRecDepth 10000 in
theorem g_59_11 : GO x d 59 Q 11 [v0, v1, v2, v3] (.inl a :: st) I J = (inR a ∧ if a = 0 then GO x d 59 Q 82 [v0, v1, v2, v3] st I J else GO x d 59 Q 14 [v0, v1, v2, v3] st I J) := (ge (A := (33, 14, 82, 0, 0)) rfl).trans (gif (p := a = 0) inferInstance)
set_option maxRecDepth 10000 in
theorem g_59_14 : GO x d 59 Q 14 [some (.inr (.inr w)), v1, v2, v3] st I J = GO x d 59 Q 15 [some (.inr (.inr w)), v1, v2, v3] (.inr (.inr w) :: st) I J := ge (A := (2, 15, 0, 0, 0)) rfl
set_option maxRecDepth 10000 in
theorem g_59_15 : GO x d 59 Q 15 [v0, v1, v2, v3] (.inr (.inr (.inl r)) :: st) I J = (okO r 7 ∧ GO x d 59 Q 18 [v0, v1, v2, v3] (.inl (I r 1) :: st) I J) := ge (A := (37, 18, 7, 1, 0)) rfl
set_option maxRecDepth 10000 in
theorem g_59_18 : GO x d 59 Q 18 [some (.inr (.inr w)), v1, v2, v3] st I J = GO x d 59 Q 19 [some (.inr (.inr w)), v1, v2, v3] (.inr (.inr w) :: st) I J := ge (A := (2, 19, 0, 0, 0)) rfl
set_option maxRecDepth 10000 in
theorem g_59_19 : GO x d 59 Q 19 [v0, v1, v2, v3] (.inr (.inr (.inl r)) :: st) I J = (okO r 7 ∧ GO x d 59 Q 22 [v0, v1, v2, v3] (.inl (I r 3) :: st) I J) := ge (A := (37, 22, 7, 3, 0)) rfl
set_option maxRecDepth 10000 in
theorem g_59_22 : GO x d 59 Q 22 [v0, v1, v2, v3] (.inl b :: .inl a :: st) I J = (inR a ∧ inR b ∧ if a < b then GO x d 59 Q 25 [v0, v1, v2, v3] st I J else GO x d 59 Q 82 [v0, v1, v2, v3] st I J) := (ge (A := (34, 25, 82, 3, 0)) rfl).trans (ggec)
set_option maxRecDepth 10000 in
theorem g_59_25 : GO x d 59 Q 25 [v0, v1, some (.inl a), v3] st I J = GO x d 59 Q 26 [v0, v1, some (.inl a), v3] (.inl a :: st) I J := ge (A := (1, 26, 2, 0, 0)) rfl
set_option maxRecDepth 10000 in
theorem g_59_26 : GO x d 59 Q 26 [v0, v1, v2, v3] st I J = GO x d 59 Q 27 [v0, v1, v2, v3] (.inl (5) :: st) I J := ge (A := (0, 27, 0, 0, 5)) rfl
set_option maxRecDepth 10000 in
theorem g_59_27 : GO x d 59 Q 27 [v0, v1, v2, v3] (.inl b :: .inl a :: st) I J = (inR a ∧ inR b ∧ if a = b then GO x d 59 Q 30 [v0, v1, v2, v3] st I J else GO x d 59 Q 45 [v0, v1, v2, v3] st I J) := (ge (A := (34, 30, 45, 1, 0)) rfl).trans (gicn (p := a = b) inferInstance)
set_option maxRecDepth 10000 in
theorem g_59_30 : GO x d 59 Q 30 [some (.inr (.inr w)), v1, v2, v3] st I J = GO x d 59 Q 31 [some (.inr (.inr w)), v1, v2, v3] (.inr (.inr w) :: st) I J := ge (A := (2, 31, 0, 0, 0)) rfl
set_option maxRecDepth 10000 in
theorem g_59_31 : GO x d 59 Q 31 [v0, v1, v2, v3] [.inr (.inr (.inl r))] I J = (okO r 7 ∧ EX x d 62 [.inr (.inr (.inl r))] I J (fun r1 I1 J1 => GO x d 59 Q 34 [v0, v1, v2, v3] (r1.toList ++ []) I1 J1)) := (ge (A := (53, 34, 62, 0, 0)) rfl).trans (gtrue (Nat.le_of_ble_eq_true rfl))
set_option maxRecDepth 10000 in
theorem g_59_34 : GO x d 59 Q 34 [v0, v1, v2, v3] st I J = GO x d 59 Q 36 [v0, v1, v2, v3] (.inl (116) :: st) I J := ge (A := (0, 36, 0, 0, 116)) rfl
set_option maxRecDepth 10000 in
theorem g_59_36 : GO x d 59 Q 36 [v0, v1, v2, v3] (.inl b :: .inl a :: st) I J = (inR a ∧ inR b ∧ if a = b then GO x d 59 Q 39 [v0, v1, v2, v3] st I J else GO x d 59 Q 45 [v0, v1, v2, v3] st I J) := (ge (A := (34, 39, 45, 1, 0)) rfl).trans (gicn (p := a = b) inferInstance)
set_option maxRecDepth 10000 in
theorem g_59_39 : GO x d 59 Q 39 [some (.inr (.inr w)), v1, v2, v3] st I J = GO x d 59 Q 40 [some (.inr (.inr w)), v1, v2, v3] (.inr (.inr w) :: st) I J := ge (A := (2, 40, 0, 0, 0)) rfl
set_option maxRecDepth 10000 in
theorem g_59_40 : GO x d 59 Q 40 [v0, v1, v2, v3] st I J = GO x d 59 Q 41 [v0, v1, v2, v3] (.inl (3) :: st) I J := ge (A := (0, 41, 0, 0, 3)) rfl
set_option maxRecDepth 10000 in
theorem g_59_41 : GO x d 59 Q 41 [v0, v1, v2, v3] [.inl i0, .inr (.inr (.inl r))] I J = (okO r 7 ∧ EX x d 63 [.inr (.inr (.inl r)), .inl i0] I J (fun r1 I1 J1 => GO x d 59 Q 44 [v0, v1, v2, v3] (r1.toList ++ []) I1 J1)) := (ge (A := (53, 44, 63, 1, 0)) rfl).trans (gtrue (Nat.le_of_ble_eq_true rfl))
set_option maxRecDepth 10000 in
theorem g_59_44 : GO x d 59 Q 44 [v0, v1, v2, v3] [] I J = Q none I J := ge (A := (57, 45, 0, 0, 0)) rfl
set_option maxRecDepth 10000 in
theorem g_59_45 : GO x d 59 Q 45 [some (.inr (.inr w)), v1, v2, v3] st I J = GO x d 59 Q 46 [some (.inr (.inr w)), v1, v2, v3] (.inr (.inr w) :: st) I J := ge (A := (2, 46, 0, 0, 0)) rfl
set_option maxRecDepth 10000 in
theorem g_59_46 : GO x d 59 Q 46 [v0, v1, v2, v3] st I J = GO x d 59 Q 48 [v0, v1, v2, v3] (.inl (116) :: st) I J := ge (A := (0, 48, 0, 0, 116)) rfl
set_option maxRecDepth 10000 in
theorem g_59_48 : GO x d 59 Q 48 [v0, v1, v2, v3] [.inl i0, .inr (.inr (.inl r))] I J = (okO r 7 ∧ EX x d 60 [.inr (.inr (.inl r)), .inl i0] I J (fun r1 I1 J1 => GO x d 59 Q 51 [v0, v1, v2, v3] (r1.toList ++ []) I1 J1)) := (ge (A := (53, 51, 60, 1, 0)) rfl).trans (gtrue (Nat.le_of_ble_eq_true rfl))
set_option maxRecDepth 10000 in
theorem g_59_51 : GO x d 59 Q 51 [some (.inr (.inr w)), v1, v2, v3] st I J = GO x d 59 Q 52 [some (.inr (.inr w)), v1, v2, v3] (.inr (.inr w) :: st) I J := ge (A := (2, 52, 0, 0, 0)) rfl
set_option maxRecDepth 10000 in
theorem g_59_52 : GO x d 59 Q 52 [v0, v1, v2, v3] st I J = GO x d 59 Q 53 [v0, v1, v2, v3] (.inl (1) :: st) I J := ge (A := (0, 53, 0, 0, 1)) rfl
set_option maxRecDepth 10000 in
theorem g_59_53 : GO x d 59 Q 53 [v0, v1, v2, v3] st I J = GO x d 59 Q 54 [v0, v1, v2, v3] (.inl (1) :: st) I J := ge (A := (0, 54, 0, 0, 1)) rfl
set_option maxRecDepth 10000 in
theorem g_59_54 : GO x d 59 Q 54 [v0, some (.inr (.inr w)), v2, v3] st I J = GO x d 59 Q 55 [v0, some (.inr (.inr w)), v2, v3] (.inr (.inr w) :: st) I J := ge (A := (2, 55, 1, 0, 0)) rfl
set_option maxRecDepth 10000 in
theorem g_59_55 : GO x d 59 Q 55 [v0, v1, v2, v3] (.inr (.inr (.inl r)) :: st) I J = (okO r 3 ∧ GO x d 59 Q 58 [v0, v1, v2, v3] (.inl (I r 3) :: st) I J) := ge (A := (37, 58, 3, 3, 0)) rfl
set_option maxRecDepth 10000 in
theorem g_59_58 : GO x d 59 Q 58 [v0, v1, v2, v3] (.inl b :: .inl a :: st) I J = GO x d 59 Q 59 [v0, v1, v2, v3] (.inl (shlI a b) :: st) I J := ge (A := (14, 59, 0, 0, 0)) rfl
set_option maxRecDepth 10000 in
theorem g_59_59 : GO x d 59 Q 59 [v0, v1, v2, v3] st I J = GO x d 59 Q 60 [v0, v1, v2, v3] (.inl (1) :: st) I J := ge (A := (0, 60, 0, 0, 1)) rfl
set_option maxRecDepth 10000 in
theorem g_59_60 : GO x d 59 Q 60 [v0, v1, v2, v3] (.inl b :: .inl a :: st) I J = GO x d 59 Q 61 [v0, v1, v2, v3] (.inl (a - b) :: st) I J := ge (A := (9, 61, 0, 0, 0)) rfl
set_option maxRecDepth 10000 in
theorem g_59_61 : GO x d 59 Q 61 [v0, v1, v2, v3] [.inl i0, .inl i1, .inr (.inr (.inl r))] I J = (okO r 7 ∧ EX x d 61 [.inr (.inr (.inl r)), .inl i1, .inl i0] I J (fun r1 I1 J1 => GO x d 59 Q 64 [v0, v1, v2, v3] (r1.toList ++ []) I1 J1)) := (ge (A := (53, 64, 61, 2, 0)) rfl).trans (gtrue (Nat.le_of_ble_eq_true rfl))
set_option maxRecDepth 10000 in
theorem g_59_64 : GO x d 59 Q 64 [v0, v1, v2, v3] (.inl a :: st) I J = (nlO (some v2) = true ∧ GO x d 59 Q 65 [v0, v1, v2, some (.inl a)] st I J) := (ge (A := (4, 65, 3, 0, 0)) rfl).trans (gst (Nat.le_of_ble_eq_true rfl) _)
set_option maxRecDepth 10000 in
theorem g_59_65 : GO x d 59 Q 65 [some (.inr (.inr w)), v1, v2, v3] st I J = GO x d 59 Q 66 [some (.inr (.inr w)), v1, v2, v3] (.inr (.inr w) :: st) I J := ge (A := (2, 66, 0, 0, 0)) rfl
set_option maxRecDepth 10000 in
theorem g_59_66 : GO x d 59 Q 66 [v0, v1, v2, v3] st I J = GO x d 59 Q 68 [v0, v1, v2, v3] (.inl (59) :: st) I J := ge (A := (0, 68, 0, 0, 59)) rfl
set_option maxRecDepth 10000 in
theorem g_59_68 : GO x d 59 Q 68 [v0, v1, v2, v3] [.inl i0, .inr (.inr (.inl r))] I J = (okO r 7 ∧ EX x d 60 [.inr (.inr (.inl r)), .inl i0] I J (fun r1 I1 J1 => GO x d 59 Q 71 [v0, v1, v2, v3] (r1.toList ++ []) I1 J1)) := (ge (A := (53, 71, 60, 1, 0)) rfl).trans (gtrue (Nat.le_of_ble_eq_true rfl))
set_option maxRecDepth 10000 in
theorem g_59_71 : GO x d 59 Q 71 [v0, some (.inr (.inr w)), v2, v3] st I J = GO x d 59 Q 72 [v0, some (.inr (.inr w)), v2, v3] (.inr (.inr w) :: st) I J := ge (A := (2, 72, 1, 0, 0)) rfl
set_option maxRecDepth 10000 in
theorem g_59_72 : GO x d 59 Q 72 [v0, v1, v2, some (.inl a)] st I J = GO x d 59 Q 73 [v0, v1, v2, some (.inl a)] (.inl a :: st) I J := ge (A := (1, 73, 3, 0, 0)) rfl
set_option maxRecDepth 10000 in
theorem g_59_73 : GO x d 59 Q 73 [v0, v1, v2, v3] [.inl i0, .inr (.inr (.inl r))] I J = (okO r 3 ∧ EX x d 14 [.inr (.inr (.inl r)), .inl i0] I J (fun r1 I1 J1 => GO x d 59 Q 76 [v0, v1, v2, v3] (r1.toList ++ []) I1 J1)) := (ge (A := (53, 76, 14, 1, 0)) rfl).trans (gtrue (Nat.le_of_ble_eq_true rfl))
set_option maxRecDepth 10000 in
theorem g_59_76 : GO x d 59 Q 76 [v0, v1, some (.inl a), v3] st I J = (nlO (some v1) = true ∧ GO x d 59 Q 79 [v0, v1, some (.inl (a + (1))), v3] st I J) := ge (A := (7, 79, 2, 0, 1)) rfl
set_option maxRecDepth 10000 in
theorem g_59_79 : GO x d 59 Q 79 [v0, v1, v2, v3] st I J = GO x d 59 Q 2 [v0, v1, v2, v3] st I J := ge (A := (35, 82, 2, 0, 0)) rfl
set_option maxRecDepth 10000 in
theorem g_59_82 : GO x d 59 Q 82 [v0, v1, v2, v3] [] I J = Q none I J := ge (A := (57, 83, 0, 0, 0)) rfl
set_option maxRecDepth 10000 in
theorem e_59 : EX x (d + 1) 59 [.inr (.inr w0), .inr (.inr w1)] I J Q = GO x d 59 Q 0 [some (.inr (.inr w0)), some (.inr (.inr w1)), none, none] [] I J := ex_eq (Nat.le_of_ble_eq_true rfl) rfl (Nat.le_of_ble_eq_true rfl) rfl
set_option maxRecDepth 10000 in
theorem g_60_0 : GO x d 60 Q 0 [some (.inr (.inr w)), v1] st I J = GO x d 60 Q 1 [some (.inr (.inr w)), v1] (.inr (.inr w) :: st) I J := ge (A := (2, 1, 0, 0, 0)) rfl
set_option maxRecDepth 10000 in
theorem g_60_1 : GO x d 60 Q 1 [v0, v1] (.inr (.inr (.inl r)) :: st) I J = (okO r 7 ∧ GO x d 60 Q 4 [v0, v1] (.inl (I r 2) :: st) I J) := ge (A := (37, 4, 7, 2, 0)) rfl
set_option maxRecDepth 10000 in
theorem g_60_4 : GO x d 60 Q 4 [v0, v1] (.inl a :: st) I J = (inR a ∧ if a = 0 then GO x d 60 Q 7 [v0, v1] st I J else GO x d 60 Q 8 [v0, v1] st I J) := (ge (A := (33, 7, 8, 1, 0)) rfl).trans (gifn (p := a = 0) inferInstance)
set_option maxRecDepth 10000 in
theorem g_60_7 : GO x d 60 Q 7 [v0, v1] [] I J = Q none I J := ge (A := (57, 8, 0, 0, 0)) rfl
set_option maxRecDepth 10000 in
theorem g_60_8 : GO x d 60 Q 8 [some (.inr (.inr w)), v1] st I J = GO x d 60 Q 9 [some (.inr (.inr w)), v1] (.inr (.inr w) :: st) I J := ge (A := (2, 9, 0, 0, 0)) rfl
set_option maxRecDepth 10000 in
theorem g_60_9 : GO x d 60 Q 9 [v0, v1] [.inr (.inr (.inl r))] I J = (okO r 7 ∧ EX x d 62 [.inr (.inr (.inl r))] I J (fun r1 I1 J1 => GO x d 60 Q 12 [v0, v1] (r1.toList ++ []) I1 J1)) := (ge (A := (53, 12, 62, 0, 0)) rfl).trans (gtrue (Nat.le_of_ble_eq_true rfl))
set_option maxRecDepth 10000 in
theorem g_60_12 : GO x d 60 Q 12 [v0, some (.inl a)] st I J = GO x d 60 Q 13 [v0, some (.inl a)] (.inl a :: st) I J := ge (A := (1, 13, 1, 0, 0)) rfl
set_option maxRecDepth 10000 in
theorem g_60_13 : GO x d 60 Q 13 [v0, v1] (.inl b :: .inl a :: st) I J = (inR a ∧ inR b ∧ if a = b then GO x d 60 Q 16 [v0, v1] st I J else GO x d 60 Q 29 [v0, v1] st I J) := (ge (A := (34, 16, 29, 1, 0)) rfl).trans (gicn (p := a = b) inferInstance)
set_option maxRecDepth 10000 in
theorem g_60_16 : GO x d 60 Q 16 [some (.inr (.inr w)), v1] st I J = GO x d 60 Q 17 [some (.inr (.inr w)), v1] (.inr (.inr w) :: st) I J := ge (A := (2, 17, 0, 0, 0)) rfl
set_option maxRecDepth 10000 in
theorem g_60_17 : GO x d 60 Q 17 [v0, v1] (.inr (.inr w) :: st) I J = GO x d 60 Q 18 [v0, v1] (.inr (.inr w) :: .inr (.inr w) :: st) I J := ge (A := (31, 18, 0, 0, 0)) rfl
set_option maxRecDepth 10000 in
theorem g_60_18 : GO x d 60 Q 18 [v0, v1] (.inr (.inr (.inl r)) :: st) I J = (okO r 7 ∧ GO x d 60 Q 21 [v0, v1] (.inl (I r 1) :: st) I J) := ge (A := (37, 21, 7, 1, 0)) rfl
set_option maxRecDepth 10000 in
theorem g_60_21 : GO x d 60 Q 21 [v0, v1] st I J = GO x d 60 Q 22 [v0, v1] (.inl (1) :: st) I J := ge (A := (0, 22, 0, 0, 1)) rfl
set_option maxRecDepth 10000 in
theorem g_60_22 : GO x d 60 Q 22 [v0, v1] (.inl b :: .inl a :: st) I J = GO x d 60 Q 23 [v0, v1] (.inl (a + b) :: st) I J := ge (A := (8, 23, 0, 0, 0)) rfl
set_option maxRecDepth 10000 in
theorem g_60_23 : GO x d 60 Q 23 [v0, v1] (.inl a :: .inr (.inr (.inl r)) :: st) I J = (okO r 7 ∧ GO x d 60 Q 26 [v0, v1] st (up I r 1 a) J) := ge (A := (40, 26, 7, 1, 0)) rfl
set_option maxRecDepth 10000 in
theorem g_60_26 : GO x d 60 Q 26 [v0, v1] st I J = GO x d 60 Q 34 [v0, v1] st I J := ge (A := (35, 29, 34, 0, 0)) rfl
set_option maxRecDepth 10000 in
theorem g_60_29 : GO x d 60 Q 29 [some (.inr (.inr w)), v1] st I J = GO x d 60 Q 30 [some (.inr (.inr w)), v1] (.inr (.inr w) :: st) I J := ge (A := (2, 30, 0, 0, 0)) rfl
set_option maxRecDepth 10000 in
theorem g_60_30 : GO x d 60 Q 30 [v0, v1] st I J = GO x d 60 Q 31 [v0, v1] (.inl (1) :: st) I J := ge (A := (0, 31, 0, 0, 1)) rfl
set_option maxRecDepth 10000 in
theorem g_60_31 : GO x d 60 Q 31 [v0, v1] [.inl i0, .inr (.inr (.inl r))] I J = (okO r 7 ∧ EX x d 63 [.inr (.inr (.inl r)), .inl i0] I J (fun r1 I1 J1 => GO x d 60 Q 34 [v0, v1] (r1.toList ++ []) I1 J1)) := (ge (A := (53, 34, 63, 1, 0)) rfl).trans (gtrue (Nat.le_of_ble_eq_true rfl))
set_option maxRecDepth 10000 in
theorem g_60_34 : GO x d 60 Q 34 [v0, v1] [] I J = Q none I J := ge (A := (57, 35, 0, 0, 0)) rfl
set_option maxRecDepth 10000 in
theorem e_60 : EX x (d + 1) 60 [.inr (.inr w0), .inl i0] I J Q = GO x d 60 Q 0 [some (.inr (.inr w0)), some (.inl i0)] [] I J := ex_eq (Nat.le_of_ble_eq_true rfl) rfl (Nat.le_of_ble_eq_true rfl) rfl
set_option maxRecDepth 10000 in
theorem g_61_0 : GO x d 61 Q 0 [some (.inr (.inr w)), v1, v2, v3, v4, v5] st I J = GO x d 61 Q 1 [some (.inr (.inr w)), v1, v2, v3, v4, v5] (.inr (.inr w) :: st) I J := ge (A := (2, 1, 0, 0, 0)) rfl
set_option maxRecDepth 10000 in
theorem g_61_1 : GO x d 61 Q 1 [v0, v1, v2, v3, v4, v5] (.inr (.inr (.inl r)) :: st) I J = (okO r 7 ∧ GO x d 61 Q 4 [v0, v1, v2, v3, v4, v5] (.inl (I r 2) :: st) I J) := ge (A := (37, 4, 7, 2, 0)) rfl
set_option maxRecDepth 10000 in
theorem g_61_4 : GO x d 61 Q 4 [v0, v1, v2, v3, v4, v5] (.inl a :: st) I J = (inR a ∧ if a = 0 then GO x d 61 Q 7 [v0, v1, v2, v3, v4, v5] st I J else GO x d 61 Q 9 [v0, v1, v2, v3, v4, v5] st I J) := (ge (A := (33, 7, 9, 1, 0)) rfl).trans (gifn (p := a = 0) inferInstance)
set_option maxRecDepth 10000 in
theorem g_61_7 : GO x d 61 Q 7 [v0, v1, v2, v3, v4, v5] st I J = GO x d 61 Q 8 [v0, v1, v2, v3, v4, v5] (.inl (0) :: st) I J := ge (A := (0, 8, 0, 0, 0)) rfl
set_option maxRecDepth 10000 in
theorem g_61_8 : GO x d 61 Q 8 [v0, v1, v2, v3, v4, v5] [.inl a] I J = Q (some (.inl a)) I J := ge (A := (55, 9, 0, 0, 0)) rfl
set_option maxRecDepth 10000 in
theorem g_61_9 : GO x d 61 Q 9 [v0, v1, v2, v3, v4, v5] st I J = GO x d 61 Q 10 [v0, v1, v2, v3, v4, v5] (.inl (0) :: st) I J := ge (A := (0, 10, 0, 0, 0)) rfl
set_option maxRecDepth 10000 in
theorem g_61_10 : GO x d 61 Q 10 [v0, v1, v2, v3, v4, v5] (.inl a :: st) I J = (nlO (some v2) = true ∧ GO x d 61 Q 11 [v0, v1, v2, some (.inl a), v4, v5] st I J) := (ge (A := (4, 11, 3, 0, 0)) rfl).trans (gst (Nat.le_of_ble_eq_true rfl) _)
set_option maxRecDepth 10000 in
theorem g_61_11 : GO x d 61 Q 11 [v0, v1, v2, v3, v4, v5] st I J = GO x d 61 Q 12 [v0, v1, v2, v3, v4, v5] (.inl (0) :: st) I J := ge (A := (0, 12, 0, 0, 0)) rfl
set_option maxRecDepth 10000 in
theorem g_61_12 : GO x d 61 Q 12 [v0, v1, v2, v3, v4, v5] (.inl a :: st) I J = (nlO (some v3) = true ∧ GO x d 61 Q 14 [v0, v1, v2, v3, some (.inl a), v5] st I J) := (ge (A := (4, 14, 4, 0, 0)) rfl).trans (gst (Nat.le_of_ble_eq_true rfl) _)
set_option maxRecDepth 10000 in
theorem g_61_14 : GO x d 61 Q 14 [some (.inr (.inr w)), v1, v2, v3, v4, v5] st I J = GO x d 61 Q 15 [some (.inr (.inr w)), v1, v2, v3, v4, v5] (.inr (.inr w) :: st) I J := ge (A := (2, 15, 0, 0, 0)) rfl
set_option maxRecDepth 10000 in
theorem g_61_15 : GO x d 61 Q 15 [v0, v1, v2, v3, v4, v5] (.inr (.inr (.inl r)) :: st) I J = (okO r 7 ∧ GO x d 61 Q 18 [v0, v1, v2, v3, v4, v5] (.inl (I r 1) :: st) I J) := ge (A := (37, 18, 7, 1, 0)) rfl
set_option maxRecDepth 10000 in
theorem g_61_18 : GO x d 61 Q 18 [v0, v1, v2, v3, v4, v5] (.inl a :: st) I J = (nlO (some v4) = true ∧ GO x d 61 Q 20 [v0, v1, v2, v3, v4, some (.inl a)] st I J) := (ge (A := (4, 20, 5, 0, 0)) rfl).trans (gst (Nat.le_of_ble_eq_true rfl) _)
set_option maxRecDepth 10000 in
theorem g_61_20 : GO x d 61 Q 20 [v0, v1, v2, v3, v4, some (.inl a)] st I J = GO x d 61 Q 22 [v0, v1, v2, v3, v4, some (.inl a)] (.inl a :: st) I J := ge (A := (1, 22, 5, 0, 0)) rfl
set_option maxRecDepth 10000 in
theorem g_61_22 : GO x d 61 Q 22 [some (.inr (.inr w)), v1, v2, v3, v4, v5] st I J = GO x d 61 Q 23 [some (.inr (.inr w)), v1, v2, v3, v4, v5] (.inr (.inr w) :: st) I J := ge (A := (2, 23, 0, 0, 0)) rfl
set_option maxRecDepth 10000 in
theorem g_61_23 : GO x d 61 Q 23 [v0, v1, v2, v3, v4, v5] (.inr (.inr (.inl r)) :: st) I J = (okO r 7 ∧ GO x d 61 Q 26 [v0, v1, v2, v3, v4, v5] (.inl (I r 3) :: st) I J) := ge (A := (37, 26, 7, 3, 0)) rfl
set_option maxRecDepth 10000 in
theorem g_61_26 : GO x d 61 Q 26 [v0, v1, v2, v3, v4, v5] (.inl b :: .inl a :: st) I J = (inR a ∧ inR b ∧ if a < b then GO x d 61 Q 29 [v0, v1, v2, v3, v4, v5] st I J else GO x d 61 Q 74 [v0, v1, v2, v3, v4, v5] st I J) := (ge (A := (34, 29, 74, 3, 0)) rfl).trans (ggec)
set_option maxRecDepth 10000 in
theorem g_61_29 : GO x d 61 Q 29 [some (.inr (.inr w)), v1, v2, v3, v4, v5] st I J = GO x d 61 Q 30 [some (.inr (.inr w)), v1, v2, v3, v4, v5] (.inr (.inr w) :: st) I J := ge (A := (2, 30, 0, 0, 0)) rfl
set_option maxRecDepth 10000 in
theorem g_61_30 : GO x d 61 Q 30 [v0, v1, v2, v3, v4, v5] (.inr (.inr (.inl r)) :: st) I J = (okF r 7 0 ∧ GO x d 61 Q 33 [v0, v1, v2, v3, v4, v5] (.inr (.inr (.inl (rfN r 0))) :: st) I J) := (ge (A := (39, 33, 7, 0, 0)) rfl).trans (gref (f := fun q => GO x d 61 Q 33 [v0, v1, v2, v3, v4, v5] (.inr (.inr (.inl q)) :: st) I J))
set_option maxRecDepth 10000 in
theorem g_61_33 : GO x d 61 Q 33 [v0, v1, v2, v3, v4, some (.inl a)] st I J = GO x d 61 Q 35 [v0, v1, v2, v3, v4, some (.inl a)] (.inl a :: st) I J := ge (A := (1, 35, 5, 0, 0)) rfl
set_option maxRecDepth 10000 in
theorem h_61_35 : GO x d 61 Q 35 [v0, v1, v2, v3, v4, v5] (.inl a :: .inr (.inr (.inr q)) :: st) I J = (q < 4 ∧ 0 ≤ a ∧ a < (roA x q).1 ∧ GO x d 61 Q 36 [v0, v1, v2, v3, v4, v5] (.inl ((roA x q).2 a.toNat) :: st) I J) := ge (A := (44, 36, 0, 0, 0)) rfl
set_option maxRecDepth 10000 in
theorem g_61_35 : GO x d 61 Q 35 [v0, v1, v2, v3, v4, v5] (.inl a :: .inr (.inr (.inl r)) :: st) I J = (okA r 20 ∧ 0 ≤ a ∧ a < lnN r ∧ GO x d 61 Q 36 [v0, v1, v2, v3, v4, v5] (.inl (I r a) :: st) I J) := ge (A := (44, 36, 0, 0, 0)) rfl
set_option maxRecDepth 10000 in
theorem g_61_36 : GO x d 61 Q 36 [v0, v1, v2, v3, v4, v5] [.inl i0] I J = EX x d 64 [.inl i0] I J (fun r1 I1 J1 => GO x d 61 Q 39 [v0, v1, v2, v3, v4, v5] (r1.toList ++ []) I1 J1) := (ge (A := (52, 39, 64, 1, 0)) rfl).trans (gtrue2 (Nat.le_of_ble_eq_true rfl) (Nat.le_of_ble_eq_true rfl))
set_option maxRecDepth 10000 in
theorem g_61_39 : GO x d 61 Q 39 [v0, v1, v2, v3, v4, v5] (.inl a :: st) I J = (inR a ∧ if a = 0 then GO x d 61 Q 74 [v0, v1, v2, v3, v4, v5] st I J else GO x d 61 Q 42 [v0, v1, v2, v3, v4, v5] st I J) := (ge (A := (33, 42, 74, 0, 0)) rfl).trans (gif (p := a = 0) inferInstance)
set_option maxRecDepth 10000 in
theorem g_61_42 : GO x d 61 Q 42 [v0, v1, v2, some (.inl a), v4, v5] st I J = (nlO (some v2) = true ∧ GO x d 61 Q 45 [v0, v1, v2, some (.inl (a + (1))), v4, v5] st I J) := ge (A := (7, 45, 3, 0, 1)) rfl
set_option maxRecDepth 10000 in
theorem g_61_45 : GO x d 61 Q 45 [v0, v1, v2, some (.inl a), v4, v5] st I J = GO x d 61 Q 46 [v0, v1, v2, some (.inl a), v4, v5] (.inl a :: st) I J := ge (A := (1, 46, 3, 0, 0)) rfl
set_option maxRecDepth 10000 in
theorem g_61_46 : GO x d 61 Q 46 [v0, v1, v2, v3, v4, v5] st I J = GO x d 61 Q 47 [v0, v1, v2, v3, v4, v5] (.inl (3) :: st) I J := ge (A := (0, 47, 0, 0, 3)) rfl
set_option maxRecDepth 10000 in
theorem g_61_47 : GO x d 61 Q 47 [v0, v1, v2, v3, v4, v5] (.inl b :: .inl a :: st) I J = (inR a ∧ inR b ∧ if b < a then GO x d 61 Q 68 [v0, v1, v2, v3, v4, v5] st I J else GO x d 61 Q 50 [v0, v1, v2, v3, v4, v5] st I J) := (ge (A := (34, 50, 68, 4, 0)) rfl).trans (gic (p := b < a) inferInstance)
set_option maxRecDepth 10000 in
theorem g_61_50 : GO x d 61 Q 50 [v0, v1, v2, v3, v4, v5] st I J = GO x d 61 Q 52 [v0, v1, v2, v3, v4, v5] (.inl (10) :: st) I J := ge (A := (0, 52, 0, 0, 10)) rfl
set_option maxRecDepth 10000 in
theorem g_61_52 : GO x d 61 Q 52 [v0, v1, v2, v3, some (.inl a), v5] st I J = GO x d 61 Q 54 [v0, v1, v2, v3, some (.inl a), v5] (.inl a :: st) I J := ge (A := (1, 54, 4, 0, 0)) rfl
set_option maxRecDepth 10000 in
theorem g_61_54 : GO x d 61 Q 54 [v0, v1, v2, v3, v4, v5] (.inl b :: .inl a :: st) I J = GO x d 61 Q 55 [v0, v1, v2, v3, v4, v5] (.inl (a * b) :: st) I J := ge (A := (10, 55, 0, 0, 0)) rfl
set_option maxRecDepth 10000 in
theorem g_61_55 : GO x d 61 Q 55 [some (.inr (.inr w)), v1, v2, v3, v4, v5] st I J = GO x d 61 Q 56 [some (.inr (.inr w)), v1, v2, v3, v4, v5] (.inr (.inr w) :: st) I J := ge (A := (2, 56, 0, 0, 0)) rfl
set_option maxRecDepth 10000 in
theorem g_61_56 : GO x d 61 Q 56 [v0, v1, v2, v3, v4, v5] (.inr (.inr (.inl r)) :: st) I J = (okF r 7 0 ∧ GO x d 61 Q 59 [v0, v1, v2, v3, v4, v5] (.inr (.inr (.inl (rfN r 0))) :: st) I J) := (ge (A := (39, 59, 7, 0, 0)) rfl).trans (gref (f := fun q => GO x d 61 Q 59 [v0, v1, v2, v3, v4, v5] (.inr (.inr (.inl q)) :: st) I J))
set_option maxRecDepth 10000 in
theorem g_61_59 : GO x d 61 Q 59 [v0, v1, v2, v3, v4, some (.inl a)] st I J = GO x d 61 Q 61 [v0, v1, v2, v3, v4, some (.inl a)] (.inl a :: st) I J := ge (A := (1, 61, 5, 0, 0)) rfl
set_option maxRecDepth 10000 in
theorem h_61_61 : GO x d 61 Q 61 [v0, v1, v2, v3, v4, v5] (.inl a :: .inr (.inr (.inr q)) :: st) I J = (q < 4 ∧ 0 ≤ a ∧ a < (roA x q).1 ∧ GO x d 61 Q 62 [v0, v1, v2, v3, v4, v5] (.inl ((roA x q).2 a.toNat) :: st) I J) := ge (A := (44, 62, 0, 0, 0)) rfl
set_option maxRecDepth 10000 in
theorem g_61_61 : GO x d 61 Q 61 [v0, v1, v2, v3, v4, v5] (.inl a :: .inr (.inr (.inl r)) :: st) I J = (okA r 20 ∧ 0 ≤ a ∧ a < lnN r ∧ GO x d 61 Q 62 [v0, v1, v2, v3, v4, v5] (.inl (I r a) :: st) I J) := ge (A := (44, 62, 0, 0, 0)) rfl
set_option maxRecDepth 10000 in
theorem g_61_62 : GO x d 61 Q 62 [v0, v1, v2, v3, v4, v5] (.inl b :: .inl a :: st) I J = GO x d 61 Q 63 [v0, v1, v2, v3, v4, v5] (.inl (a + b) :: st) I J := ge (A := (8, 63, 0, 0, 0)) rfl
set_option maxRecDepth 10000 in
theorem g_61_63 : GO x d 61 Q 63 [v0, v1, v2, v3, v4, v5] st I J = GO x d 61 Q 65 [v0, v1, v2, v3, v4, v5] (.inl (48) :: st) I J := ge (A := (0, 65, 0, 0, 48)) rfl
set_option maxRecDepth 10000 in
theorem g_61_65 : GO x d 61 Q 65 [v0, v1, v2, v3, v4, v5] (.inl b :: .inl a :: st) I J = GO x d 61 Q 66 [v0, v1, v2, v3, v4, v5] (.inl (a - b) :: st) I J := ge (A := (9, 66, 0, 0, 0)) rfl
set_option maxRecDepth 10000 in
theorem g_61_66 : GO x d 61 Q 66 [v0, v1, v2, v3, v4, v5] (.inl a :: st) I J = (nlO (some v3) = true ∧ GO x d 61 Q 68 [v0, v1, v2, v3, some (.inl a), v5] st I J) := (ge (A := (4, 68, 4, 0, 0)) rfl).trans (gst (Nat.le_of_ble_eq_true rfl) _)
set_option maxRecDepth 10000 in
theorem g_61_68 : GO x d 61 Q 68 [v0, v1, v2, v3, v4, some (.inl a)] st I J = (nlO (some v4) = true ∧ GO x d 61 Q 71 [v0, v1, v2, v3, v4, some (.inl (a + (1)))] st I J) := ge (A := (7, 71, 5, 0, 1)) rfl
set_option maxRecDepth 10000 in
theorem g_61_71 : GO x d 61 Q 71 [v0, v1, v2, v3, v4, v5] st I J = GO x d 61 Q 20 [v0, v1, v2, v3, v4, v5] st I J := ge (A := (35, 74, 20, 0, 0)) rfl
set_option maxRecDepth 10000 in
theorem g_61_74 : GO x d 61 Q 74 [v0, v1, v2, some (.inl a), v4, v5] st I J = GO x d 61 Q 75 [v0, v1, v2, some (.inl a), v4, v5] (.inl a :: st) I J := ge (A := (1, 75, 3, 0, 0)) rfl
set_option maxRecDepth 10000 in
theorem g_61_75 : GO x d 61 Q 75 [v0, v1, v2, v3, v4, v5] (.inl a :: st) I J = (inR a ∧ if a = 0 then GO x d 61 Q 83 [v0, v1, v2, v3, v4, v5] st I J else GO x d 61 Q 78 [v0, v1, v2, v3, v4, v5] st I J) := (ge (A := (33, 78, 83, 0, 0)) rfl).trans (gif (p := a = 0) inferInstance)
set_option maxRecDepth 10000 in
theorem g_61_78 : GO x d 61 Q 78 [v0, v1, v2, some (.inl a), v4, v5] st I J = GO x d 61 Q 79 [v0, v1, v2, some (.inl a), v4, v5] (.inl a :: st) I J := ge (A := (1, 79, 3, 0, 0)) rfl
set_option maxRecDepth 10000 in
theorem g_61_79 : GO x d 61 Q 79 [v0, v1, v2, v3, v4, v5] st I J = GO x d 61 Q 80 [v0, v1, v2, v3, v4, v5] (.inl (3) :: st) I J := ge (A := (0, 80, 0, 0, 3)) rfl
set_option maxRecDepth 10000 in
theorem g_61_80 : GO x d 61 Q 80 [v0, v1, v2, v3, v4, v5] (.inl b :: .inl a :: st) I J = (inR a ∧ inR b ∧ if b < a then GO x d 61 Q 83 [v0, v1, v2, v3, v4, v5] st I J else GO x d 61 Q 90 [v0, v1, v2, v3, v4, v5] st I J) := (ge (A := (34, 83, 90, 5, 0)) rfl).trans (ggec)
set_option maxRecDepth 10000 in
theorem g_61_83 : GO x d 61 Q 83 [some (.inr (.inr w)), v1, v2, v3, v4, v5] st I J = GO x d 61 Q 84 [some (.inr (.inr w)), v1, v2, v3, v4, v5] (.inr (.inr w) :: st) I J := ge (A := (2, 84, 0, 0, 0)) rfl
set_option maxRecDepth 10000 in
theorem g_61_84 : GO x d 61 Q 84 [v0, v1, v2, v3, v4, v5] st I J = GO x d 61 Q 85 [v0, v1, v2, v3, v4, v5] (.inl (1) :: st) I J := ge (A := (0, 85, 0, 0, 1)) rfl
set_option maxRecDepth 10000 in
theorem g_61_85 : GO x d 61 Q 85 [v0, v1, v2, v3, v4, v5] [.inl i0, .inr (.inr (.inl r))] I J = (okO r 7 ∧ EX x d 63 [.inr (.inr (.inl r)), .inl i0] I J (fun r1 I1 J1 => GO x d 61 Q 88 [v0, v1, v2, v3, v4, v5] (r1.toList ++ []) I1 J1)) := (ge (A := (53, 88, 63, 1, 0)) rfl).trans (gtrue (Nat.le_of_ble_eq_true rfl))
set_option maxRecDepth 10000 in
theorem g_61_88 : GO x d 61 Q 88 [v0, v1, v2, v3, v4, v5] st I J = GO x d 61 Q 89 [v0, v1, v2, v3, v4, v5] (.inl (0) :: st) I J := ge (A := (0, 89, 0, 0, 0)) rfl
set_option maxRecDepth 10000 in
theorem g_61_89 : GO x d 61 Q 89 [v0, v1, v2, v3, v4, v5] [.inl a] I J = Q (some (.inl a)) I J := ge (A := (55, 90, 0, 0, 0)) rfl
set_option maxRecDepth 10000 in
theorem g_61_90 : GO x d 61 Q 90 [v0, v1, v2, v3, some (.inl a), v5] st I J = GO x d 61 Q 92 [v0, v1, v2, v3, some (.inl a), v5] (.inl a :: st) I J := ge (A := (1, 92, 4, 0, 0)) rfl
set_option maxRecDepth 10000 in
theorem g_61_92 : GO x d 61 Q 92 [v0, some (.inl a), v2, v3, v4, v5] st I J = GO x d 61 Q 93 [v0, some (.inl a), v2, v3, v4, v5] (.inl a :: st) I J := ge (A := (1, 93, 1, 0, 0)) rfl
set_option maxRecDepth 10000 in
theorem g_61_93 : GO x d 61 Q 93 [v0, v1, v2, v3, v4, v5] (.inl b :: .inl a :: st) I J = (inR a ∧ inR b ∧ if a < b then GO x d 61 Q 102 [v0, v1, v2, v3, v4, v5] st I J else GO x d 61 Q 96 [v0, v1, v2, v3, v4, v5] st I J) := (ge (A := (34, 96, 102, 2, 0)) rfl).trans (gic (p := a < b) inferInstance)
set_option maxRecDepth 10000 in
theorem g_61_96 : GO x d 61 Q 96 [v0, v1, v2, v3, some (.inl a), v5] st I J = GO x d 61 Q 98 [v0, v1, v2, v3, some (.inl a), v5] (.inl a :: st) I J := ge (A := (1, 98, 4, 0, 0)) rfl
set_option maxRecDepth 10000 in
theorem g_61_98 : GO x d 61 Q 98 [v0, v1, some (.inl a), v3, v4, v5] st I J = GO x d 61 Q 99 [v0, v1, some (.inl a), v3, v4, v5] (.inl a :: st) I J := ge (A := (1, 99, 2, 0, 0)) rfl
set_option maxRecDepth 10000 in
theorem g_61_99 : GO x d 61 Q 99 [v0, v1, v2, v3, v4, v5] (.inl b :: .inl a :: st) I J = (inR a ∧ inR b ∧ if b < a then GO x d 61 Q 102 [v0, v1, v2, v3, v4, v5] st I J else GO x d 61 Q 109 [v0, v1, v2, v3, v4, v5] st I J) := (ge (A := (34, 102, 109, 5, 0)) rfl).trans (ggec)
set_option maxRecDepth 10000 in
theorem g_61_102 : GO x d 61 Q 102 [some (.inr (.inr w)), v1, v2, v3, v4, v5] st I J = GO x d 61 Q 103 [some (.inr (.inr w)), v1, v2, v3, v4, v5] (.inr (.inr w) :: st) I J := ge (A := (2, 103, 0, 0, 0)) rfl
set_option maxRecDepth 10000 in
theorem g_61_103 : GO x d 61 Q 103 [v0, v1, v2, v3, v4, v5] st I J = GO x d 61 Q 104 [v0, v1, v2, v3, v4, v5] (.inl (2) :: st) I J := ge (A := (0, 104, 0, 0, 2)) rfl
set_option maxRecDepth 10000 in
theorem g_61_104 : GO x d 61 Q 104 [v0, v1, v2, v3, v4, v5] [.inl i0, .inr (.inr (.inl r))] I J = (okO r 7 ∧ EX x d 63 [.inr (.inr (.inl r)), .inl i0] I J (fun r1 I1 J1 => GO x d 61 Q 107 [v0, v1, v2, v3, v4, v5] (r1.toList ++ []) I1 J1)) := (ge (A := (53, 107, 63, 1, 0)) rfl).trans (gtrue (Nat.le_of_ble_eq_true rfl))
set_option maxRecDepth 10000 in
theorem g_61_107 : GO x d 61 Q 107 [v0, v1, v2, v3, v4, v5] st I J = GO x d 61 Q 108 [v0, v1, v2, v3, v4, v5] (.inl (0) :: st) I J := ge (A := (0, 108, 0, 0, 0)) rfl
set_option maxRecDepth 10000 in
theorem g_61_108 : GO x d 61 Q 108 [v0, v1, v2, v3, v4, v5] [.inl a] I J = Q (some (.inl a)) I J := ge (A := (55, 109, 0, 0, 0)) rfl
set_option maxRecDepth 10000 in
theorem g_61_109 : GO x d 61 Q 109 [some (.inr (.inr w)), v1, v2, v3, v4, v5] st I J = GO x d 61 Q 110 [some (.inr (.inr w)), v1, v2, v3, v4, v5] (.inr (.inr w) :: st) I J := ge (A := (2, 110, 0, 0, 0)) rfl
set_option maxRecDepth 10000 in
theorem g_61_110 : GO x d 61 Q 110 [v0, v1, v2, v3, v4, v5] (.inr (.inr w) :: st) I J = GO x d 61 Q 111 [v0, v1, v2, v3, v4, v5] (.inr (.inr w) :: .inr (.inr w) :: st) I J := ge (A := (31, 111, 0, 0, 0)) rfl
set_option maxRecDepth 10000 in
theorem g_61_111 : GO x d 61 Q 111 [v0, v1, v2, v3, v4, v5] (.inr (.inr (.inl r)) :: st) I J = (okO r 7 ∧ GO x d 61 Q 114 [v0, v1, v2, v3, v4, v5] (.inl (I r 1) :: st) I J) := ge (A := (37, 114, 7, 1, 0)) rfl
set_option maxRecDepth 10000 in
theorem g_61_114 : GO x d 61 Q 114 [v0, v1, v2, some (.inl a), v4, v5] st I J = GO x d 61 Q 115 [v0, v1, v2, some (.inl a), v4, v5] (.inl a :: st) I J := ge (A := (1, 115, 3, 0, 0)) rfl
set_option maxRecDepth 10000 in
theorem g_61_115 : GO x d 61 Q 115 [v0, v1, v2, v3, v4, v5] (.inl b :: .inl a :: st) I J = GO x d 61 Q 116 [v0, v1, v2, v3, v4, v5] (.inl (a + b) :: st) I J := ge (A := (8, 116, 0, 0, 0)) rfl
set_option maxRecDepth 10000 in
theorem g_61_116 : GO x d 61 Q 116 [v0, v1, v2, v3, v4, v5] (.inl a :: .inr (.inr (.inl r)) :: st) I J = (okO r 7 ∧ GO x d 61 Q 119 [v0, v1, v2, v3, v4, v5] st (up I r 1 a) J) := ge (A := (40, 119, 7, 1, 0)) rfl
set_option maxRecDepth 10000 in
theorem g_61_119 : GO x d 61 Q 119 [v0, v1, v2, v3, some (.inl a), v5] st I J = GO x d 61 Q 121 [v0, v1, v2, v3, some (.inl a), v5] (.inl a :: st) I J := ge (A := (1, 121, 4, 0, 0)) rfl
set_option maxRecDepth 10000 in
theorem g_61_121 : GO x d 61 Q 121 [v0, v1, v2, v3, v4, v5] [.inl a] I J = Q (some (.inl a)) I J := ge (A := (55, 122, 0, 0, 0)) rfl
set_option maxRecDepth 10000 in
theorem e_61 : EX x (d + 1) 61 [.inr (.inr w0), .inl i0, .inl i1] I J Q = GO x d 61 Q 0 [some (.inr (.inr w0)), some (.inl i0), some (.inl i1), none, none, none] [] I J := ex_eq (Nat.le_of_ble_eq_true rfl) rfl (Nat.le_of_ble_eq_true rfl) rfl
set_option maxRecDepth 10000 in
theorem g_62_0 : GO x d 62 Q 0 [some (.inr (.inr w))] st I J = GO x d 62 Q 1 [some (.inr (.inr w))] (.inr (.inr w) :: st) I J := ge (A := (2, 1, 0, 0, 0)) rfl
set_option maxRecDepth 10000 in
theorem g_62_1 : GO x d 62 Q 1 [v0] (.inr (.inr (.inl r)) :: st) I J = (okO r 7 ∧ GO x d 62 Q 4 [v0] (.inl (I r 1) :: st) I J) := ge (A := (37, 4, 7, 1, 0)) rfl
set_option maxRecDepth 10000 in
theorem g_62_4 : GO x d 62 Q 4 [v0] (.inl a :: st) I J = (inR a ∧ if a < 0 then GO x d 62 Q 39 [v0] st I J else GO x d 62 Q 7 [v0] st I J) := (ge (A := (33, 7, 39, 2, 0)) rfl).trans (gif (p := a < 0) inferInstance)
set_option maxRecDepth 10000 in
theorem g_62_7 : GO x d 62 Q 7 [some (.inr (.inr w))] st I J = GO x d 62 Q 8 [some (.inr (.inr w))] (.inr (.inr w) :: st) I J := ge (A := (2, 8, 0, 0, 0)) rfl
set_option maxRecDepth 10000 in
theorem g_62_8 : GO x d 62 Q 8 [v0] (.inr (.inr (.inl r)) :: st) I J = (okO r 7 ∧ GO x d 62 Q 11 [v0] (.inl (I r 1) :: st) I J) := ge (A := (37, 11, 7, 1, 0)) rfl
set_option maxRecDepth 10000 in
theorem g_62_11 : GO x d 62 Q 11 [some (.inr (.inr w))] st I J = GO x d 62 Q 12 [some (.inr (.inr w))] (.inr (.inr w) :: st) I J := ge (A := (2, 12, 0, 0, 0)) rfl
set_option maxRecDepth 10000 in
theorem g_62_12 : GO x d 62 Q 12 [v0] (.inr (.inr (.inl r)) :: st) I J = (okO r 7 ∧ GO x d 62 Q 15 [v0] (.inl (I r 3) :: st) I J) := ge (A := (37, 15, 7, 3, 0)) rfl
set_option maxRecDepth 10000 in
theorem g_62_15 : GO x d 62 Q 15 [v0] (.inl b :: .inl a :: st) I J = (inR a ∧ inR b ∧ if a < b then GO x d 62 Q 18 [v0] st I J else GO x d 62 Q 39 [v0] st I J) := (ge (A := (34, 18, 39, 3, 0)) rfl).trans (ggec)
set_option maxRecDepth 10000 in
theorem g_62_18 : GO x d 62 Q 18 [some (.inr (.inr w))] st I J = GO x d 62 Q 19 [some (.inr (.inr w))] (.inr (.inr w) :: st) I J := ge (A := (2, 19, 0, 0, 0)) rfl
set_option maxRecDepth 10000 in
theorem g_62_19 : GO x d 62 Q 19 [v0] (.inr (.inr (.inl r)) :: st) I J = (okO r 7 ∧ GO x d 62 Q 22 [v0] (.inl (I r 1) :: st) I J) := ge (A := (37, 22, 7, 1, 0)) rfl
set_option maxRecDepth 10000 in
theorem g_62_22 : GO x d 62 Q 22 [v0] st I J = GO x d 62 Q 24 [v0] (.inl (120) :: st) I J := ge (A := (0, 24, 0, 0, 120)) rfl
set_option maxRecDepth 10000 in
theorem g_62_24 : GO x d 62 Q 24 [v0] (.inl b :: .inl a :: st) I J = (inR a ∧ inR b ∧ if a < b then GO x d 62 Q 27 [v0] st I J else GO x d 62 Q 39 [v0] st I J) := (ge (A := (34, 27, 39, 3, 0)) rfl).trans (ggec)
set_option maxRecDepth 10000 in
theorem g_62_27 : GO x d 62 Q 27 [some (.inr (.inr w))] st I J = GO x d 62 Q 28 [some (.inr (.inr w))] (.inr (.inr w) :: st) I J := ge (A := (2, 28, 0, 0, 0)) rfl
set_option maxRecDepth 10000 in
theorem g_62_28 : GO x d 62 Q 28 [v0] (.inr (.inr (.inl r)) :: st) I J = (okF r 7 0 ∧ GO x d 62 Q 31 [v0] (.inr (.inr (.inl (rfN r 0))) :: st) I J) := (ge (A := (39, 31, 7, 0, 0)) rfl).trans (gref (f := fun q => GO x d 62 Q 31 [v0] (.inr (.inr (.inl q)) :: st) I J))
set_option maxRecDepth 10000 in
theorem g_62_31 : GO x d 62 Q 31 [some (.inr (.inr w))] st I J = GO x d 62 Q 32 [some (.inr (.inr w))] (.inr (.inr w) :: st) I J := ge (A := (2, 32, 0, 0, 0)) rfl
set_option maxRecDepth 10000 in
theorem g_62_32 : GO x d 62 Q 32 [v0] (.inr (.inr (.inl r)) :: st) I J = (okO r 7 ∧ GO x d 62 Q 35 [v0] (.inl (I r 1) :: st) I J) := ge (A := (37, 35, 7, 1, 0)) rfl
set_option maxRecDepth 10000 in
theorem h_62_35 : GO x d 62 Q 35 [v0] (.inl a :: .inr (.inr (.inr q)) :: st) I J = (q < 4 ∧ 0 ≤ a ∧ a < (roA x q).1 ∧ GO x d 62 Q 36 [v0] (.inl ((roA x q).2 a.toNat) :: st) I J) := ge (A := (44, 36, 0, 0, 0)) rfl
set_option maxRecDepth 10000 in
theorem g_62_35 : GO x d 62 Q 35 [v0] (.inl a :: .inr (.inr (.inl r)) :: st) I J = (okA r 20 ∧ 0 ≤ a ∧ a < lnN r ∧ GO x d 62 Q 36 [v0] (.inl (I r a) :: st) I J) := ge (A := (44, 36, 0, 0, 0)) rfl
set_option maxRecDepth 10000 in
theorem g_62_36 : GO x d 62 Q 36 [v0] st I J = GO x d 62 Q 40 [v0] st I J := ge (A := (35, 39, 40, 0, 0)) rfl
set_option maxRecDepth 10000 in
theorem g_62_39 : GO x d 62 Q 39 [v0] st I J = GO x d 62 Q 40 [v0] (.inl (-1) :: st) I J := ge (A := (0, 40, 0, 0, -1)) rfl
set_option maxRecDepth 10000 in
theorem g_62_40 : GO x d 62 Q 40 [v0] [.inl a] I J = Q (some (.inl a)) I J := ge (A := (55, 41, 0, 0, 0)) rfl
set_option maxRecDepth 10000 in
theorem e_62 : EX x (d + 1) 62 [.inr (.inr w0)] I J Q = GO x d 62 Q 0 [some (.inr (.inr w0))] [] I J := ex_eq (Nat.le_of_ble_eq_true rfl) rfl (Nat.le_of_ble_eq_true rfl) rfl
set_option maxRecDepth 10000 in
theorem g_63_0 : GO x d 63 Q 0 [some (.inr (.inr w)), v1] st I J = GO x d 63 Q 1 [some (.inr (.inr w)), v1] (.inr (.inr w) :: st) I J := ge (A := (2, 1, 0, 0, 0)) rfl
set_option maxRecDepth 10000 in
theorem g_63_1 : GO x d 63 Q 1 [v0, v1] st I J = GO x d 63 Q 2 [v0, v1] (.inl (0) :: st) I J := ge (A := (0, 2, 0, 0, 0)) rfl
set_option maxRecDepth 10000 in
theorem g_63_2 : GO x d 63 Q 2 [v0, v1] (.inl a :: .inr (.inr (.inl r)) :: st) I J = (okO r 7 ∧ ret01 a ∧ GO x d 63 Q 5 [v0, v1] st (up I r 2 a) J) := ge (A := (41, 5, 7, 2, 0)) rfl
set_option maxRecDepth 10000 in
theorem g_63_5 : GO x d 63 Q 5 [some (.inr (.inr w)), v1] st I J = GO x d 63 Q 6 [some (.inr (.inr w)), v1] (.inr (.inr w) :: st) I J := ge (A := (2, 6, 0, 0, 0)) rfl
set_option maxRecDepth 10000 in
theorem g_63_6 : GO x d 63 Q 6 [v0, some (.inl a)] st I J = GO x d 63 Q 7 [v0, some (.inl a)] (.inl a :: st) I J := ge (A := (1, 7, 1, 0, 0)) rfl
set_option maxRecDepth 10000 in
theorem g_63_7 : GO x d 63 Q 7 [v0, v1] (.inl a :: .inr (.inr (.inl r)) :: st) I J = (okO r 7 ∧ GO x d 63 Q 10 [v0, v1] st (up I r 4 a) J) := ge (A := (40, 10, 7, 4, 0)) rfl
set_option maxRecDepth 10000 in
theorem g_63_10 : GO x d 63 Q 10 [some (.inr (.inr w)), v1] st I J = GO x d 63 Q 11 [some (.inr (.inr w)), v1] (.inr (.inr w) :: st) I J := ge (A := (2, 11, 0, 0, 0)) rfl
set_option maxRecDepth 10000 in
theorem g_63_11 : GO x d 63 Q 11 [some (.inr (.inr w)), v1] st I J = GO x d 63 Q 12 [some (.inr (.inr w)), v1] (.inr (.inr w) :: st) I J := ge (A := (2, 12, 0, 0, 0)) rfl
set_option maxRecDepth 10000 in
theorem g_63_12 : GO x d 63 Q 12 [v0, v1] (.inr (.inr (.inl r)) :: st) I J = (okO r 7 ∧ GO x d 63 Q 15 [v0, v1] (.inl (I r 1) :: st) I J) := ge (A := (37, 15, 7, 1, 0)) rfl
set_option maxRecDepth 10000 in
theorem g_63_15 : GO x d 63 Q 15 [v0, v1] (.inl a :: .inr (.inr (.inl r)) :: st) I J = (okO r 7 ∧ GO x d 63 Q 18 [v0, v1] st (up I r 5 a) J) := ge (A := (40, 18, 7, 5, 0)) rfl
set_option maxRecDepth 10000 in
theorem g_63_18 : GO x d 63 Q 18 [v0, v1] [] I J = Q none I J := ge (A := (57, 19, 0, 0, 0)) rfl
set_option maxRecDepth 10000 in
theorem e_63 : EX x (d + 1) 63 [.inr (.inr w0), .inl i0] I J Q = GO x d 63 Q 0 [some (.inr (.inr w0)), some (.inl i0)] [] I J := ex_eq (Nat.le_of_ble_eq_true rfl) rfl (Nat.le_of_ble_eq_true rfl) rfl
set_option maxRecDepth 10000 in
theorem g_64_0 : GO x d 64 Q 0 [some (.inl a)] st I J = GO x d 64 Q 1 [some (.inl a)] (.inl a :: st) I J := ge (A := (1, 1, 0, 0, 0)) rfl
set_option maxRecDepth 10000 in
theorem g_64_1 : GO x d 64 Q 1 [v0] st I J = GO x d 64 Q 3 [v0] (.inl (48) :: st) I J := ge (A := (0, 3, 0, 0, 48)) rfl
set_option maxRecDepth 10000 in
theorem g_64_3 : GO x d 64 Q 3 [v0] (.inl b :: .inl a :: st) I J = (inR a ∧ inR b ∧ if a < b then GO x d 64 Q 16 [v0] st I J else GO x d 64 Q 6 [v0] st I J) := (ge (A := (34, 6, 16, 2, 0)) rfl).trans (gic (p := a < b) inferInstance)
set_option maxRecDepth 10000 in
theorem g_64_6 : GO x d 64 Q 6 [some (.inl a)] st I J = GO x d 64 Q 7 [some (.inl a)] (.inl a :: st) I J := ge (A := (1, 7, 0, 0, 0)) rfl
set_option maxRecDepth 10000 in
theorem g_64_7 : GO x d 64 Q 7 [v0] st I J = GO x d 64 Q 9 [v0] (.inl (57) :: st) I J := ge (A := (0, 9, 0, 0, 57)) rfl
set_option maxRecDepth 10000 in
theorem g_64_9 : GO x d 64 Q 9 [v0] (.inl b :: .inl a :: st) I J = (inR a ∧ inR b ∧ if b < a then GO x d 64 Q 16 [v0] st I J else GO x d 64 Q 12 [v0] st I J) := (ge (A := (34, 12, 16, 4, 0)) rfl).trans (gic (p := b < a) inferInstance)
set_option maxRecDepth 10000 in
theorem g_64_12 : GO x d 64 Q 12 [v0] st I J = GO x d 64 Q 13 [v0] (.inl (1) :: st) I J := ge (A := (0, 13, 0, 0, 1)) rfl
set_option maxRecDepth 10000 in
theorem g_64_13 : GO x d 64 Q 13 [v0] st I J = GO x d 64 Q 17 [v0] st I J := ge (A := (35, 16, 17, 0, 0)) rfl
set_option maxRecDepth 10000 in
theorem g_64_16 : GO x d 64 Q 16 [v0] st I J = GO x d 64 Q 17 [v0] (.inl (0) :: st) I J := ge (A := (0, 17, 0, 0, 0)) rfl
set_option maxRecDepth 10000 in
theorem g_64_17 : GO x d 64 Q 17 [v0] [.inl a] I J = (ret01 a ∧ Q (some (.inl a)) I J) := ge (A := (56, 18, 0, 0, 0)) rfl
set_option maxRecDepth 10000 in
theorem e_64 : EX x (d + 1) 64 [.inl i0] I J Q = GO x d 64 Q 0 [some (.inl i0)] [] I J := ex_eq (Nat.le_of_ble_eq_true rfl) rfl (Nat.le_of_ble_eq_true rfl) rfl
set_option maxRecDepth 10000 in
theorem g_65_0 : GO x d 65 Q 0 [some (.inl a)] st I J = GO x d 65 Q 1 [some (.inl a)] (.inl a :: st) I J := ge (A := (1, 1, 0, 0, 0)) rfl
set_option maxRecDepth 10000 in
theorem g_65_1 : GO x d 65 Q 1 [v0] (.inl a :: st) I J = (inR a ∧ if a = 101 then GO x d 65 Q 68 [v0] st I J else if a = 102 then GO x d 65 Q 70 [v0] st I J else if a = 103 then GO x d 65 Q 74 [v0] st I J else if a = 104 then GO x d 65 Q 74 [v0] st I J else if a = 105 then GO x d 65 Q 66 [v0] st I J else if a = 106 then GO x d 65 Q 74 [v0] st I J else if a = 107 then GO x d 65 Q 74 [v0] st I J else if a = 108 then GO x d 65 Q 74 [v0] st I J else if a = 109 then GO x d 65 Q 74 [v0] st I J else if a = 110 then GO x d 65 Q 72 [v0] st I J else if a = 111 then GO x d 65 Q 74 [v0] st I J else if a = 112 then GO x d 65 Q 64 [v0] st I J else GO x d 65 Q 74 [v0] st I J) := (ge (A := (36, 64, 1, 0, 0)) rfl).trans (congrArg (And _) (propext (tswF_of (f := fun t => GO x d 65 Q t [v0] st I J) [68, 70, 74, 74, 66, 74, 74, 74, 74, 72, 74, 64] 101)))
set_option maxRecDepth 10000 in
theorem g_65_64 : GO x d 65 Q 64 [v0] st I J = GO x d 65 Q 65 [v0] (.inl (1) :: st) I J := ge (A := (0, 65, 0, 0, 1)) rfl
set_option maxRecDepth 10000 in
theorem g_65_65 : GO x d 65 Q 65 [v0] [.inl a] I J = Q (some (.inl a)) I J := ge (A := (55, 66, 0, 0, 0)) rfl
set_option maxRecDepth 10000 in
theorem g_65_66 : GO x d 65 Q 66 [v0] st I J = GO x d 65 Q 67 [v0] (.inl (2) :: st) I J := ge (A := (0, 67, 0, 0, 2)) rfl
set_option maxRecDepth 10000 in
theorem g_65_67 : GO x d 65 Q 67 [v0] [.inl a] I J = Q (some (.inl a)) I J := ge (A := (55, 68, 0, 0, 0)) rfl
set_option maxRecDepth 10000 in
theorem g_65_68 : GO x d 65 Q 68 [v0] st I J = GO x d 65 Q 69 [v0] (.inl (3) :: st) I J := ge (A := (0, 69, 0, 0, 3)) rfl
set_option maxRecDepth 10000 in
theorem g_65_69 : GO x d 65 Q 69 [v0] [.inl a] I J = Q (some (.inl a)) I J := ge (A := (55, 70, 0, 0, 0)) rfl
set_option maxRecDepth 10000 in
theorem g_65_70 : GO x d 65 Q 70 [v0] st I J = GO x d 65 Q 71 [v0] (.inl (4) :: st) I J := ge (A := (0, 71, 0, 0, 4)) rfl
set_option maxRecDepth 10000 in
theorem g_65_71 : GO x d 65 Q 71 [v0] [.inl a] I J = Q (some (.inl a)) I J := ge (A := (55, 72, 0, 0, 0)) rfl
set_option maxRecDepth 10000 in
theorem g_65_72 : GO x d 65 Q 72 [v0] st I J = GO x d 65 Q 73 [v0] (.inl (5) :: st) I J := ge (A := (0, 73, 0, 0, 5)) rfl
set_option maxRecDepth 10000 in
theorem g_65_73 : GO x d 65 Q 73 [v0] [.inl a] I J = Q (some (.inl a)) I J := ge (A := (55, 74, 0, 0, 0)) rfl
set_option maxRecDepth 10000 in
theorem g_65_74 : GO x d 65 Q 74 [v0] st I J = GO x d 65 Q 75 [v0] (.inl (0) :: st) I J := ge (A := (0, 75, 0, 0, 0)) rfl
set_option maxRecDepth 10000 in
theorem g_65_75 : GO x d 65 Q 75 [v0] [.inl a] I J = Q (some (.inl a)) I J := ge (A := (55, 76, 0, 0, 0)) rfl
set_option maxRecDepth 10000 in
theorem e_65 : EX x (d + 1) 65 [.inl i0] I J Q = GO x d 65 Q 0 [some (.inl i0)] [] I J := ex_eq (Nat.le_of_ble_eq_true rfl) rfl (Nat.le_of_ble_eq_true rfl) rfl
set_option maxRecDepth 10000 in
theorem g_67_0 : GO x d 67 Q 0 [some (.inr (.inr w)), v1, v2, v3, v4, v5, v6, v7] st I J = GO x d 67 Q 1 [some (.inr (.inr w)), v1, v2, v3, v4, v5, v6, v7] (.inr (.inr w) :: st) I J := ge (A := (2, 1, 0, 0, 0)) rfl
set_option maxRecDepth 10000 in
theorem g_67_1 : GO x d 67 Q 1 [v0, v1, v2, v3, some (.inl a), v5, v6, v7] st I J = GO x d 67 Q 3 [v0, v1, v2, v3, some (.inl a), v5, v6, v7] (.inl a :: st) I J := ge (A := (1, 3, 4, 0, 0)) rfl
set_option maxRecDepth 10000 in
theorem g_67_3 : GO x d 67 Q 3 [v0, v1, v2, v3, v4, v5, v6, v7] st I J = GO x d 67 Q 4 [v0, v1, v2, v3, v4, v5, v6, v7] (.inl (5) :: st) I J := ge (A := (0, 4, 0, 0, 5)) rfl
set_option maxRecDepth 10000 in
theorem g_67_4 : GO x d 67 Q 4 [v0, v1, v2, v3, v4, v5, v6, v7] (.inl b :: .inl a :: st) I J = (catS st ≤ 8 ∧ inR a ∧ inR b ∧ GO x d 67 Q 7 [v0, v1, v2, v3, v4, v5, v6, v7] (.inl (if b < a then b else a) :: st) I J) := ge (A := (66, 7, 0, 0, 0)) rfl
set_option maxRecDepth 10000 in
theorem g_67_7 : GO x d 67 Q 7 [v0, v1, v2, v3, v4, v5, v6, v7] (.inl a :: .inr (.inr (.inl r)) :: st) I J = (okO r 8 ∧ GO x d 67 Q 10 [v0, v1, v2, v3, v4, v5, v6, v7] st (up I r 2 a) J) := ge (A := (40, 10, 8, 2, 0)) rfl
set_option maxRecDepth 10000 in
theorem g_67_10 : GO x d 67 Q 10 [v0, v1, v2, v3, v4, v5, v6, v7] st I J = GO x d 67 Q 11 [v0, v1, v2, v3, v4, v5, v6, v7] (.inl (0) :: st) I J := ge (A := (0, 11, 0, 0, 0)) rfl
set_option maxRecDepth 10000 in
theorem g_67_11 : GO x d 67 Q 11 [v0, v1, v2, v3, v4, v5, v6, v7] (.inl a :: st) I J = (nlO (some v4) = true ∧ GO x d 67 Q 13 [v0, v1, v2, v3, v4, some (.inl a), v6, v7] st I J) := (ge (A := (4, 13, 5, 0, 0)) rfl).trans (gst (Nat.le_of_ble_eq_true rfl) _)
set_option maxRecDepth 10000 in
theorem g_67_13 : GO x d 67 Q 13 [v0, v1, v2, v3, v4, v5, v6, v7] st I J = GO x d 67 Q 14 [v0, v1, v2, v3, v4, v5, v6, v7] (.inl (0) :: st) I J := ge (A := (0, 14, 0, 0, 0)) rfl
set_option maxRecDepth 10000 in
theorem g_67_14 : GO x d 67 Q 14 [v0, v1, v2, v3, v4, v5, v6, v7] (.inl a :: st) I J = (nlO (some v5) = true ∧ GO x d 67 Q 16 [v0, v1, v2, v3, v4, v5, some (.inl a), v7] st I J) := (ge (A := (4, 16, 6, 0, 0)) rfl).trans (gst (Nat.le_of_ble_eq_true rfl) _)
set_option maxRecDepth 10000 in
theorem g_67_16 : GO x d 67 Q 16 [v0, v1, v2, v3, v4, v5, some (.inl a), v7] st I J = GO x d 67 Q 18 [v0, v1, v2, v3, v4, v5, some (.inl a), v7] (.inl a :: st) I J := ge (A := (1, 18, 6, 0, 0)) rfl
set_option maxRecDepth 10000 in
theorem g_67_18 : GO x d 67 Q 18 [some (.inr (.inr w)), v1, v2, v3, v4, v5, v6, v7] st I J = GO x d 67 Q 19 [some (.inr (.inr w)), v1, v2, v3, v4, v5, v6, v7] (.inr (.inr w) :: st) I J := ge (A := (2, 19, 0, 0, 0)) rfl
set_option maxRecDepth 10000 in
theorem g_67_19 : GO x d 67 Q 19 [v0, v1, v2, v3, v4, v5, v6, v7] (.inr (.inr (.inl r)) :: st) I J = (okO r 8 ∧ GO x d 67 Q 22 [v0, v1, v2, v3, v4, v5, v6, v7] (.inl (I r 2) :: st) I J) := ge (A := (37, 22, 8, 2, 0)) rfl
set_option maxRecDepth 10000 in
theorem g_67_22 : GO x d 67 Q 22 [v0, v1, v2, v3, v4, v5, v6, v7] (.inl b :: .inl a :: st) I J = (inR a ∧ inR b ∧ if a < b then GO x d 67 Q 25 [v0, v1, v2, v3, v4, v5, v6, v7] st I J else GO x d 67 Q 81 [v0, v1, v2, v3, v4, v5, v6, v7] st I J) := (ge (A := (34, 25, 81, 3, 0)) rfl).trans (ggec)
set_option maxRecDepth 10000 in
theorem g_67_25 : GO x d 67 Q 25 [v0, v1, some (.inr (.inr w)), v3, v4, v5, v6, v7] st I J = GO x d 67 Q 26 [v0, v1, some (.inr (.inr w)), v3, v4, v5, v6, v7] (.inr (.inr w) :: st) I J := ge (A := (2, 26, 2, 0, 0)) rfl
set_option maxRecDepth 10000 in
theorem g_67_26 : GO x d 67 Q 26 [v0, v1, v2, v3, v4, v5, v6, v7] (.inr (.inr (.inl r)) :: st) I J = (okF r 5 0 ∧ GO x d 67 Q 29 [v0, v1, v2, v3, v4, v5, v6, v7] (.inr (.inr (.inl (rfN r 0))) :: st) I J) := (ge (A := (39, 29, 5, 0, 0)) rfl).trans (gref (f := fun q => GO x d 67 Q 29 [v0, v1, v2, v3, v4, v5, v6, v7] (.inr (.inr (.inl q)) :: st) I J))
set_option maxRecDepth 10000 in
theorem g_67_29 : GO x d 67 Q 29 [v0, v1, v2, some (.inl a), v4, v5, v6, v7] st I J = GO x d 67 Q 30 [v0, v1, v2, some (.inl a), v4, v5, v6, v7] (.inl a :: st) I J := ge (A := (1, 30, 3, 0, 0)) rfl
set_option maxRecDepth 10000 in
theorem g_67_30 : GO x d 67 Q 30 [v0, v1, v2, v3, v4, v5, some (.inl a), v7] st I J = GO x d 67 Q 32 [v0, v1, v2, v3, v4, v5, some (.inl a), v7] (.inl a :: st) I J := ge (A := (1, 32, 6, 0, 0)) rfl
set_option maxRecDepth 10000 in
theorem g_67_32 : GO x d 67 Q 32 [v0, v1, v2, v3, v4, v5, v6, v7] (.inl b :: .inl a :: st) I J = GO x d 67 Q 33 [v0, v1, v2, v3, v4, v5, v6, v7] (.inl (a + b) :: st) I J := ge (A := (8, 33, 0, 0, 0)) rfl
set_option maxRecDepth 10000 in
theorem h_67_33 : GO x d 67 Q 33 [v0, v1, v2, v3, v4, v5, v6, v7] (.inl a :: .inr (.inr (.inr q)) :: st) I J = (q < 4 ∧ 0 ≤ a ∧ a < (roA x q).1 ∧ GO x d 67 Q 34 [v0, v1, v2, v3, v4, v5, v6, v7] (.inl ((roA x q).2 a.toNat) :: st) I J) := ge (A := (44, 34, 0, 0, 0)) rfl
set_option maxRecDepth 10000 in
theorem g_67_33 : GO x d 67 Q 33 [v0, v1, v2, v3, v4, v5, v6, v7] (.inl a :: .inr (.inr (.inl r)) :: st) I J = (okA r 20 ∧ 0 ≤ a ∧ a < lnN r ∧ GO x d 67 Q 34 [v0, v1, v2, v3, v4, v5, v6, v7] (.inl (I r a) :: st) I J) := ge (A := (44, 34, 0, 0, 0)) rfl
set_option maxRecDepth 10000 in
theorem g_67_34 : GO x d 67 Q 34 [v0, v1, v2, v3, v4, v5, v6, v7] (.inl a :: st) I J = (nlO (some v6) = true ∧ GO x d 67 Q 36 [v0, v1, v2, v3, v4, v5, v6, some (.inl a)] st I J) := (ge (A := (4, 36, 7, 0, 0)) rfl).trans (gst (Nat.le_of_ble_eq_true rfl) _)
set_option maxRecDepth 10000 in
theorem g_67_36 : GO x d 67 Q 36 [v0, some (.inr (.inr w)), v2, v3, v4, v5, v6, v7] st I J = GO x d 67 Q 37 [v0, some (.inr (.inr w)), v2, v3, v4, v5, v6, v7] (.inr (.inr w) :: st) I J := ge (A := (2, 37, 1, 0, 0)) rfl
set_option maxRecDepth 10000 in
theorem g_67_37 : GO x d 67 Q 37 [v0, v1, v2, v3, v4, v5, v6, some (.inl a)] st I J = GO x d 67 Q 39 [v0, v1, v2, v3, v4, v5, v6, some (.inl a)] (.inl a :: st) I J := ge (A := (1, 39, 7, 0, 0)) rfl
set_option maxRecDepth 10000 in
theorem g_67_39 : GO x d 67 Q 39 [v0, v1, v2, v3, v4, v5, v6, v7] [.inl i0, .inr (.inr (.inl r))] I J = (okO r 3 ∧ EX x d 17 [.inr (.inr (.inl r)), .inl i0] I J (fun r1 I1 J1 => GO x d 67 Q 42 [v0, v1, v2, v3, v4, v5, v6, v7] (r1.toList ++ []) I1 J1)) := (ge (A := (53, 42, 17, 1, 0)) rfl).trans (gtrue (Nat.le_of_ble_eq_true rfl))
set_option maxRecDepth 10000 in
theorem g_67_42 : GO x d 67 Q 42 [v0, v1, v2, v3, v4, v5, v6, v7] (.inl a :: st) I J = (inR a ∧ if a = 0 then GO x d 67 Q 55 [v0, v1, v2, v3, v4, v5, v6, v7] st I J else GO x d 67 Q 45 [v0, v1, v2, v3, v4, v5, v6, v7] st I J) := (ge (A := (33, 45, 55, 0, 0)) rfl).trans (gif (p := a = 0) inferInstance)
set_option maxRecDepth 10000 in
theorem g_67_45 : GO x d 67 Q 45 [v0, v1, v2, v3, v4, some (.inl a), v6, v7] st I J = GO x d 67 Q 47 [v0, v1, v2, v3, v4, some (.inl a), v6, v7] (.inl a :: st) I J := ge (A := (1, 47, 5, 0, 0)) rfl
set_option maxRecDepth 10000 in
theorem g_67_47 : GO x d 67 Q 47 [v0, v1, v2, v3, v4, v5, v6, some (.inl a)] st I J = GO x d 67 Q 49 [v0, v1, v2, v3, v4, v5, v6, some (.inl a)] (.inl a :: st) I J := ge (A := (1, 49, 7, 0, 0)) rfl
set_option maxRecDepth 10000 in
theorem g_67_49 : GO x d 67 Q 49 [v0, v1, v2, v3, v4, v5, v6, v7] [.inl i0, .inl i1] I J = EX x d 105 [.inl i1, .inl i0] I J (fun r1 I1 J1 => GO x d 67 Q 52 [v0, v1, v2, v3, v4, v5, v6, v7] (r1.toList ++ []) I1 J1) := (ge (A := (52, 52, 105, 2, 1)) rfl).trans (gtrue2 (Nat.le_of_ble_eq_true rfl) (Nat.le_of_ble_eq_true rfl))
set_option maxRecDepth 10000 in
theorem g_67_52 : GO x d 67 Q 52 [v0, v1, v2, v3, v4, v5, v6, v7] (.inl a :: st) I J = (inR a ∧ if a = 0 then GO x d 67 Q 57 [v0, v1, v2, v3, v4, v5, v6, v7] st I J else GO x d 67 Q 55 [v0, v1, v2, v3, v4, v5, v6, v7] st I J) := (ge (A := (33, 55, 57, 0, 0)) rfl).trans (gif (p := a = 0) inferInstance)
set_option maxRecDepth 10000 in
theorem g_67_55 : GO x d 67 Q 55 [v0, v1, v2, v3, v4, v5, v6, v7] st I J = GO x d 67 Q 56 [v0, v1, v2, v3, v4, v5, v6, v7] (.inl (0) :: st) I J := ge (A := (0, 56, 0, 0, 0)) rfl
set_option maxRecDepth 10000 in
theorem g_67_56 : GO x d 67 Q 56 [v0, v1, v2, v3, v4, v5, v6, v7] [.inl a] I J = (ret01 a ∧ Q (some (.inl a)) I J) := ge (A := (56, 57, 0, 0, 0)) rfl
set_option maxRecDepth 10000 in
theorem g_67_57 : GO x d 67 Q 57 [v0, v1, v2, v3, v4, some (.inl a), v6, v7] st I J = GO x d 67 Q 59 [v0, v1, v2, v3, v4, some (.inl a), v6, v7] (.inl a :: st) I J := ge (A := (1, 59, 5, 0, 0)) rfl
set_option maxRecDepth 10000 in
theorem g_67_59 : GO x d 67 Q 59 [v0, v1, v2, v3, v4, v5, v6, v7] st I J = GO x d 67 Q 60 [v0, v1, v2, v3, v4, v5, v6, v7] (.inl (1) :: st) I J := ge (A := (0, 60, 0, 0, 1)) rfl
set_option maxRecDepth 10000 in
theorem g_67_60 : GO x d 67 Q 60 [v0, v1, v2, v3, v4, v5, v6, some (.inl a)] st I J = GO x d 67 Q 62 [v0, v1, v2, v3, v4, v5, v6, some (.inl a)] (.inl a :: st) I J := ge (A := (1, 62, 7, 0, 0)) rfl
set_option maxRecDepth 10000 in
theorem g_67_62 : GO x d 67 Q 62 [v0, v1, v2, v3, v4, v5, v6, v7] (.inl b :: .inl a :: st) I J = GO x d 67 Q 63 [v0, v1, v2, v3, v4, v5, v6, v7] (.inl (shlI a b) :: st) I J := ge (A := (14, 63, 0, 0, 0)) rfl
set_option maxRecDepth 10000 in
theorem g_67_63 : GO x d 67 Q 63 [v0, v1, v2, v3, v4, v5, v6, v7] (.inl b :: .inl a :: st) I J = GO x d 67 Q 64 [v0, v1, v2, v3, v4, v5, v6, v7] (.inl (orI a b) :: st) I J := ge (A := (12, 64, 0, 0, 0)) rfl
set_option maxRecDepth 10000 in
theorem g_67_64 : GO x d 67 Q 64 [v0, v1, v2, v3, v4, v5, v6, v7] (.inl a :: st) I J = (nlO (some v4) = true ∧ GO x d 67 Q 66 [v0, v1, v2, v3, v4, some (.inl a), v6, v7] st I J) := (ge (A := (4, 66, 5, 0, 0)) rfl).trans (gst (Nat.le_of_ble_eq_true rfl) _)
set_option maxRecDepth 10000 in
theorem g_67_66 : GO x d 67 Q 66 [some (.inr (.inr w)), v1, v2, v3, v4, v5, v6, v7] st I J = GO x d 67 Q 67 [some (.inr (.inr w)), v1, v2, v3, v4, v5, v6, v7] (.inr (.inr w) :: st) I J := ge (A := (2, 67, 0, 0, 0)) rfl
set_option maxRecDepth 10000 in
theorem g_67_67 : GO x d 67 Q 67 [v0, v1, v2, v3, v4, v5, v6, v7] (.inr (.inr (.inl r)) :: st) I J = (okF r 8 1 ∧ GO x d 67 Q 70 [v0, v1, v2, v3, v4, v5, v6, v7] (.inr (.inr (.inl (rfN r 1))) :: st) I J) := (ge (A := (39, 70, 8, 1, 0)) rfl).trans (gref (f := fun q => GO x d 67 Q 70 [v0, v1, v2, v3, v4, v5, v6, v7] (.inr (.inr (.inl q)) :: st) I J))
set_option maxRecDepth 10000 in
theorem g_67_70 : GO x d 67 Q 70 [v0, v1, v2, v3, v4, v5, some (.inl a), v7] st I J = GO x d 67 Q 72 [v0, v1, v2, v3, v4, v5, some (.inl a), v7] (.inl a :: st) I J := ge (A := (1, 72, 6, 0, 0)) rfl
set_option maxRecDepth 10000 in
theorem g_67_72 : GO x d 67 Q 72 [v0, v1, v2, v3, v4, v5, v6, some (.inl a)] st I J = GO x d 67 Q 74 [v0, v1, v2, v3, v4, v5, v6, some (.inl a)] (.inl a :: st) I J := ge (A := (1, 74, 7, 0, 0)) rfl
set_option maxRecDepth 10000 in
theorem g_67_74 : GO x d 67 Q 74 [v0, v1, v2, v3, v4, v5, v6, v7] (.inl b :: .inl a :: .inr (.inr (.inl r)) :: st) I J = (okA r 20 ∧ 0 ≤ a ∧ a < lnN r ∧ GO x d 67 Q 75 [v0, v1, v2, v3, v4, v5, v6, v7] st (up I r a b) J) := ge (A := (45, 75, 0, 0, 0)) rfl
set_option maxRecDepth 10000 in
theorem g_67_75 : GO x d 67 Q 75 [v0, v1, v2, v3, v4, v5, some (.inl a), v7] st I J = (nlO (some v5) = true ∧ GO x d 67 Q 78 [v0, v1, v2, v3, v4, v5, some (.inl (a + (1))), v7] st I J) := ge (A := (7, 78, 6, 0, 1)) rfl
set_option maxRecDepth 10000 in
theorem g_67_78 : GO x d 67 Q 78 [v0, v1, v2, v3, v4, v5, v6, v7] st I J = GO x d 67 Q 16 [v0, v1, v2, v3, v4, v5, v6, v7] st I J := ge (A := (35, 81, 16, 0, 0)) rfl
set_option maxRecDepth 10000 in
theorem g_67_81 : GO x d 67 Q 81 [v0, v1, v2, v3, v4, v5, v6, v7] st I J = GO x d 67 Q 82 [v0, v1, v2, v3, v4, v5, v6, v7] (.inl (1) :: st) I J := ge (A := (0, 82, 0, 0, 1)) rfl
set_option maxRecDepth 10000 in
theorem g_67_82 : GO x d 67 Q 82 [v0, v1, v2, v3, v4, v5, v6, v7] [.inl a] I J = (ret01 a ∧ Q (some (.inl a)) I J) := ge (A := (56, 83, 0, 0, 0)) rfl
set_option maxRecDepth 10000 in
theorem e_67 : EX x (d + 1) 67 [.inr (.inr w0), .inr (.inr w1), .inr (.inr w3), .inl i0, .inl i1] I J Q = GO x d 67 Q 0 [some (.inr (.inr w0)), some (.inr (.inr w1)), some (.inr (.inr w3)), some (.inl i0), some (.inl i1), none, none, none] [] I J := ex_eq (Nat.le_of_ble_eq_true rfl) rfl (Nat.le_of_ble_eq_true rfl) rfl
set_option maxRecDepth 10000 in
theorem g_68_0 : GO x d 68 Q 0 [some (.inr (.inr w)), v1] st I J = GO x d 68 Q 1 [some (.inr (.inr w)), v1] (.inr (.inr w) :: st) I J := ge (A := (2, 1, 0, 0, 0)) rfl
set_option maxRecDepth 10000 in
theorem g_68_1 : GO x d 68 Q 1 [v0, v1] (.inr (.inr (.inl r)) :: st) I J = (okF r 8 0 ∧ GO x d 68 Q 4 [v0, v1] (.inr (.inr (.inl (rfN r 0))) :: st) I J) := (ge (A := (39, 4, 8, 0, 0)) rfl).trans (gref (f := fun q => GO x d 68 Q 4 [v0, v1] (.inr (.inr (.inl q)) :: st) I J))
set_option maxRecDepth 10000 in
theorem g_68_4 : GO x d 68 Q 4 [v0, v1] st I J = GO x d 68 Q 6 [v0, v1] (.inl (-1000000) :: st) I J := ge (A := (0, 6, 0, 0, -1000000)) rfl
set_option maxRecDepth 10000 in
theorem g_68_6 : GO x d 68 Q 6 [v0, v1] [.inl i0, .inr (.inr w0)] I J = EX x d 183 [.inr (.inr w0), .inl i0] I J (fun r1 I1 J1 => GO x d 68 Q 9 [v0, v1] (r1.toList ++ []) I1 J1) := (ge (A := (52, 9, 183, 2, 0)) rfl).trans (gtrue2 (Nat.le_of_ble_eq_true rfl) (Nat.le_of_ble_eq_true rfl))
set_option maxRecDepth 10000 in
theorem g_68_9 : GO x d 68 Q 9 [some (.inr (.inr w)), v1] st I J = GO x d 68 Q 10 [some (.inr (.inr w)), v1] (.inr (.inr w) :: st) I J := ge (A := (2, 10, 0, 0, 0)) rfl
set_option maxRecDepth 10000 in
theorem g_68_10 : GO x d 68 Q 10 [v0, some (.inr (.inr w))] st I J = GO x d 68 Q 11 [v0, some (.inr (.inr w))] (.inr (.inr w) :: st) I J := ge (A := (2, 11, 1, 0, 0)) rfl
set_option maxRecDepth 10000 in
theorem g_68_11 : GO x d 68 Q 11 [v0, v1] st I J = GO x d 68 Q 12 [v0, v1] (.inl (0) :: st) I J := ge (A := (0, 12, 0, 0, 0)) rfl
set_option maxRecDepth 10000 in
theorem g_68_12 : GO x d 68 Q 12 [v0, v1] st I J = GO x d 68 Q 13 [v0, v1] (.inl (0) :: st) I J := ge (A := (0, 13, 0, 0, 0)) rfl
set_option maxRecDepth 10000 in
theorem g_68_13 : GO x d 68 Q 13 [v0, v1] st I J = GO x d 68 Q 14 [v0, v1] (.inl (-1) :: st) I J := ge (A := (0, 14, 0, 0, -1)) rfl
set_option maxRecDepth 10000 in
theorem g_68_14 : GO x d 68 Q 14 [v0, v1] [.inl i0, .inl i1, .inl i2, .inr (.inr w0), .inr (.inr w1)] I J = EX x d 69 [.inr (.inr w1), .inr (.inr w0), .inl i2, .inl i1, .inl i0] I J (fun r1 I1 J1 => GO x d 68 Q 17 [v0, v1] (r1.toList ++ []) I1 J1) := (ge (A := (52, 17, 69, 5, 0)) rfl).trans (gtrue2 (Nat.le_of_ble_eq_true rfl) (Nat.le_of_ble_eq_true rfl))
set_option maxRecDepth 10000 in
theorem g_68_17 : GO x d 68 Q 17 [v0, v1] [.inl a] I J = Q (some (.inl a)) I J := ge (A := (55, 18, 0, 0, 0)) rfl
set_option maxRecDepth 10000 in
theorem e_68 : EX x (d + 1) 68 [.inr (.inr w0), .inr (.inr w1)] I J Q = GO x d 68 Q 0 [some (.inr (.inr w0)), some (.inr (.inr w1))] [] I J := ex_eq (Nat.le_of_ble_eq_true rfl) rfl (Nat.le_of_ble_eq_true rfl) rfl
set_option maxRecDepth 10000 in
theorem g_69_0 : GO x d 69 Q 0 [v0, v1, some (.inl a), v3, v4, v5, v6, v7, v8] st I J = GO x d 69 Q 1 [v0, v1, some (.inl a), v3, v4, v5, v6, v7, v8] (.inl a :: st) I J := ge (A := (1, 1, 2, 0, 0)) rfl
set_option maxRecDepth 10000 in
theorem g_69_1 : GO x d 69 Q 1 [some (.inr (.inr w)), v1, v2, v3, v4, v5, v6, v7, v8] st I J = GO x d 69 Q 2 [some (.inr (.inr w)), v1, v2, v3, v4, v5, v6, v7, v8] (.inr (.inr w) :: st) I J := ge (A := (2, 2, 0, 0, 0)) rfl
set_option maxRecDepth 10000 in
theorem g_69_2 : GO x d 69 Q 2 [v0, v1, v2, v3, v4, v5, v6, v7, v8] (.inr (.inr (.inl r)) :: st) I J = (okO r 8 ∧ GO x d 69 Q 5 [v0, v1, v2, v3, v4, v5, v6, v7, v8] (.inl (I r 2) :: st) I J) := ge (A := (37, 5, 8, 2, 0)) rfl
set_option maxRecDepth 10000 in
theorem g_69_5 : GO x d 69 Q 5 [v0, v1, v2, v3, v4, v5, v6, v7, v8] (.inl b :: .inl a :: st) I J = (inR a ∧ inR b ∧ if a < b then GO x d 69 Q 8 [v0, v1, v2, v3, v4, v5, v6, v7, v8] st I J else GO x d 69 Q 13 [v0, v1, v2, v3, v4, v5, v6, v7, v8] st I J) := (ge (A := (34, 8, 13, 3, 0)) rfl).trans (ggec)
set_option maxRecDepth 10000 in
theorem g_69_8 : GO x d 69 Q 8 [v0, v1, some (.inl a), v3, v4, v5, v6, v7, v8] st I J = GO x d 69 Q 9 [v0, v1, some (.inl a), v3, v4, v5, v6, v7, v8] (.inl a :: st) I J := ge (A := (1, 9, 2, 0, 0)) rfl
set_option maxRecDepth 10000 in
theorem g_69_9 : GO x d 69 Q 9 [v0, v1, v2, v3, v4, v5, v6, v7, v8] st I J = GO x d 69 Q 10 [v0, v1, v2, v3, v4, v5, v6, v7, v8] (.inl (5) :: st) I J := ge (A := (0, 10, 0, 0, 5)) rfl
set_option maxRecDepth 10000 in
theorem g_69_10 : GO x d 69 Q 10 [v0, v1, v2, v3, v4, v5, v6, v7, v8] (.inl b :: .inl a :: st) I J = (inR a ∧ inR b ∧ if a < b then GO x d 69 Q 15 [v0, v1, v2, v3, v4, v5, v6, v7, v8] st I J else GO x d 69 Q 13 [v0, v1, v2, v3, v4, v5, v6, v7, v8] st I J) := (ge (A := (34, 13, 15, 2, 0)) rfl).trans (gic (p := a < b) inferInstance)
set_option maxRecDepth 10000 in
theorem g_69_13 : GO x d 69 Q 13 [v0, v1, v2, v3, v4, v5, v6, v7, v8] st I J = GO x d 69 Q 14 [v0, v1, v2, v3, v4, v5, v6, v7, v8] (.inl (1) :: st) I J := ge (A := (0, 14, 0, 0, 1)) rfl
set_option maxRecDepth 10000 in
theorem g_69_14 : GO x d 69 Q 14 [v0, v1, v2, v3, v4, v5, v6, v7, v8] [.inl a] I J = Q (some (.inl a)) I J := ge (A := (55, 15, 0, 0, 0)) rfl
set_option maxRecDepth 10000 in
theorem g_69_15 : GO x d 69 Q 15 [v0, some (.inr (.inr w)), v2, v3, v4, v5, v6, v7, v8] st I J = GO x d 69 Q 16 [v0, some (.inr (.inr w)), v2, v3, v4, v5, v6, v7, v8] (.inr (.inr w) :: st) I J := ge (A := (2, 16, 1, 0, 0)) rfl
set_option maxRecDepth 10000 in
theorem g_69_16 : GO x d 69 Q 16 [some (.inr (.inr w)), v1, v2, v3, v4, v5, v6, v7, v8] st I J = GO x d 69 Q 17 [some (.inr (.inr w)), v1, v2, v3, v4, v5, v6, v7, v8] (.inr (.inr w) :: st) I J := ge (A := (2, 17, 0, 0, 0)) rfl
set_option maxRecDepth 10000 in
theorem g_69_17 : GO x d 69 Q 17 [v0, v1, v2, v3, v4, v5, v6, v7, v8] (.inr (.inr (.inl r)) :: st) I J = (okF r 8 0 ∧ GO x d 69 Q 20 [v0, v1, v2, v3, v4, v5, v6, v7, v8] (.inr (.inr (.inl (rfN r 0))) :: st) I J) := (ge (A := (39, 20, 8, 0, 0)) rfl).trans (gref (f := fun q => GO x d 69 Q 20 [v0, v1, v2, v3, v4, v5, v6, v7, v8] (.inr (.inr (.inl q)) :: st) I J))
set_option maxRecDepth 10000 in
theorem g_69_20 : GO x d 69 Q 20 [v0, v1, v2, some (.inl a), v4, v5, v6, v7, v8] st I J = GO x d 69 Q 21 [v0, v1, v2, some (.inl a), v4, v5, v6, v7, v8] (.inl a :: st) I J := ge (A := (1, 21, 3, 0, 0)) rfl
set_option maxRecDepth 10000 in
theorem g_69_21 : GO x d 69 Q 21 [v0, v1, v2, v3, some (.inl a), v5, v6, v7, v8] st I J = GO x d 69 Q 23 [v0, v1, v2, v3, some (.inl a), v5, v6, v7, v8] (.inl a :: st) I J := ge (A := (1, 23, 4, 0, 0)) rfl
set_option maxRecDepth 10000 in
theorem g_69_23 : GO x d 69 Q 23 [v0, v1, v2, v3, v4, v5, v6, v7, v8] [.inl i0, .inl i1, .inr (.inr w0), .inr (.inr (.inl r))] I J = (okO r 3 ∧ EX x d 22 [.inr (.inr (.inl r)), .inr (.inr w0), .inl i1, .inl i0] I J (fun r1 I1 J1 => GO x d 69 Q 26 [v0, v1, v2, v3, v4, v5, v6, v7, v8] (r1.toList ++ []) I1 J1)) := (ge (A := (53, 26, 22, 3, 0)) rfl).trans (gtrue (Nat.le_of_ble_eq_true rfl))
set_option maxRecDepth 10000 in
theorem g_69_26 : GO x d 69 Q 26 [v0, some (.inr (.inr w)), v2, v3, v4, v5, v6, v7, v8] st I J = GO x d 69 Q 27 [v0, some (.inr (.inr w)), v2, v3, v4, v5, v6, v7, v8] (.inr (.inr w) :: st) I J := ge (A := (2, 27, 1, 0, 0)) rfl
set_option maxRecDepth 10000 in
theorem g_69_27 : GO x d 69 Q 27 [v0, v1, v2, v3, v4, v5, v6, v7, v8] (.inr (.inr (.inl r)) :: st) I J = (okF r 3 9 ∧ GO x d 69 Q 30 [v0, v1, v2, v3, v4, v5, v6, v7, v8] (.inr (.inr (.inl (rfN r 9))) :: st) I J) := (ge (A := (39, 30, 3, 9, 0)) rfl).trans (gref (f := fun q => GO x d 69 Q 30 [v0, v1, v2, v3, v4, v5, v6, v7, v8] (.inr (.inr (.inl q)) :: st) I J))
set_option maxRecDepth 10000 in
theorem g_69_30 : GO x d 69 Q 30 [some (.inr (.inr w)), v1, v2, v3, v4, v5, v6, v7, v8] st I J = GO x d 69 Q 31 [some (.inr (.inr w)), v1, v2, v3, v4, v5, v6, v7, v8] (.inr (.inr w) :: st) I J := ge (A := (2, 31, 0, 0, 0)) rfl
set_option maxRecDepth 10000 in
theorem g_69_31 : GO x d 69 Q 31 [v0, v1, v2, v3, v4, v5, v6, v7, v8] (.inr (.inr (.inl r)) :: st) I J = (okF r 8 1 ∧ GO x d 69 Q 34 [v0, v1, v2, v3, v4, v5, v6, v7, v8] (.inr (.inr (.inl (rfN r 1))) :: st) I J) := (ge (A := (39, 34, 8, 1, 0)) rfl).trans (gref (f := fun q => GO x d 69 Q 34 [v0, v1, v2, v3, v4, v5, v6, v7, v8] (.inr (.inr (.inl q)) :: st) I J))
set_option maxRecDepth 10000 in
theorem g_69_34 : GO x d 69 Q 34 [v0, v1, some (.inl a), v3, v4, v5, v6, v7, v8] st I J = GO x d 69 Q 35 [v0, v1, some (.inl a), v3, v4, v5, v6, v7, v8] (.inl a :: st) I J := ge (A := (1, 35, 2, 0, 0)) rfl
set_option maxRecDepth 10000 in
theorem h_69_35 : GO x d 69 Q 35 [v0, v1, v2, v3, v4, v5, v6, v7, v8] (.inl a :: .inr (.inr (.inr q)) :: st) I J = (q < 4 ∧ 0 ≤ a ∧ a < (roA x q).1 ∧ GO x d 69 Q 36 [v0, v1, v2, v3, v4, v5, v6, v7, v8] (.inl ((roA x q).2 a.toNat) :: st) I J) := ge (A := (44, 36, 0, 0, 0)) rfl
set_option maxRecDepth 10000 in
theorem g_69_35 : GO x d 69 Q 35 [v0, v1, v2, v3, v4, v5, v6, v7, v8] (.inl a :: .inr (.inr (.inl r)) :: st) I J = (okA r 20 ∧ 0 ≤ a ∧ a < lnN r ∧ GO x d 69 Q 36 [v0, v1, v2, v3, v4, v5, v6, v7, v8] (.inl (I r a) :: st) I J) := ge (A := (44, 36, 0, 0, 0)) rfl
set_option maxRecDepth 10000 in
theorem h_69_36 : GO x d 69 Q 36 [v0, v1, v2, v3, v4, v5, v6, v7, v8] (.inl a :: .inr (.inr (.inr q)) :: st) I J = (q < 4 ∧ 0 ≤ a ∧ a < (roA x q).1 ∧ GO x d 69 Q 37 [v0, v1, v2, v3, v4, v5, v6, v7, v8] (.inl ((roA x q).2 a.toNat) :: st) I J) := ge (A := (44, 37, 0, 0, 0)) rfl
set_option maxRecDepth 10000 in
theorem g_69_36 : GO x d 69 Q 36 [v0, v1, v2, v3, v4, v5, v6, v7, v8] (.inl a :: .inr (.inr (.inl r)) :: st) I J = (okA r 20 ∧ 0 ≤ a ∧ a < lnN r ∧ GO x d 69 Q 37 [v0, v1, v2, v3, v4, v5, v6, v7, v8] (.inl (I r a) :: st) I J) := ge (A := (44, 37, 0, 0, 0)) rfl
set_option maxRecDepth 10000 in
theorem g_69_37 : GO x d 69 Q 37 [v0, v1, v2, v3, v4, v5, v6, v7, v8] (.inl b :: .inl a :: st) I J = GO x d 69 Q 38 [v0, v1, v2, v3, v4, v5, v6, v7, v8] (.inl (andI a b) :: st) I J := ge (A := (11, 38, 0, 0, 0)) rfl
set_option maxRecDepth 10000 in
theorem g_69_38 : GO x d 69 Q 38 [v0, v1, v2, v3, v4, v5, v6, v7, v8] (.inl a :: st) I J = (nlO (some v4) = true ∧ GO x d 69 Q 40 [v0, v1, v2, v3, v4, some (.inl a), v6, v7, v8] st I J) := (ge (A := (4, 40, 5, 0, 0)) rfl).trans (gst (Nat.le_of_ble_eq_true rfl) _)
set_option maxRecDepth 10000 in
theorem g_69_40 : GO x d 69 Q 40 [v0, v1, some (.inl a), v3, v4, v5, v6, v7, v8] st I J = GO x d 69 Q 41 [v0, v1, some (.inl a), v3, v4, v5, v6, v7, v8] (.inl a :: st) I J := ge (A := (1, 41, 2, 0, 0)) rfl
set_option maxRecDepth 10000 in
theorem g_69_41 : GO x d 69 Q 41 [some (.inr (.inr w)), v1, v2, v3, v4, v5, v6, v7, v8] st I J = GO x d 69 Q 42 [some (.inr (.inr w)), v1, v2, v3, v4, v5, v6, v7, v8] (.inr (.inr w) :: st) I J := ge (A := (2, 42, 0, 0, 0)) rfl
set_option maxRecDepth 10000 in
theorem g_69_42 : GO x d 69 Q 42 [v0, v1, v2, v3, v4, v5, v6, v7, v8] (.inr (.inr (.inl r)) :: st) I J = (okO r 8 ∧ GO x d 69 Q 45 [v0, v1, v2, v3, v4, v5, v6, v7, v8] (.inl (I r 2) :: st) I J) := ge (A := (37, 45, 8, 2, 0)) rfl
set_option maxRecDepth 10000 in
theorem g_69_45 : GO x d 69 Q 45 [v0, v1, v2, v3, v4, v5, v6, v7, v8] st I J = GO x d 69 Q 46 [v0, v1, v2, v3, v4, v5, v6, v7, v8] (.inl (1) :: st) I J := ge (A := (0, 46, 0, 0, 1)) rfl
set_option maxRecDepth 10000 in
theorem g_69_46 : GO x d 69 Q 46 [v0, v1, v2, v3, v4, v5, v6, v7, v8] (.inl b :: .inl a :: st) I J = GO x d 69 Q 47 [v0, v1, v2, v3, v4, v5, v6, v7, v8] (.inl (a - b) :: st) I J := ge (A := (9, 47, 0, 0, 0)) rfl
set_option maxRecDepth 10000 in
theorem g_69_47 : GO x d 69 Q 47 [v0, v1, v2, v3, v4, v5, v6, v7, v8] (.inl b :: .inl a :: st) I J = (inR a ∧ inR b ∧ if a = b then GO x d 69 Q 50 [v0, v1, v2, v3, v4, v5, v6, v7, v8] st I J else GO x d 69 Q 56 [v0, v1, v2, v3, v4, v5, v6, v7, v8] st I J) := (ge (A := (34, 50, 56, 1, 0)) rfl).trans (gicn (p := a = b) inferInstance)
set_option maxRecDepth 10000 in
theorem g_69_50 : GO x d 69 Q 50 [v0, v1, v2, v3, v4, some (.inl a), v6, v7, v8] st I J = GO x d 69 Q 52 [v0, v1, v2, v3, v4, some (.inl a), v6, v7, v8] (.inl a :: st) I J := ge (A := (1, 52, 5, 0, 0)) rfl
set_option maxRecDepth 10000 in
theorem g_69_52 : GO x d 69 Q 52 [v0, v1, v2, v3, v4, v5, v6, v7, v8] [.inl i0] I J = EX x d 182 [.inl i0] I J (fun r1 I1 J1 => GO x d 69 Q 55 [v0, v1, v2, v3, v4, v5, v6, v7, v8] (r1.toList ++ []) I1 J1) := (ge (A := (52, 55, 182, 1, 0)) rfl).trans (gtrue2 (Nat.le_of_ble_eq_true rfl) (Nat.le_of_ble_eq_true rfl))
set_option maxRecDepth 10000 in
theorem g_69_55 : GO x d 69 Q 55 [v0, v1, v2, v3, v4, v5, v6, v7, v8] [.inl a] I J = Q (some (.inl a)) I J := ge (A := (55, 56, 0, 0, 0)) rfl
set_option maxRecDepth 10000 in
theorem g_69_56 : GO x d 69 Q 56 [v0, v1, v2, v3, v4, v5, v6, v7, v8] st I J = GO x d 69 Q 57 [v0, v1, v2, v3, v4, v5, v6, v7, v8] (.inl (0) :: st) I J := ge (A := (0, 57, 0, 0, 0)) rfl
set_option maxRecDepth 10000 in
theorem g_69_57 : GO x d 69 Q 57 [v0, v1, v2, v3, v4, v5, v6, v7, v8] (.inl a :: st) I J = (nlO (some v5) = true ∧ GO x d 69 Q 59 [v0, v1, v2, v3, v4, v5, some (.inl a), v7, v8] st I J) := (ge (A := (4, 59, 6, 0, 0)) rfl).trans (gst (Nat.le_of_ble_eq_true rfl) _)
set_option maxRecDepth 10000 in
theorem g_69_59 : GO x d 69 Q 59 [v0, v1, v2, v3, v4, v5, v6, v7, v8] st I J = GO x d 69 Q 60 [v0, v1, v2, v3, v4, v5, v6, v7, v8] (.inl (0) :: st) I J := ge (A := (0, 60, 0, 0, 0)) rfl
set_option maxRecDepth 10000 in
theorem g_69_60 : GO x d 69 Q 60 [v0, v1, v2, v3, v4, v5, v6, v7, v8] (.inl a :: st) I J = (nlO (some v6) = true ∧ GO x d 69 Q 62 [v0, v1, v2, v3, v4, v5, v6, some (.inl a), v8] st I J) := (ge (A := (4, 62, 7, 0, 0)) rfl).trans (gst (Nat.le_of_ble_eq_true rfl) _)
set_option maxRecDepth 10000 in
theorem g_69_62 : GO x d 69 Q 62 [v0, v1, v2, v3, v4, v5, v6, some (.inl a), v8] st I J = GO x d 69 Q 64 [v0, v1, v2, v3, v4, v5, v6, some (.inl a), v8] (.inl a :: st) I J := ge (A := (1, 64, 7, 0, 0)) rfl
set_option maxRecDepth 10000 in
theorem g_69_64 : GO x d 69 Q 64 [v0, some (.inr (.inr w)), v2, v3, v4, v5, v6, v7, v8] st I J = GO x d 69 Q 65 [v0, some (.inr (.inr w)), v2, v3, v4, v5, v6, v7, v8] (.inr (.inr w) :: st) I J := ge (A := (2, 65, 1, 0, 0)) rfl
set_option maxRecDepth 10000 in
theorem g_69_65 : GO x d 69 Q 65 [v0, v1, v2, v3, v4, v5, v6, v7, v8] (.inr (.inr (.inl r)) :: st) I J = (okO r 3 ∧ GO x d 69 Q 68 [v0, v1, v2, v3, v4, v5, v6, v7, v8] (.inl (I r 3) :: st) I J) := ge (A := (37, 68, 3, 3, 0)) rfl
set_option maxRecDepth 10000 in
theorem g_69_68 : GO x d 69 Q 68 [v0, v1, v2, v3, v4, v5, v6, v7, v8] (.inl b :: .inl a :: st) I J = (inR a ∧ inR b ∧ if a < b then GO x d 69 Q 71 [v0, v1, v2, v3, v4, v5, v6, v7, v8] st I J else GO x d 69 Q 141 [v0, v1, v2, v3, v4, v5, v6, v7, v8] st I J) := (ge (A := (34, 71, 141, 3, 0)) rfl).trans (ggec)
set_option maxRecDepth 10000 in
theorem g_69_71 : GO x d 69 Q 71 [v0, v1, v2, v3, v4, some (.inl a), v6, v7, v8] st I J = GO x d 69 Q 73 [v0, v1, v2, v3, v4, some (.inl a), v6, v7, v8] (.inl a :: st) I J := ge (A := (1, 73, 5, 0, 0)) rfl
set_option maxRecDepth 10000 in
theorem g_69_73 : GO x d 69 Q 73 [v0, v1, v2, v3, v4, v5, v6, some (.inl a), v8] st I J = GO x d 69 Q 75 [v0, v1, v2, v3, v4, v5, v6, some (.inl a), v8] (.inl a :: st) I J := ge (A := (1, 75, 7, 0, 0)) rfl
set_option maxRecDepth 10000 in
theorem g_69_75 : GO x d 69 Q 75 [v0, v1, v2, v3, v4, v5, v6, v7, v8] [.inl i0, .inl i1] I J = EX x d 105 [.inl i1, .inl i0] I J (fun r1 I1 J1 => GO x d 69 Q 78 [v0, v1, v2, v3, v4, v5, v6, v7, v8] (r1.toList ++ []) I1 J1) := (ge (A := (52, 78, 105, 2, 1)) rfl).trans (gtrue2 (Nat.le_of_ble_eq_true rfl) (Nat.le_of_ble_eq_true rfl))
set_option maxRecDepth 10000 in
theorem g_69_78 : GO x d 69 Q 78 [v0, v1, v2, v3, v4, v5, v6, v7, v8] (.inl a :: st) I J = (inR a ∧ if a = 0 then GO x d 69 Q 135 [v0, v1, v2, v3, v4, v5, v6, v7, v8] st I J else GO x d 69 Q 81 [v0, v1, v2, v3, v4, v5, v6, v7, v8] st I J) := (ge (A := (33, 81, 135, 0, 0)) rfl).trans (gif (p := a = 0) inferInstance)
set_option maxRecDepth 10000 in
theorem g_69_81 : GO x d 69 Q 81 [some (.inr (.inr w)), v1, v2, v3, v4, v5, v6, v7, v8] st I J = GO x d 69 Q 82 [some (.inr (.inr w)), v1, v2, v3, v4, v5, v6, v7, v8] (.inr (.inr w) :: st) I J := ge (A := (2, 82, 0, 0, 0)) rfl
set_option maxRecDepth 10000 in
theorem g_69_82 : GO x d 69 Q 82 [v0, v1, v2, v3, v4, v5, v6, v7, v8] (.inr (.inr (.inl r)) :: st) I J = (okF r 8 0 ∧ GO x d 69 Q 85 [v0, v1, v2, v3, v4, v5, v6, v7, v8] (.inr (.inr (.inl (rfN r 0))) :: st) I J) := (ge (A := (39, 85, 8, 0, 0)) rfl).trans (gref (f := fun q => GO x d 69 Q 85 [v0, v1, v2, v3, v4, v5, v6, v7, v8] (.inr (.inr (.inl q)) :: st) I J))
set_option maxRecDepth 10000 in
theorem g_69_85 : GO x d 69 Q 85 [v0, v1, v2, v3, v4, v5, v6, some (.inl a), v8] st I J = GO x d 69 Q 87 [v0, v1, v2, v3, v4, v5, v6, some (.inl a), v8] (.inl a :: st) I J := ge (A := (1, 87, 7, 0, 0)) rfl
set_option maxRecDepth 10000 in
theorem h_69_87 : GO x d 69 Q 87 [v0, v1, v2, v3, v4, v5, v6, v7, v8] (.inl a :: .inr (.inr (.inr q)) :: st) I J = (q < 4 ∧ 0 ≤ a ∧ a < (roA x q).1 ∧ GO x d 69 Q 88 [v0, v1, v2, v3, v4, v5, v6, v7, v8] (.inl ((roA x q).2 a.toNat) :: st) I J) := ge (A := (44, 88, 0, 0, 0)) rfl
set_option maxRecDepth 10000 in
theorem g_69_87 : GO x d 69 Q 87 [v0, v1, v2, v3, v4, v5, v6, v7, v8] (.inl a :: .inr (.inr (.inl r)) :: st) I J = (okA r 20 ∧ 0 ≤ a ∧ a < lnN r ∧ GO x d 69 Q 88 [v0, v1, v2, v3, v4, v5, v6, v7, v8] (.inl (I r a) :: st) I J) := ge (A := (44, 88, 0, 0, 0)) rfl
set_option maxRecDepth 10000 in
theorem g_69_88 : GO x d 69 Q 88 [v0, v1, v2, v3, v4, v5, v6, v7, v8] (.inl a :: st) I J = (nlO (some v7) = true ∧ GO x d 69 Q 90 [v0, v1, v2, v3, v4, v5, v6, v7, some (.inl a)] st I J) := (ge (A := (4, 90, 8, 0, 0)) rfl).trans (gst (Nat.le_of_ble_eq_true rfl) _)
set_option maxRecDepth 10000 in
theorem g_69_90 : GO x d 69 Q 90 [some (.inr (.inr w)), v1, v2, v3, v4, v5, v6, v7, v8] st I J = GO x d 69 Q 91 [some (.inr (.inr w)), v1, v2, v3, v4, v5, v6, v7, v8] (.inr (.inr w) :: st) I J := ge (A := (2, 91, 0, 0, 0)) rfl
set_option maxRecDepth 10000 in
theorem g_69_91 : GO x d 69 Q 91 [v0, v1, v2, v3, v4, v5, v6, v7, v8] (.inr (.inr (.inl r)) :: st) I J = (okF r 8 0 ∧ GO x d 69 Q 94 [v0, v1, v2, v3, v4, v5, v6, v7, v8] (.inr (.inr (.inl (rfN r 0))) :: st) I J) := (ge (A := (39, 94, 8, 0, 0)) rfl).trans (gref (f := fun q => GO x d 69 Q 94 [v0, v1, v2, v3, v4, v5, v6, v7, v8] (.inr (.inr (.inl q)) :: st) I J))
set_option maxRecDepth 10000 in
theorem g_69_94 : GO x d 69 Q 94 [v0, v1, v2, v3, v4, v5, v6, some (.inl a), v8] st I J = GO x d 69 Q 96 [v0, v1, v2, v3, v4, v5, v6, some (.inl a), v8] (.inl a :: st) I J := ge (A := (1, 96, 7, 0, 0)) rfl
set_option maxRecDepth 10000 in
theorem g_69_96 : GO x d 69 Q 96 [v0, v1, v2, some (.inl a), v4, v5, v6, v7, v8] st I J = GO x d 69 Q 97 [v0, v1, v2, some (.inl a), v4, v5, v6, v7, v8] (.inl a :: st) I J := ge (A := (1, 97, 3, 0, 0)) rfl
set_option maxRecDepth 10000 in
theorem g_69_97 : GO x d 69 Q 97 [v0, v1, v2, v3, v4, v5, v6, v7, v8] (.inl b :: .inl a :: .inr (.inr (.inl r)) :: st) I J = (okA r 20 ∧ 0 ≤ a ∧ a < lnN r ∧ GO x d 69 Q 98 [v0, v1, v2, v3, v4, v5, v6, v7, v8] st (up I r a b) J) := ge (A := (45, 98, 0, 0, 0)) rfl
set_option maxRecDepth 10000 in
theorem g_69_98 : GO x d 69 Q 98 [v0, v1, v2, v3, v4, v5, some (.inl a), v7, v8] st I J = GO x d 69 Q 100 [v0, v1, v2, v3, v4, v5, some (.inl a), v7, v8] (.inl a :: st) I J := ge (A := (1, 100, 6, 0, 0)) rfl
set_option maxRecDepth 10000 in
theorem g_69_100 : GO x d 69 Q 100 [some (.inr (.inr w)), v1, v2, v3, v4, v5, v6, v7, v8] st I J = GO x d 69 Q 101 [some (.inr (.inr w)), v1, v2, v3, v4, v5, v6, v7, v8] (.inr (.inr w) :: st) I J := ge (A := (2, 101, 0, 0, 0)) rfl
set_option maxRecDepth 10000 in
theorem g_69_101 : GO x d 69 Q 101 [v0, some (.inr (.inr w)), v2, v3, v4, v5, v6, v7, v8] st I J = GO x d 69 Q 102 [v0, some (.inr (.inr w)), v2, v3, v4, v5, v6, v7, v8] (.inr (.inr w) :: st) I J := ge (A := (2, 102, 1, 0, 0)) rfl
set_option maxRecDepth 10000 in
theorem g_69_102 : GO x d 69 Q 102 [v0, v1, some (.inl a), v3, v4, v5, v6, v7, v8] st I J = GO x d 69 Q 103 [v0, v1, some (.inl a), v3, v4, v5, v6, v7, v8] (.inl a :: st) I J := ge (A := (1, 103, 2, 0, 0)) rfl
set_option maxRecDepth 10000 in
theorem g_69_103 : GO x d 69 Q 103 [v0, v1, v2, v3, v4, v5, v6, v7, v8] st I J = GO x d 69 Q 104 [v0, v1, v2, v3, v4, v5, v6, v7, v8] (.inl (1) :: st) I J := ge (A := (0, 104, 0, 0, 1)) rfl
set_option maxRecDepth 10000 in
theorem g_69_104 : GO x d 69 Q 104 [v0, v1, v2, v3, v4, v5, v6, v7, v8] (.inl b :: .inl a :: st) I J = GO x d 69 Q 105 [v0, v1, v2, v3, v4, v5, v6, v7, v8] (.inl (a + b) :: st) I J := ge (A := (8, 105, 0, 0, 0)) rfl
set_option maxRecDepth 10000 in
theorem g_69_105 : GO x d 69 Q 105 [v0, v1, v2, some (.inl a), v4, v5, v6, v7, v8] st I J = GO x d 69 Q 106 [v0, v1, v2, some (.inl a), v4, v5, v6, v7, v8] (.inl a :: st) I J := ge (A := (1, 106, 3, 0, 0)) rfl
set_option maxRecDepth 10000 in
theorem g_69_106 : GO x d 69 Q 106 [v0, some (.inr (.inr w)), v2, v3, v4, v5, v6, v7, v8] st I J = GO x d 69 Q 107 [v0, some (.inr (.inr w)), v2, v3, v4, v5, v6, v7, v8] (.inr (.inr w) :: st) I J := ge (A := (2, 107, 1, 0, 0)) rfl
set_option maxRecDepth 10000 in
theorem g_69_107 : GO x d 69 Q 107 [v0, v1, v2, v3, v4, v5, v6, some (.inl a), v8] st I J = GO x d 69 Q 109 [v0, v1, v2, v3, v4, v5, v6, some (.inl a), v8] (.inl a :: st) I J := ge (A := (1, 109, 7, 0, 0)) rfl
set_option maxRecDepth 10000 in
theorem g_69_109 : GO x d 69 Q 109 [v0, v1, v2, v3, v4, v5, v6, v7, v8] [.inl i0, .inr (.inr (.inl r)), .inl i1, .inl i2, .inr (.inr w0), .inr (.inr w1), .inl i3] I J = (okO r 3 ∧ EX x d 25 [.inr (.inr (.inl r)), .inl i0] I J (fun r1 I1 J1 => GO x d 69 Q 112 [v0, v1, v2, v3, v4, v5, v6, v7, v8] (r1.toList ++ [.inl i1, .inl i2, .inr (.inr w0), .inr (.inr w1), .inl i3]) I1 J1)) := (ge (A := (53, 112, 25, 1, 0)) rfl).trans (gtrue (Nat.le_of_ble_eq_true rfl))
set_option maxRecDepth 10000 in
theorem g_69_112 : GO x d 69 Q 112 [v0, v1, v2, v3, v4, v5, v6, v7, v8] (.inl b :: .inl a :: st) I J = GO x d 69 Q 113 [v0, v1, v2, v3, v4, v5, v6, v7, v8] (.inl (a + b) :: st) I J := ge (A := (8, 113, 0, 0, 0)) rfl
set_option maxRecDepth 10000 in
theorem g_69_113 : GO x d 69 Q 113 [v0, some (.inr (.inr w)), v2, v3, v4, v5, v6, v7, v8] st I J = GO x d 69 Q 114 [v0, some (.inr (.inr w)), v2, v3, v4, v5, v6, v7, v8] (.inr (.inr w) :: st) I J := ge (A := (2, 114, 1, 0, 0)) rfl
set_option maxRecDepth 10000 in
theorem g_69_114 : GO x d 69 Q 114 [v0, v1, v2, v3, v4, v5, v6, v7, v8] (.inr (.inr (.inl r)) :: st) I J = (okF r 3 5 ∧ GO x d 69 Q 117 [v0, v1, v2, v3, v4, v5, v6, v7, v8] (.inr (.inr (.inl (rfN r 5))) :: st) I J) := (ge (A := (39, 117, 3, 5, 0)) rfl).trans (gref (f := fun q => GO x d 69 Q 117 [v0, v1, v2, v3, v4, v5, v6, v7, v8] (.inr (.inr (.inl q)) :: st) I J))
set_option maxRecDepth 10000 in
theorem g_69_117 : GO x d 69 Q 117 [v0, v1, v2, v3, v4, v5, v6, some (.inl a), v8] st I J = GO x d 69 Q 119 [v0, v1, v2, v3, v4, v5, v6, some (.inl a), v8] (.inl a :: st) I J := ge (A := (1, 119, 7, 0, 0)) rfl
set_option maxRecDepth 10000 in
theorem h_69_119 : GO x d 69 Q 119 [v0, v1, v2, v3, v4, v5, v6, v7, v8] (.inl a :: .inr (.inr (.inr q)) :: st) I J = (q < 4 ∧ 0 ≤ a ∧ a < (roA x q).1 ∧ GO x d 69 Q 120 [v0, v1, v2, v3, v4, v5, v6, v7, v8] (.inl ((roA x q).2 a.toNat) :: st) I J) := ge (A := (44, 120, 0, 0, 0)) rfl
set_option maxRecDepth 10000 in
theorem g_69_119 : GO x d 69 Q 119 [v0, v1, v2, v3, v4, v5, v6, v7, v8] (.inl a :: .inr (.inr (.inl r)) :: st) I J = (okA r 20 ∧ 0 ≤ a ∧ a < lnN r ∧ GO x d 69 Q 120 [v0, v1, v2, v3, v4, v5, v6, v7, v8] (.inl (I r a) :: st) I J) := ge (A := (44, 120, 0, 0, 0)) rfl
set_option maxRecDepth 10000 in
theorem g_69_120 : GO x d 69 Q 120 [v0, v1, v2, v3, v4, v5, v6, v7, v8] [.inl i0, .inl i1, .inl i2, .inr (.inr w0), .inr (.inr w1), .inl i3] I J = EX x d 69 [.inr (.inr w1), .inr (.inr w0), .inl i2, .inl i1, .inl i0] I J (fun r1 I1 J1 => GO x d 69 Q 123 [v0, v1, v2, v3, v4, v5, v6, v7, v8] (r1.toList ++ [.inl i3]) I1 J1) := (ge (A := (52, 123, 69, 5, 0)) rfl).trans (gtrue2 (Nat.le_of_ble_eq_true rfl) (Nat.le_of_ble_eq_true rfl))
set_option maxRecDepth 10000 in
theorem g_69_123 : GO x d 69 Q 123 [v0, v1, v2, v3, v4, v5, v6, v7, v8] (.inl b :: .inl a :: st) I J = GO x d 69 Q 124 [v0, v1, v2, v3, v4, v5, v6, v7, v8] (.inl (a + b) :: st) I J := ge (A := (8, 124, 0, 0, 0)) rfl
set_option maxRecDepth 10000 in
theorem g_69_124 : GO x d 69 Q 124 [v0, v1, v2, v3, v4, v5, v6, v7, v8] (.inl a :: st) I J = (nlO (some v5) = true ∧ GO x d 69 Q 126 [v0, v1, v2, v3, v4, v5, some (.inl a), v7, v8] st I J) := (ge (A := (4, 126, 6, 0, 0)) rfl).trans (gst (Nat.le_of_ble_eq_true rfl) _)
set_option maxRecDepth 10000 in
theorem g_69_126 : GO x d 69 Q 126 [some (.inr (.inr w)), v1, v2, v3, v4, v5, v6, v7, v8] st I J = GO x d 69 Q 127 [some (.inr (.inr w)), v1, v2, v3, v4, v5, v6, v7, v8] (.inr (.inr w) :: st) I J := ge (A := (2, 127, 0, 0, 0)) rfl
set_option maxRecDepth 10000 in
theorem g_69_127 : GO x d 69 Q 127 [v0, v1, v2, v3, v4, v5, v6, v7, v8] (.inr (.inr (.inl r)) :: st) I J = (okF r 8 0 ∧ GO x d 69 Q 130 [v0, v1, v2, v3, v4, v5, v6, v7, v8] (.inr (.inr (.inl (rfN r 0))) :: st) I J) := (ge (A := (39, 130, 8, 0, 0)) rfl).trans (gref (f := fun q => GO x d 69 Q 130 [v0, v1, v2, v3, v4, v5, v6, v7, v8] (.inr (.inr (.inl q)) :: st) I J))
set_option maxRecDepth 10000 in
theorem g_69_130 : GO x d 69 Q 130 [v0, v1, v2, v3, v4, v5, v6, some (.inl a), v8] st I J = GO x d 69 Q 132 [v0, v1, v2, v3, v4, v5, v6, some (.inl a), v8] (.inl a :: st) I J := ge (A := (1, 132, 7, 0, 0)) rfl
set_option maxRecDepth 10000 in
theorem g_69_132 : GO x d 69 Q 132 [v0, v1, v2, v3, v4, v5, v6, v7, some (.inl a)] st I J = GO x d 69 Q 134 [v0, v1, v2, v3, v4, v5, v6, v7, some (.inl a)] (.inl a :: st) I J := ge (A := (1, 134, 8, 0, 0)) rfl
set_option maxRecDepth 10000 in
theorem g_69_134 : GO x d 69 Q 134 [v0, v1, v2, v3, v4, v5, v6, v7, v8] (.inl b :: .inl a :: .inr (.inr (.inl r)) :: st) I J = (okA r 20 ∧ 0 ≤ a ∧ a < lnN r ∧ GO x d 69 Q 135 [v0, v1, v2, v3, v4, v5, v6, v7, v8] st (up I r a b) J) := ge (A := (45, 135, 0, 0, 0)) rfl
set_option maxRecDepth 10000 in
theorem g_69_135 : GO x d 69 Q 135 [v0, v1, v2, v3, v4, v5, v6, some (.inl a), v8] st I J = (nlO (some v6) = true ∧ GO x d 69 Q 138 [v0, v1, v2, v3, v4, v5, v6, some (.inl (a + (1))), v8] st I J) := ge (A := (7, 138, 7, 0, 1)) rfl
set_option maxRecDepth 10000 in
theorem g_69_138 : GO x d 69 Q 138 [v0, v1, v2, v3, v4, v5, v6, v7, v8] st I J = GO x d 69 Q 62 [v0, v1, v2, v3, v4, v5, v6, v7, v8] st I J := ge (A := (35, 141, 62, 0, 0)) rfl
set_option maxRecDepth 10000 in
theorem g_69_141 : GO x d 69 Q 141 [v0, v1, v2, v3, v4, v5, some (.inl a), v7, v8] st I J = GO x d 69 Q 143 [v0, v1, v2, v3, v4, v5, some (.inl a), v7, v8] (.inl a :: st) I J := ge (A := (1, 143, 6, 0, 0)) rfl
set_option maxRecDepth 10000 in
theorem g_69_143 : GO x d 69 Q 143 [v0, v1, v2, v3, v4, v5, v6, v7, v8] [.inl a] I J = Q (some (.inl a)) I J := ge (A := (55, 144, 0, 0, 0)) rfl
set_option maxRecDepth 10000 in
theorem e_69 : EX x (d + 1) 69 [.inr (.inr w0), .inr (.inr w1), .inl i0, .inl i1, .inl i2] I J Q = GO x d 69 Q 0 [some (.inr (.inr w0)), some (.inr (.inr w1)), some (.inl i0), some (.inl i1), some (.inl i2), none, none, none, none] [] I J := ex_eq (Nat.le_of_ble_eq_true rfl) rfl (Nat.le_of_ble_eq_true rfl) rfl
set_option maxRecDepth 10000 in
theorem g_71_0 : GO x d 71 Q 0 [v0, some (.inl a), v2, v3] st I J = GO x d 71 Q 1 [v0, some (.inl a), v2, v3] (.inl a :: st) I J := ge (A := (1, 1, 1, 0, 0)) rfl
set_option maxRecDepth 10000 in
theorem g_71_1 : GO x d 71 Q 1 [v0, v1, v2, v3] [.inl i0] I J = EX x d 75 [.inl i0] I J (fun r1 I1 J1 => GO x d 71 Q 4 [v0, v1, v2, v3] (r1.toList ++ []) I1 J1) := (ge (A := (52, 4, 75, 1, 0)) rfl).trans (gtrue2 (Nat.le_of_ble_eq_true rfl) (Nat.le_of_ble_eq_true rfl))
set_option maxRecDepth 10000 in
theorem g_71_4 : GO x d 71 Q 4 [v0, v1, v2, v3] (.inl a :: st) I J = (inR a ∧ if a = 0 then GO x d 71 Q 22 [v0, v1, v2, v3] st I J else GO x d 71 Q 7 [v0, v1, v2, v3] st I J) := (ge (A := (33, 7, 22, 0, 0)) rfl).trans (gif (p := a = 0) inferInstance)
set_option maxRecDepth 10000 in
theorem g_71_7 : GO x d 71 Q 7 [v0, v1, some (.inl a), v3] st I J = GO x d 71 Q 8 [v0, v1, some (.inl a), v3] (.inl a :: st) I J := ge (A := (1, 8, 2, 0, 0)) rfl
set_option maxRecDepth 10000 in
theorem g_71_8 : GO x d 71 Q 8 [v0, v1, v2, v3] (.inl a :: st) I J = (inR a ∧ if a < 0 then GO x d 71 Q 22 [v0, v1, v2, v3] st I J else GO x d 71 Q 11 [v0, v1, v2, v3] st I J) := (ge (A := (33, 11, 22, 2, 0)) rfl).trans (gif (p := a < 0) inferInstance)
set_option maxRecDepth 10000 in
theorem g_71_11 : GO x d 71 Q 11 [v0, v1, some (.inl a), v3] st I J = GO x d 71 Q 12 [v0, v1, some (.inl a), v3] (.inl a :: st) I J := ge (A := (1, 12, 2, 0, 0)) rfl
set_option maxRecDepth 10000 in
theorem g_71_12 : GO x d 71 Q 12 [v0, v1, v2, v3] st I J = GO x d 71 Q 13 [v0, v1, v2, v3] (.inl (2) :: st) I J := ge (A := (0, 13, 0, 0, 2)) rfl
set_option maxRecDepth 10000 in
theorem g_71_13 : GO x d 71 Q 13 [v0, v1, v2, v3] (.inl b :: .inl a :: st) I J = (inR a ∧ inR b ∧ if b < a then GO x d 71 Q 22 [v0, v1, v2, v3] st I J else GO x d 71 Q 16 [v0, v1, v2, v3] st I J) := (ge (A := (34, 16, 22, 4, 0)) rfl).trans (gic (p := b < a) inferInstance)
set_option maxRecDepth 10000 in
theorem g_71_16 : GO x d 71 Q 16 [v0, v1, v2, some (.inl a)] st I J = GO x d 71 Q 17 [v0, v1, v2, some (.inl a)] (.inl a :: st) I J := ge (A := (1, 17, 3, 0, 0)) rfl
set_option maxRecDepth 10000 in
theorem g_71_17 : GO x d 71 Q 17 [v0, v1, v2, v3] st I J = GO x d 71 Q 19 [v0, v1, v2, v3] (.inl (40) :: st) I J := ge (A := (0, 19, 0, 0, 40)) rfl
set_option maxRecDepth 10000 in
theorem g_71_19 : GO x d 71 Q 19 [v0, v1, v2, v3] (.inl b :: .inl a :: st) I J = (inR a ∧ inR b ∧ if b < a then GO x d 71 Q 22 [v0, v1, v2, v3] st I J else GO x d 71 Q 25 [v0, v1, v2, v3] st I J) := (ge (A := (34, 22, 25, 5, 0)) rfl).trans (ggec)
set_option maxRecDepth 10000 in
theorem g_71_22 : GO x d 71 Q 22 [v0, v1, v2, v3] st I J = GO x d 71 Q 24 [v0, v1, v2, v3] (.inl (-1000001) :: st) I J := ge (A := (0, 24, 0, 0, -1000001)) rfl
set_option maxRecDepth 10000 in
theorem g_71_24 : GO x d 71 Q 24 [v0, v1, v2, v3] [.inl a] I J = Q (some (.inl a)) I J := ge (A := (55, 25, 0, 0, 0)) rfl
set_option maxRecDepth 10000 in
theorem g_71_25 : GO x d 71 Q 25 [v0, v1, v2, some (.inl a)] st I J = GO x d 71 Q 26 [v0, v1, v2, some (.inl a)] (.inl a :: st) I J := ge (A := (1, 26, 3, 0, 0)) rfl
set_option maxRecDepth 10000 in
theorem g_71_26 : GO x d 71 Q 26 [v0, v1, v2, v3] (.inl a :: st) I J = (inR a ∧ if a < 0 then GO x d 71 Q 29 [v0, v1, v2, v3] st I J else GO x d 71 Q 35 [v0, v1, v2, v3] st I J) := (ge (A := (33, 29, 35, 3, 0)) rfl).trans (gge)
set_option maxRecDepth 10000 in
theorem g_71_29 : GO x d 71 Q 29 [some (.inr (.inr w)), v1, v2, v3] st I J = GO x d 71 Q 30 [some (.inr (.inr w)), v1, v2, v3] (.inr (.inr w) :: st) I J := ge (A := (2, 30, 0, 0, 0)) rfl
set_option maxRecDepth 10000 in
theorem g_71_30 : GO x d 71 Q 30 [v0, v1, v2, v3] st I J = GO x d 71 Q 31 [v0, v1, v2, v3] (.inl (4) :: st) I J := ge (A := (0, 31, 0, 0, 4)) rfl
set_option maxRecDepth 10000 in
theorem g_71_31 : GO x d 71 Q 31 [v0, v1, v2, v3] [.inl i0, .inr (.inr (.inl r))] I J = (okO r 9 ∧ EX x d 76 [.inr (.inr (.inl r)), .inl i0] I J (fun r1 I1 J1 => GO x d 71 Q 34 [v0, v1, v2, v3] (r1.toList ++ []) I1 J1)) := (ge (A := (53, 34, 76, 1, 0)) rfl).trans (gtrue (Nat.le_of_ble_eq_true rfl))
set_option maxRecDepth 10000 in
theorem g_71_34 : GO x d 71 Q 34 [v0, v1, v2, v3] [.inl a] I J = Q (some (.inl a)) I J := ge (A := (55, 35, 0, 0, 0)) rfl
set_option maxRecDepth 10000 in
theorem g_71_35 : GO x d 71 Q 35 [some (.inr (.inr w)), v1, v2, v3] st I J = GO x d 71 Q 36 [some (.inr (.inr w)), v1, v2, v3] (.inr (.inr w) :: st) I J := ge (A := (2, 36, 0, 0, 0)) rfl
set_option maxRecDepth 10000 in
theorem g_71_36 : GO x d 71 Q 36 [v0, v1, v2, v3] (.inr (.inr (.inl r)) :: st) I J = (okF r 9 0 ∧ GO x d 71 Q 39 [v0, v1, v2, v3] (.inr (.inr (.inl (rfN r 0))) :: st) I J) := (ge (A := (39, 39, 9, 0, 0)) rfl).trans (gref (f := fun q => GO x d 71 Q 39 [v0, v1, v2, v3] (.inr (.inr (.inl q)) :: st) I J))
set_option maxRecDepth 10000 in
theorem g_71_39 : GO x d 71 Q 39 [v0, some (.inl a), v2, v3] st I J = GO x d 71 Q 40 [v0, some (.inl a), v2, v3] (.inl a :: st) I J := ge (A := (1, 40, 1, 0, 0)) rfl
set_option maxRecDepth 10000 in
theorem g_71_40 : GO x d 71 Q 40 [v0, v1, v2, v3] (.inl a :: .inr (.inr (.inl r)) :: st) I J = ((23 ≤ clS S0 r ∧ clS S0 r ≤ 25 ∧ (elS S0 r a.toNat).isSome = true) ∧ 0 ≤ a ∧ a < lnN r ∧ GO x d 71 Q 41 [v0, v1, v2, v3] (.inr (.inr (.inl (elN r a))) :: st) I J) := (ge (A := (50, 41, 0, 0, 0)) rfl).trans (gel2 (f := fun q => GO x d 71 Q 41 [v0, v1, v2, v3] (.inr (.inr (.inl q)) :: st) I J))
set_option maxRecDepth 10000 in
theorem g_71_41 : GO x d 71 Q 41 [v0, v1, some (.inl a), v3] st I J = GO x d 71 Q 42 [v0, v1, some (.inl a), v3] (.inl a :: st) I J := ge (A := (1, 42, 2, 0, 0)) rfl
set_option maxRecDepth 10000 in
theorem g_71_42 : GO x d 71 Q 42 [v0, v1, v2, some (.inl a)] st I J = GO x d 71 Q 43 [v0, v1, v2, some (.inl a)] (.inl a :: st) I J := ge (A := (1, 43, 3, 0, 0)) rfl
set_option maxRecDepth 10000 in
theorem g_71_43 : GO x d 71 Q 43 [v0, v1, v2, v3] [.inl i0, .inl i1, .inr (.inr (.inl r))] I J = (okO r 5 ∧ EX x d 43 [.inr (.inr (.inl r)), .inl i1, .inl i0] I J (fun r1 I1 J1 => GO x d 71 Q 46 [v0, v1, v2, v3] (r1.toList ++ []) I1 J1)) := (ge (A := (53, 46, 43, 2, 0)) rfl).trans (gtrue (Nat.le_of_ble_eq_true rfl))
set_option maxRecDepth 10000 in
theorem g_71_46 : GO x d 71 Q 46 [some (.inr (.inr w)), v1, v2, v3] st I J = GO x d 71 Q 47 [some (.inr (.inr w)), v1, v2, v3] (.inr (.inr w) :: st) I J := ge (A := (2, 47, 0, 0, 0)) rfl
set_option maxRecDepth 10000 in
theorem g_71_47 : GO x d 71 Q 47 [v0, v1, v2, some (.inl a)] st I J = GO x d 71 Q 48 [v0, v1, v2, some (.inl a)] (.inl a :: st) I J := ge (A := (1, 48, 3, 0, 0)) rfl
set_option maxRecDepth 10000 in
theorem g_71_48 : GO x d 71 Q 48 [v0, v1, v2, v3] [.inl i0, .inr (.inr (.inl r))] I J = (okO r 9 ∧ EX x d 77 [.inr (.inr (.inl r)), .inl i0] I J (fun r1 I1 J1 => GO x d 71 Q 51 [v0, v1, v2, v3] (r1.toList ++ []) I1 J1)) := (ge (A := (53, 51, 77, 1, 0)) rfl).trans (gtrue (Nat.le_of_ble_eq_true rfl))
set_option maxRecDepth 10000 in
theorem g_71_51 : GO x d 71 Q 51 [v0, v1, v2, v3] [.inl a] I J = Q (some (.inl a)) I J := ge (A := (55, 52, 0, 0, 0)) rfl
set_option maxRecDepth 10000 in
theorem e_71 : EX x (d + 1) 71 [.inr (.inr w0), .inl i0, .inl i1, .inl i2] I J Q = GO x d 71 Q 0 [some (.inr (.inr w0)), some (.inl i0), some (.inl i1), some (.inl i2)] [] I J := ex_eq (Nat.le_of_ble_eq_true rfl) rfl (Nat.le_of_ble_eq_true rfl) rfl
set_option maxRecDepth 10000 in
theorem g_72_0 : GO x d 72 Q 0 [v0, some (.inl a), v2, v3, v4] st I J = GO x d 72 Q 1 [v0, some (.inl a), v2, v3, v4] (.inl a :: st) I J := ge (A := (1, 1, 1, 0, 0)) rfl
set_option maxRecDepth 10000 in
theorem g_72_1 : GO x d 72 Q 1 [v0, v1, v2, v3, v4] [.inl i0] I J = EX x d 75 [.inl i0] I J (fun r1 I1 J1 => GO x d 72 Q 4 [v0, v1, v2, v3, v4] (r1.toList ++ []) I1 J1) := (ge (A := (52, 4, 75, 1, 0)) rfl).trans (gtrue2 (Nat.le_of_ble_eq_true rfl) (Nat.le_of_ble_eq_true rfl))
set_option maxRecDepth 10000 in
theorem g_72_4 : GO x d 72 Q 4 [v0, v1, v2, v3, v4] (.inl a :: st) I J = (inR a ∧ if a = 0 then GO x d 72 Q 7 [v0, v1, v2, v3, v4] st I J else GO x d 72 Q 10 [v0, v1, v2, v3, v4] st I J) := (ge (A := (33, 7, 10, 1, 0)) rfl).trans (gifn (p := a = 0) inferInstance)
set_option maxRecDepth 10000 in
theorem g_72_7 : GO x d 72 Q 7 [v0, v1, v2, v3, v4] st I J = GO x d 72 Q 9 [v0, v1, v2, v3, v4] (.inl (-1000001) :: st) I J := ge (A := (0, 9, 0, 0, -1000001)) rfl
set_option maxRecDepth 10000 in
theorem g_72_9 : GO x d 72 Q 9 [v0, v1, v2, v3, v4] [.inl a] I J = Q (some (.inl a)) I J := ge (A := (55, 10, 0, 0, 0)) rfl
set_option maxRecDepth 10000 in
theorem g_72_10 : GO x d 72 Q 10 [some (.inr (.inr w)), v1, v2, v3, v4] st I J = GO x d 72 Q 11 [some (.inr (.inr w)), v1, v2, v3, v4] (.inr (.inr w) :: st) I J := ge (A := (2, 11, 0, 0, 0)) rfl
set_option maxRecDepth 10000 in
theorem g_72_11 : GO x d 72 Q 11 [v0, v1, v2, v3, v4] (.inr (.inr (.inl r)) :: st) I J = (okF r 9 0 ∧ GO x d 72 Q 14 [v0, v1, v2, v3, v4] (.inr (.inr (.inl (rfN r 0))) :: st) I J) := (ge (A := (39, 14, 9, 0, 0)) rfl).trans (gref (f := fun q => GO x d 72 Q 14 [v0, v1, v2, v3, v4] (.inr (.inr (.inl q)) :: st) I J))
set_option maxRecDepth 10000 in
theorem g_72_14 : GO x d 72 Q 14 [v0, some (.inl a), v2, v3, v4] st I J = GO x d 72 Q 15 [v0, some (.inl a), v2, v3, v4] (.inl a :: st) I J := ge (A := (1, 15, 1, 0, 0)) rfl
set_option maxRecDepth 10000 in
theorem g_72_15 : GO x d 72 Q 15 [v0, v1, v2, v3, v4] (.inl a :: .inr (.inr (.inl r)) :: st) I J = ((23 ≤ clS S0 r ∧ clS S0 r ≤ 25 ∧ (elS S0 r a.toNat).isSome = true) ∧ 0 ≤ a ∧ a < lnN r ∧ GO x d 72 Q 16 [v0, v1, v2, v3, v4] (.inr (.inr (.inl (elN r a))) :: st) I J) := (ge (A := (50, 16, 0, 0, 0)) rfl).trans (gel2 (f := fun q => GO x d 72 Q 16 [v0, v1, v2, v3, v4] (.inr (.inr (.inl q)) :: st) I J))
set_option maxRecDepth 10000 in
theorem g_72_16 : GO x d 72 Q 16 [v0, v1, v2, v3, v4] (.inr (.inr w) :: st) I J = (nlO (some v3) = true ∧ GO x d 72 Q 18 [v0, v1, v2, v3, some (.inr (.inr w))] st I J) := (ge (A := (5, 18, 4, 0, 0)) rfl).trans (gst (Nat.le_of_ble_eq_true rfl) _)
set_option maxRecDepth 10000 in
theorem g_72_18 : GO x d 72 Q 18 [v0, v1, v2, v3, some (.inr (.inr w))] st I J = GO x d 72 Q 20 [v0, v1, v2, v3, some (.inr (.inr w))] (.inr (.inr w) :: st) I J := ge (A := (2, 20, 4, 0, 0)) rfl
set_option maxRecDepth 10000 in
theorem g_72_20 : GO x d 72 Q 20 [v0, v1, v2, v3, v4] (.inr (.inr (.inl r)) :: st) I J = (okO r 5 ∧ GO x d 72 Q 23 [v0, v1, v2, v3, v4] (.inl (I r 1) :: st) I J) := ge (A := (37, 23, 5, 1, 0)) rfl
set_option maxRecDepth 10000 in
theorem g_72_23 : GO x d 72 Q 23 [v0, v1, v2, v3, v4] (.inl a :: st) I J = (inR a ∧ if a = 0 then GO x d 72 Q 26 [v0, v1, v2, v3, v4] st I J else GO x d 72 Q 32 [v0, v1, v2, v3, v4] st I J) := (ge (A := (33, 26, 32, 1, 0)) rfl).trans (gifn (p := a = 0) inferInstance)
set_option maxRecDepth 10000 in
theorem g_72_26 : GO x d 72 Q 26 [some (.inr (.inr w)), v1, v2, v3, v4] st I J = GO x d 72 Q 27 [some (.inr (.inr w)), v1, v2, v3, v4] (.inr (.inr w) :: st) I J := ge (A := (2, 27, 0, 0, 0)) rfl
set_option maxRecDepth 10000 in
theorem g_72_27 : GO x d 72 Q 27 [v0, v1, v2, v3, v4] st I J = GO x d 72 Q 28 [v0, v1, v2, v3, v4] (.inl (1) :: st) I J := ge (A := (0, 28, 0, 0, 1)) rfl
set_option maxRecDepth 10000 in
theorem g_72_28 : GO x d 72 Q 28 [v0, v1, v2, v3, v4] [.inl i0, .inr (.inr (.inl r))] I J = (okO r 9 ∧ EX x d 76 [.inr (.inr (.inl r)), .inl i0] I J (fun r1 I1 J1 => GO x d 72 Q 31 [v0, v1, v2, v3, v4] (r1.toList ++ []) I1 J1)) := (ge (A := (53, 31, 76, 1, 0)) rfl).trans (gtrue (Nat.le_of_ble_eq_true rfl))
set_option maxRecDepth 10000 in
theorem g_72_31 : GO x d 72 Q 31 [v0, v1, v2, v3, v4] [.inl a] I J = Q (some (.inl a)) I J := ge (A := (55, 32, 0, 0, 0)) rfl
set_option maxRecDepth 10000 in
theorem g_72_32 : GO x d 72 Q 32 [v0, v1, some (.inl a), v3, v4] st I J = GO x d 72 Q 33 [v0, v1, some (.inl a), v3, v4] (.inl a :: st) I J := ge (A := (1, 33, 2, 0, 0)) rfl
set_option maxRecDepth 10000 in
theorem g_72_33 : GO x d 72 Q 33 [v0, v1, v2, v3, v4] (.inl a :: st) I J = (inR a ∧ if a < 0 then GO x d 72 Q 45 [v0, v1, v2, v3, v4] st I J else GO x d 72 Q 36 [v0, v1, v2, v3, v4] st I J) := (ge (A := (33, 36, 45, 2, 0)) rfl).trans (gif (p := a < 0) inferInstance)
set_option maxRecDepth 10000 in
theorem g_72_36 : GO x d 72 Q 36 [v0, v1, some (.inl a), v3, v4] st I J = GO x d 72 Q 37 [v0, v1, some (.inl a), v3, v4] (.inl a :: st) I J := ge (A := (1, 37, 2, 0, 0)) rfl
set_option maxRecDepth 10000 in
theorem g_72_37 : GO x d 72 Q 37 [v0, v1, v2, v3, some (.inr (.inr w))] st I J = GO x d 72 Q 39 [v0, v1, v2, v3, some (.inr (.inr w))] (.inr (.inr w) :: st) I J := ge (A := (2, 39, 4, 0, 0)) rfl
set_option maxRecDepth 10000 in
theorem g_72_39 : GO x d 72 Q 39 [v0, v1, v2, v3, v4] (.inr (.inr (.inl r)) :: st) I J = (okO r 5 ∧ GO x d 72 Q 42 [v0, v1, v2, v3, v4] (.inl (I r 3) :: st) I J) := ge (A := (37, 42, 5, 3, 0)) rfl
set_option maxRecDepth 10000 in
theorem g_72_42 : GO x d 72 Q 42 [v0, v1, v2, v3, v4] (.inl b :: .inl a :: st) I J = (inR a ∧ inR b ∧ if a < b then GO x d 72 Q 51 [v0, v1, v2, v3, v4] st I J else GO x d 72 Q 45 [v0, v1, v2, v3, v4] st I J) := (ge (A := (34, 45, 51, 2, 0)) rfl).trans (gic (p := a < b) inferInstance)
set_option maxRecDepth 10000 in
theorem g_72_45 : GO x d 72 Q 45 [some (.inr (.inr w)), v1, v2, v3, v4] st I J = GO x d 72 Q 46 [some (.inr (.inr w)), v1, v2, v3, v4] (.inr (.inr w) :: st) I J := ge (A := (2, 46, 0, 0, 0)) rfl
set_option maxRecDepth 10000 in
theorem g_72_46 : GO x d 72 Q 46 [v0, v1, v2, v3, v4] st I J = GO x d 72 Q 47 [v0, v1, v2, v3, v4] (.inl (2) :: st) I J := ge (A := (0, 47, 0, 0, 2)) rfl
set_option maxRecDepth 10000 in
theorem g_72_47 : GO x d 72 Q 47 [v0, v1, v2, v3, v4] [.inl i0, .inr (.inr (.inl r))] I J = (okO r 9 ∧ EX x d 76 [.inr (.inr (.inl r)), .inl i0] I J (fun r1 I1 J1 => GO x d 72 Q 50 [v0, v1, v2, v3, v4] (r1.toList ++ []) I1 J1)) := (ge (A := (53, 50, 76, 1, 0)) rfl).trans (gtrue (Nat.le_of_ble_eq_true rfl))
set_option maxRecDepth 10000 in
theorem g_72_50 : GO x d 72 Q 50 [v0, v1, v2, v3, v4] [.inl a] I J = Q (some (.inl a)) I J := ge (A := (55, 51, 0, 0, 0)) rfl
set_option maxRecDepth 10000 in
theorem g_72_51 : GO x d 72 Q 51 [v0, v1, v2, v3, some (.inr (.inr w))] st I J = GO x d 72 Q 53 [v0, v1, v2, v3, some (.inr (.inr w))] (.inr (.inr w) :: st) I J := ge (A := (2, 53, 4, 0, 0)) rfl
set_option maxRecDepth 10000 in
theorem g_72_53 : GO x d 72 Q 53 [v0, v1, v2, v3, v4] (.inr (.inr (.inl r)) :: st) I J = (okF r 5 0 ∧ GO x d 72 Q 56 [v0, v1, v2, v3, v4] (.inr (.inr (.inl (rfN r 0))) :: st) I J) := (ge (A := (39, 56, 5, 0, 0)) rfl).trans (gref (f := fun q => GO x d 72 Q 56 [v0, v1, v2, v3, v4] (.inr (.inr (.inl q)) :: st) I J))
set_option maxRecDepth 10000 in
theorem g_72_56 : GO x d 72 Q 56 [v0, v1, some (.inl a), v3, v4] st I J = GO x d 72 Q 57 [v0, v1, some (.inl a), v3, v4] (.inl a :: st) I J := ge (A := (1, 57, 2, 0, 0)) rfl
set_option maxRecDepth 10000 in
theorem g_72_57 : GO x d 72 Q 57 [v0, v1, v2, v3, some (.inr (.inr w))] st I J = GO x d 72 Q 59 [v0, v1, v2, v3, some (.inr (.inr w))] (.inr (.inr w) :: st) I J := ge (A := (2, 59, 4, 0, 0)) rfl
set_option maxRecDepth 10000 in
theorem g_72_59 : GO x d 72 Q 59 [v0, v1, v2, some (.inl a), v4] st I J = GO x d 72 Q 60 [v0, v1, v2, some (.inl a), v4] (.inl a :: st) I J := ge (A := (1, 60, 3, 0, 0)) rfl
set_option maxRecDepth 10000 in
theorem g_72_60 : GO x d 72 Q 60 [v0, v1, v2, v3, v4] [.inl i0, .inr (.inr (.inl r)), .inl i1, .inr (.inr w0)] I J = (okO r 5 ∧ EX x d 44 [.inr (.inr (.inl r)), .inl i0] I J (fun r1 I1 J1 => GO x d 72 Q 63 [v0, v1, v2, v3, v4] (r1.toList ++ [.inl i1, .inr (.inr w0)]) I1 J1)) := (ge (A := (53, 63, 44, 1, 0)) rfl).trans (gtrue (Nat.le_of_ble_eq_true rfl))
set_option maxRecDepth 10000 in
theorem g_72_63 : GO x d 72 Q 63 [v0, v1, v2, v3, v4] (.inl b :: .inl a :: .inr (.inr (.inl r)) :: st) I J = (okA r 20 ∧ 0 ≤ a ∧ a < lnN r ∧ GO x d 72 Q 64 [v0, v1, v2, v3, v4] st (up I r a b) J) := ge (A := (45, 64, 0, 0, 0)) rfl
set_option maxRecDepth 10000 in
theorem g_72_64 : GO x d 72 Q 64 [some (.inr (.inr w)), v1, v2, v3, v4] st I J = GO x d 72 Q 65 [some (.inr (.inr w)), v1, v2, v3, v4] (.inr (.inr w) :: st) I J := ge (A := (2, 65, 0, 0, 0)) rfl
set_option maxRecDepth 10000 in
theorem g_72_65 : GO x d 72 Q 65 [v0, v1, v2, v3, some (.inr (.inr w))] st I J = GO x d 72 Q 67 [v0, v1, v2, v3, some (.inr (.inr w))] (.inr (.inr w) :: st) I J := ge (A := (2, 67, 4, 0, 0)) rfl
set_option maxRecDepth 10000 in
theorem g_72_67 : GO x d 72 Q 67 [v0, v1, v2, v3, v4] (.inr (.inr (.inl r)) :: st) I J = (okF r 5 0 ∧ GO x d 72 Q 70 [v0, v1, v2, v3, v4] (.inr (.inr (.inl (rfN r 0))) :: st) I J) := (ge (A := (39, 70, 5, 0, 0)) rfl).trans (gref (f := fun q => GO x d 72 Q 70 [v0, v1, v2, v3, v4] (.inr (.inr (.inl q)) :: st) I J))
set_option maxRecDepth 10000 in
theorem g_72_70 : GO x d 72 Q 70 [v0, v1, some (.inl a), v3, v4] st I J = GO x d 72 Q 71 [v0, v1, some (.inl a), v3, v4] (.inl a :: st) I J := ge (A := (1, 71, 2, 0, 0)) rfl
set_option maxRecDepth 10000 in
theorem h_72_71 : GO x d 72 Q 71 [v0, v1, v2, v3, v4] (.inl a :: .inr (.inr (.inr q)) :: st) I J = (q < 4 ∧ 0 ≤ a ∧ a < (roA x q).1 ∧ GO x d 72 Q 72 [v0, v1, v2, v3, v4] (.inl ((roA x q).2 a.toNat) :: st) I J) := ge (A := (44, 72, 0, 0, 0)) rfl
set_option maxRecDepth 10000 in
theorem g_72_71 : GO x d 72 Q 71 [v0, v1, v2, v3, v4] (.inl a :: .inr (.inr (.inl r)) :: st) I J = (okA r 20 ∧ 0 ≤ a ∧ a < lnN r ∧ GO x d 72 Q 72 [v0, v1, v2, v3, v4] (.inl (I r a) :: st) I J) := ge (A := (44, 72, 0, 0, 0)) rfl
set_option maxRecDepth 10000 in
theorem g_72_72 : GO x d 72 Q 72 [v0, v1, v2, v3, v4] [.inl i0, .inr (.inr (.inl r))] I J = (okO r 9 ∧ EX x d 77 [.inr (.inr (.inl r)), .inl i0] I J (fun r1 I1 J1 => GO x d 72 Q 75 [v0, v1, v2, v3, v4] (r1.toList ++ []) I1 J1)) := (ge (A := (53, 75, 77, 1, 0)) rfl).trans (gtrue (Nat.le_of_ble_eq_true rfl))
set_option maxRecDepth 10000 in
theorem g_72_75 : GO x d 72 Q 75 [v0, v1, v2, v3, v4] [.inl a] I J = Q (some (.inl a)) I J := ge (A := (55, 76, 0, 0, 0)) rfl
set_option maxRecDepth 10000 in
theorem e_72 : EX x (d + 1) 72 [.inr (.inr w0), .inl i0, .inl i1, .inl i2] I J Q = GO x d 72 Q 0 [some (.inr (.inr w0)), some (.inl i0), some (.inl i1), some (.inl i2), none] [] I J := ex_eq (Nat.le_of_ble_eq_true rfl) rfl (Nat.le_of_ble_eq_true rfl) rfl
set_option maxRecDepth 10000 in
theorem g_73_0 : GO x d 73 Q 0 [v0, some (.inl a), v2, v3, v4, v5, v6, v7] st I J = GO x d 73 Q 1 [v0, some (.inl a), v2, v3, v4, v5, v6, v7] (.inl a :: st) I J := ge (A := (1, 1, 1, 0, 0)) rfl
set_option maxRecDepth 10000 in
theorem g_73_1 : GO x d 73 Q 1 [v0, v1, v2, v3, v4, v5, v6, v7] [.inl i0] I J = EX x d 75 [.inl i0] I J (fun r1 I1 J1 => GO x d 73 Q 4 [v0, v1, v2, v3, v4, v5, v6, v7] (r1.toList ++ []) I1 J1) := (ge (A := (52, 4, 75, 1, 0)) rfl).trans (gtrue2 (Nat.le_of_ble_eq_true rfl) (Nat.le_of_ble_eq_true rfl))
set_option maxRecDepth 10000 in
theorem g_73_4 : GO x d 73 Q 4 [v0, v1, v2, v3, v4, v5, v6, v7] (.inl a :: st) I J = (inR a ∧ if a = 0 then GO x d 73 Q 14 [v0, v1, v2, v3, v4, v5, v6, v7] st I J else GO x d 73 Q 7 [v0, v1, v2, v3, v4, v5, v6, v7] st I J) := (ge (A := (33, 7, 14, 0, 0)) rfl).trans (gif (p := a = 0) inferInstance)
set_option maxRecDepth 10000 in
theorem g_73_7 : GO x d 73 Q 7 [v0, v1, v2, some (.inl a), v4, v5, v6, v7] st I J = GO x d 73 Q 8 [v0, v1, v2, some (.inl a), v4, v5, v6, v7] (.inl a :: st) I J := ge (A := (1, 8, 3, 0, 0)) rfl
set_option maxRecDepth 10000 in
theorem g_73_8 : GO x d 73 Q 8 [v0, v1, v2, v3, v4, v5, v6, v7] [.inl i0] I J = EX x d 75 [.inl i0] I J (fun r1 I1 J1 => GO x d 73 Q 11 [v0, v1, v2, v3, v4, v5, v6, v7] (r1.toList ++ []) I1 J1) := (ge (A := (52, 11, 75, 1, 0)) rfl).trans (gtrue2 (Nat.le_of_ble_eq_true rfl) (Nat.le_of_ble_eq_true rfl))
set_option maxRecDepth 10000 in
theorem g_73_11 : GO x d 73 Q 11 [v0, v1, v2, v3, v4, v5, v6, v7] (.inl a :: st) I J = (inR a ∧ if a = 0 then GO x d 73 Q 14 [v0, v1, v2, v3, v4, v5, v6, v7] st I J else GO x d 73 Q 17 [v0, v1, v2, v3, v4, v5, v6, v7] st I J) := (ge (A := (33, 14, 17, 1, 0)) rfl).trans (gifn (p := a = 0) inferInstance)
set_option maxRecDepth 10000 in
theorem g_73_14 : GO x d 73 Q 14 [v0, v1, v2, v3, v4, v5, v6, v7] st I J = GO x d 73 Q 16 [v0, v1, v2, v3, v4, v5, v6, v7] (.inl (-1000001) :: st) I J := ge (A := (0, 16, 0, 0, -1000001)) rfl
set_option maxRecDepth 10000 in
theorem g_73_16 : GO x d 73 Q 16 [v0, v1, v2, v3, v4, v5, v6, v7] [.inl a] I J = Q (some (.inl a)) I J := ge (A := (55, 17, 0, 0, 0)) rfl
set_option maxRecDepth 10000 in
theorem g_73_17 : GO x d 73 Q 17 [some (.inr (.inr w)), v1, v2, v3, v4, v5, v6, v7] st I J = GO x d 73 Q 18 [some (.inr (.inr w)), v1, v2, v3, v4, v5, v6, v7] (.inr (.inr w) :: st) I J := ge (A := (2, 18, 0, 0, 0)) rfl
set_option maxRecDepth 10000 in
theorem g_73_18 : GO x d 73 Q 18 [v0, v1, v2, v3, v4, v5, v6, v7] (.inr (.inr (.inl r)) :: st) I J = (okF r 9 0 ∧ GO x d 73 Q 21 [v0, v1, v2, v3, v4, v5, v6, v7] (.inr (.inr (.inl (rfN r 0))) :: st) I J) := (ge (A := (39, 21, 9, 0, 0)) rfl).trans (gref (f := fun q => GO x d 73 Q 21 [v0, v1, v2, v3, v4, v5, v6, v7] (.inr (.inr (.inl q)) :: st) I J))
set_option maxRecDepth 10000 in
theorem g_73_21 : GO x d 73 Q 21 [v0, some (.inl a), v2, v3, v4, v5, v6, v7] st I J = GO x d 73 Q 22 [v0, some (.inl a), v2, v3, v4, v5, v6, v7] (.inl a :: st) I J := ge (A := (1, 22, 1, 0, 0)) rfl
set_option maxRecDepth 10000 in
theorem g_73_22 : GO x d 73 Q 22 [v0, v1, v2, v3, v4, v5, v6, v7] (.inl a :: .inr (.inr (.inl r)) :: st) I J = ((23 ≤ clS S0 r ∧ clS S0 r ≤ 25 ∧ (elS S0 r a.toNat).isSome = true) ∧ 0 ≤ a ∧ a < lnN r ∧ GO x d 73 Q 23 [v0, v1, v2, v3, v4, v5, v6, v7] (.inr (.inr (.inl (elN r a))) :: st) I J) := (ge (A := (50, 23, 0, 0, 0)) rfl).trans (gel2 (f := fun q => GO x d 73 Q 23 [v0, v1, v2, v3, v4, v5, v6, v7] (.inr (.inr (.inl q)) :: st) I J))
set_option maxRecDepth 10000 in
theorem g_73_23 : GO x d 73 Q 23 [v0, v1, v2, v3, v4, v5, v6, v7] (.inr (.inr w) :: st) I J = (nlO (some v5) = true ∧ GO x d 73 Q 25 [v0, v1, v2, v3, v4, v5, some (.inr (.inr w)), v7] st I J) := (ge (A := (5, 25, 6, 0, 0)) rfl).trans (gst (Nat.le_of_ble_eq_true rfl) _)
set_option maxRecDepth 10000 in
theorem g_73_25 : GO x d 73 Q 25 [some (.inr (.inr w)), v1, v2, v3, v4, v5, v6, v7] st I J = GO x d 73 Q 26 [some (.inr (.inr w)), v1, v2, v3, v4, v5, v6, v7] (.inr (.inr w) :: st) I J := ge (A := (2, 26, 0, 0, 0)) rfl
set_option maxRecDepth 10000 in
theorem g_73_26 : GO x d 73 Q 26 [v0, v1, v2, v3, v4, v5, v6, v7] (.inr (.inr (.inl r)) :: st) I J = (okF r 9 0 ∧ GO x d 73 Q 29 [v0, v1, v2, v3, v4, v5, v6, v7] (.inr (.inr (.inl (rfN r 0))) :: st) I J) := (ge (A := (39, 29, 9, 0, 0)) rfl).trans (gref (f := fun q => GO x d 73 Q 29 [v0, v1, v2, v3, v4, v5, v6, v7] (.inr (.inr (.inl q)) :: st) I J))
set_option maxRecDepth 10000 in
theorem g_73_29 : GO x d 73 Q 29 [v0, v1, v2, some (.inl a), v4, v5, v6, v7] st I J = GO x d 73 Q 30 [v0, v1, v2, some (.inl a), v4, v5, v6, v7] (.inl a :: st) I J := ge (A := (1, 30, 3, 0, 0)) rfl
set_option maxRecDepth 10000 in
theorem g_73_30 : GO x d 73 Q 30 [v0, v1, v2, v3, v4, v5, v6, v7] (.inl a :: .inr (.inr (.inl r)) :: st) I J = ((23 ≤ clS S0 r ∧ clS S0 r ≤ 25 ∧ (elS S0 r a.toNat).isSome = true) ∧ 0 ≤ a ∧ a < lnN r ∧ GO x d 73 Q 31 [v0, v1, v2, v3, v4, v5, v6, v7] (.inr (.inr (.inl (elN r a))) :: st) I J) := (ge (A := (50, 31, 0, 0, 0)) rfl).trans (gel2 (f := fun q => GO x d 73 Q 31 [v0, v1, v2, v3, v4, v5, v6, v7] (.inr (.inr (.inl q)) :: st) I J))
set_option maxRecDepth 10000 in
theorem g_73_31 : GO x d 73 Q 31 [v0, v1, v2, v3, v4, v5, v6, v7] (.inr (.inr w) :: st) I J = (nlO (some v6) = true ∧ GO x d 73 Q 33 [v0, v1, v2, v3, v4, v5, v6, some (.inr (.inr w))] st I J) := (ge (A := (5, 33, 7, 0, 0)) rfl).trans (gst (Nat.le_of_ble_eq_true rfl) _)
set_option maxRecDepth 10000 in
theorem g_73_33 : GO x d 73 Q 33 [v0, v1, v2, v3, v4, v5, some (.inr (.inr w)), v7] st I J = GO x d 73 Q 35 [v0, v1, v2, v3, v4, v5, some (.inr (.inr w)), v7] (.inr (.inr w) :: st) I J := ge (A := (2, 35, 6, 0, 0)) rfl
set_option maxRecDepth 10000 in
theorem g_73_35 : GO x d 73 Q 35 [v0, v1, v2, v3, v4, v5, v6, v7] (.inr (.inr (.inl r)) :: st) I J = (okO r 5 ∧ GO x d 73 Q 38 [v0, v1, v2, v3, v4, v5, v6, v7] (.inl (I r 1) :: st) I J) := ge (A := (37, 38, 5, 1, 0)) rfl
set_option maxRecDepth 10000 in
theorem g_73_38 : GO x d 73 Q 38 [v0, v1, v2, v3, v4, v5, v6, v7] (.inl a :: st) I J = (inR a ∧ if a = 0 then GO x d 73 Q 49 [v0, v1, v2, v3, v4, v5, v6, v7] st I J else GO x d 73 Q 41 [v0, v1, v2, v3, v4, v5, v6, v7] st I J) := (ge (A := (33, 41, 49, 0, 0)) rfl).trans (gif (p := a = 0) inferInstance)
set_option maxRecDepth 10000 in
theorem g_73_41 : GO x d 73 Q 41 [v0, v1, v2, v3, v4, v5, v6, some (.inr (.inr w))] st I J = GO x d 73 Q 43 [v0, v1, v2, v3, v4, v5, v6, some (.inr (.inr w))] (.inr (.inr w) :: st) I J := ge (A := (2, 43, 7, 0, 0)) rfl
set_option maxRecDepth 10000 in
theorem g_73_43 : GO x d 73 Q 43 [v0, v1, v2, v3, v4, v5, v6, v7] (.inr (.inr (.inl r)) :: st) I J = (okO r 5 ∧ GO x d 73 Q 46 [v0, v1, v2, v3, v4, v5, v6, v7] (.inl (I r 1) :: st) I J) := ge (A := (37, 46, 5, 1, 0)) rfl
set_option maxRecDepth 10000 in
theorem g_73_46 : GO x d 73 Q 46 [v0, v1, v2, v3, v4, v5, v6, v7] (.inl a :: st) I J = (inR a ∧ if a = 0 then GO x d 73 Q 49 [v0, v1, v2, v3, v4, v5, v6, v7] st I J else GO x d 73 Q 55 [v0, v1, v2, v3, v4, v5, v6, v7] st I J) := (ge (A := (33, 49, 55, 1, 0)) rfl).trans (gifn (p := a = 0) inferInstance)
set_option maxRecDepth 10000 in
theorem g_73_49 : GO x d 73 Q 49 [some (.inr (.inr w)), v1, v2, v3, v4, v5, v6, v7] st I J = GO x d 73 Q 50 [some (.inr (.inr w)), v1, v2, v3, v4, v5, v6, v7] (.inr (.inr w) :: st) I J := ge (A := (2, 50, 0, 0, 0)) rfl
set_option maxRecDepth 10000 in
theorem g_73_50 : GO x d 73 Q 50 [v0, v1, v2, v3, v4, v5, v6, v7] st I J = GO x d 73 Q 51 [v0, v1, v2, v3, v4, v5, v6, v7] (.inl (1) :: st) I J := ge (A := (0, 51, 0, 0, 1)) rfl
set_option maxRecDepth 10000 in
theorem g_73_51 : GO x d 73 Q 51 [v0, v1, v2, v3, v4, v5, v6, v7] [.inl i0, .inr (.inr (.inl r))] I J = (okO r 9 ∧ EX x d 76 [.inr (.inr (.inl r)), .inl i0] I J (fun r1 I1 J1 => GO x d 73 Q 54 [v0, v1, v2, v3, v4, v5, v6, v7] (r1.toList ++ []) I1 J1)) := (ge (A := (53, 54, 76, 1, 0)) rfl).trans (gtrue (Nat.le_of_ble_eq_true rfl))
set_option maxRecDepth 10000 in
theorem g_73_54 : GO x d 73 Q 54 [v0, v1, v2, v3, v4, v5, v6, v7] [.inl a] I J = Q (some (.inl a)) I J := ge (A := (55, 55, 0, 0, 0)) rfl
set_option maxRecDepth 10000 in
theorem g_73_55 : GO x d 73 Q 55 [v0, v1, v2, v3, v4, v5, some (.inr (.inr w)), v7] st I J = GO x d 73 Q 57 [v0, v1, v2, v3, v4, v5, some (.inr (.inr w)), v7] (.inr (.inr w) :: st) I J := ge (A := (2, 57, 6, 0, 0)) rfl
set_option maxRecDepth 10000 in
theorem g_73_57 : GO x d 73 Q 57 [v0, v1, v2, v3, v4, v5, v6, v7] (.inr (.inr (.inl r)) :: st) I J = (okO r 5 ∧ GO x d 73 Q 60 [v0, v1, v2, v3, v4, v5, v6, v7] (.inl (I r 2) :: st) I J) := ge (A := (37, 60, 5, 2, 0)) rfl
set_option maxRecDepth 10000 in
theorem g_73_60 : GO x d 73 Q 60 [v0, v1, v2, v3, v4, v5, v6, some (.inr (.inr w))] st I J = GO x d 73 Q 62 [v0, v1, v2, v3, v4, v5, v6, some (.inr (.inr w))] (.inr (.inr w) :: st) I J := ge (A := (2, 62, 7, 0, 0)) rfl
set_option maxRecDepth 10000 in
theorem g_73_62 : GO x d 73 Q 62 [v0, v1, v2, v3, v4, v5, v6, v7] (.inr (.inr (.inl r)) :: st) I J = (okO r 5 ∧ GO x d 73 Q 65 [v0, v1, v2, v3, v4, v5, v6, v7] (.inl (I r 2) :: st) I J) := ge (A := (37, 65, 5, 2, 0)) rfl
set_option maxRecDepth 10000 in
theorem g_73_65 : GO x d 73 Q 65 [v0, v1, v2, v3, v4, v5, v6, v7] (.inl b :: .inl a :: st) I J = (inR a ∧ inR b ∧ if a = b then GO x d 73 Q 74 [v0, v1, v2, v3, v4, v5, v6, v7] st I J else GO x d 73 Q 68 [v0, v1, v2, v3, v4, v5, v6, v7] st I J) := (ge (A := (34, 68, 74, 0, 0)) rfl).trans (gic (p := a = b) inferInstance)
set_option maxRecDepth 10000 in
theorem g_73_68 : GO x d 73 Q 68 [some (.inr (.inr w)), v1, v2, v3, v4, v5, v6, v7] st I J = GO x d 73 Q 69 [some (.inr (.inr w)), v1, v2, v3, v4, v5, v6, v7] (.inr (.inr w) :: st) I J := ge (A := (2, 69, 0, 0, 0)) rfl
set_option maxRecDepth 10000 in
theorem g_73_69 : GO x d 73 Q 69 [v0, v1, v2, v3, v4, v5, v6, v7] st I J = GO x d 73 Q 70 [v0, v1, v2, v3, v4, v5, v6, v7] (.inl (5) :: st) I J := ge (A := (0, 70, 0, 0, 5)) rfl
set_option maxRecDepth 10000 in
theorem g_73_70 : GO x d 73 Q 70 [v0, v1, v2, v3, v4, v5, v6, v7] [.inl i0, .inr (.inr (.inl r))] I J = (okO r 9 ∧ EX x d 76 [.inr (.inr (.inl r)), .inl i0] I J (fun r1 I1 J1 => GO x d 73 Q 73 [v0, v1, v2, v3, v4, v5, v6, v7] (r1.toList ++ []) I1 J1)) := (ge (A := (53, 73, 76, 1, 0)) rfl).trans (gtrue (Nat.le_of_ble_eq_true rfl))
set_option maxRecDepth 10000 in
theorem g_73_73 : GO x d 73 Q 73 [v0, v1, v2, v3, v4, v5, v6, v7] [.inl a] I J = Q (some (.inl a)) I J := ge (A := (55, 74, 0, 0, 0)) rfl
set_option maxRecDepth 10000 in
theorem g_73_74 : GO x d 73 Q 74 [v0, v1, v2, v3, v4, v5, some (.inr (.inr w)), v7] st I J = GO x d 73 Q 76 [v0, v1, v2, v3, v4, v5, some (.inr (.inr w)), v7] (.inr (.inr w) :: st) I J := ge (A := (2, 76, 6, 0, 0)) rfl
set_option maxRecDepth 10000 in
theorem g_73_76 : GO x d 73 Q 76 [v0, v1, some (.inl a), v3, v4, v5, v6, v7] st I J = GO x d 73 Q 77 [v0, v1, some (.inl a), v3, v4, v5, v6, v7] (.inl a :: st) I J := ge (A := (1, 77, 2, 0, 0)) rfl
set_option maxRecDepth 10000 in
theorem g_73_77 : GO x d 73 Q 77 [v0, v1, v2, v3, v4, some (.inl a), v6, v7] st I J = GO x d 73 Q 79 [v0, v1, v2, v3, v4, some (.inl a), v6, v7] (.inl a :: st) I J := ge (A := (1, 79, 5, 0, 0)) rfl
set_option maxRecDepth 10000 in
theorem g_73_79 : GO x d 73 Q 79 [v0, v1, v2, v3, v4, v5, v6, v7] [.inl i0, .inl i1, .inr (.inr (.inl r))] I J = (okO r 5 ∧ EX x d 45 [.inr (.inr (.inl r)), .inl i1, .inl i0] I J (fun r1 I1 J1 => GO x d 73 Q 82 [v0, v1, v2, v3, v4, v5, v6, v7] (r1.toList ++ []) I1 J1)) := (ge (A := (53, 82, 45, 2, 0)) rfl).trans (gtrue (Nat.le_of_ble_eq_true rfl))
set_option maxRecDepth 10000 in
theorem g_73_82 : GO x d 73 Q 82 [v0, v1, v2, v3, v4, v5, v6, v7] (.inl a :: st) I J = (inR a ∧ if a = 0 then GO x d 73 Q 97 [v0, v1, v2, v3, v4, v5, v6, v7] st I J else GO x d 73 Q 85 [v0, v1, v2, v3, v4, v5, v6, v7] st I J) := (ge (A := (33, 85, 97, 0, 0)) rfl).trans (gif (p := a = 0) inferInstance)
set_option maxRecDepth 10000 in
theorem g_73_85 : GO x d 73 Q 85 [v0, v1, v2, v3, v4, v5, v6, some (.inr (.inr w))] st I J = GO x d 73 Q 87 [v0, v1, v2, v3, v4, v5, v6, some (.inr (.inr w))] (.inr (.inr w) :: st) I J := ge (A := (2, 87, 7, 0, 0)) rfl
set_option maxRecDepth 10000 in
theorem g_73_87 : GO x d 73 Q 87 [v0, v1, v2, v3, some (.inl a), v5, v6, v7] st I J = GO x d 73 Q 89 [v0, v1, v2, v3, some (.inl a), v5, v6, v7] (.inl a :: st) I J := ge (A := (1, 89, 4, 0, 0)) rfl
set_option maxRecDepth 10000 in
theorem g_73_89 : GO x d 73 Q 89 [v0, v1, v2, v3, v4, some (.inl a), v6, v7] st I J = GO x d 73 Q 91 [v0, v1, v2, v3, v4, some (.inl a), v6, v7] (.inl a :: st) I J := ge (A := (1, 91, 5, 0, 0)) rfl
set_option maxRecDepth 10000 in
theorem g_73_91 : GO x d 73 Q 91 [v0, v1, v2, v3, v4, v5, v6, v7] [.inl i0, .inl i1, .inr (.inr (.inl r))] I J = (okO r 5 ∧ EX x d 45 [.inr (.inr (.inl r)), .inl i1, .inl i0] I J (fun r1 I1 J1 => GO x d 73 Q 94 [v0, v1, v2, v3, v4, v5, v6, v7] (r1.toList ++ []) I1 J1)) := (ge (A := (53, 94, 45, 2, 0)) rfl).trans (gtrue (Nat.le_of_ble_eq_true rfl))
set_option maxRecDepth 10000 in
theorem g_73_94 : GO x d 73 Q 94 [v0, v1, v2, v3, v4, v5, v6, v7] (.inl a :: st) I J = (inR a ∧ if a = 0 then GO x d 73 Q 97 [v0, v1, v2, v3, v4, v5, v6, v7] st I J else GO x d 73 Q 103 [v0, v1, v2, v3, v4, v5, v6, v7] st I J) := (ge (A := (33, 97, 103, 1, 0)) rfl).trans (gifn (p := a = 0) inferInstance)
set_option maxRecDepth 10000 in
theorem g_73_97 : GO x d 73 Q 97 [some (.inr (.inr w)), v1, v2, v3, v4, v5, v6, v7] st I J = GO x d 73 Q 98 [some (.inr (.inr w)), v1, v2, v3, v4, v5, v6, v7] (.inr (.inr w) :: st) I J := ge (A := (2, 98, 0, 0, 0)) rfl
set_option maxRecDepth 10000 in
theorem g_73_98 : GO x d 73 Q 98 [v0, v1, v2, v3, v4, v5, v6, v7] st I J = GO x d 73 Q 99 [v0, v1, v2, v3, v4, v5, v6, v7] (.inl (2) :: st) I J := ge (A := (0, 99, 0, 0, 2)) rfl
set_option maxRecDepth 10000 in
theorem g_73_99 : GO x d 73 Q 99 [v0, v1, v2, v3, v4, v5, v6, v7] [.inl i0, .inr (.inr (.inl r))] I J = (okO r 9 ∧ EX x d 76 [.inr (.inr (.inl r)), .inl i0] I J (fun r1 I1 J1 => GO x d 73 Q 102 [v0, v1, v2, v3, v4, v5, v6, v7] (r1.toList ++ []) I1 J1)) := (ge (A := (53, 102, 76, 1, 0)) rfl).trans (gtrue (Nat.le_of_ble_eq_true rfl))
set_option maxRecDepth 10000 in
theorem g_73_102 : GO x d 73 Q 102 [v0, v1, v2, v3, v4, v5, v6, v7] [.inl a] I J = Q (some (.inl a)) I J := ge (A := (55, 103, 0, 0, 0)) rfl
set_option maxRecDepth 10000 in
theorem g_73_103 : GO x d 73 Q 103 [v0, v1, v2, v3, v4, v5, some (.inr (.inr w)), v7] st I J = GO x d 73 Q 105 [v0, v1, v2, v3, v4, v5, some (.inr (.inr w)), v7] (.inr (.inr w) :: st) I J := ge (A := (2, 105, 6, 0, 0)) rfl
set_option maxRecDepth 10000 in
theorem g_73_105 : GO x d 73 Q 105 [v0, v1, v2, v3, v4, v5, v6, v7] (.inr (.inr (.inl r)) :: st) I J = (okF r 5 0 ∧ GO x d 73 Q 108 [v0, v1, v2, v3, v4, v5, v6, v7] (.inr (.inr (.inl (rfN r 0))) :: st) I J) := (ge (A := (39, 108, 5, 0, 0)) rfl).trans (gref (f := fun q => GO x d 73 Q 108 [v0, v1, v2, v3, v4, v5, v6, v7] (.inr (.inr (.inl q)) :: st) I J))
set_option maxRecDepth 10000 in
theorem g_73_108 : GO x d 73 Q 108 [v0, v1, some (.inl a), v3, v4, v5, v6, v7] st I J = GO x d 73 Q 109 [v0, v1, some (.inl a), v3, v4, v5, v6, v7] (.inl a :: st) I J := ge (A := (1, 109, 2, 0, 0)) rfl
set_option maxRecDepth 10000 in
theorem g_73_109 : GO x d 73 Q 109 [v0, v1, v2, v3, v4, v5, v6, some (.inr (.inr w))] st I J = GO x d 73 Q 111 [v0, v1, v2, v3, v4, v5, v6, some (.inr (.inr w))] (.inr (.inr w) :: st) I J := ge (A := (2, 111, 7, 0, 0)) rfl
set_option maxRecDepth 10000 in
theorem g_73_111 : GO x d 73 Q 111 [v0, v1, v2, v3, v4, v5, v6, v7] (.inr (.inr (.inl r)) :: st) I J = (okF r 5 0 ∧ GO x d 73 Q 114 [v0, v1, v2, v3, v4, v5, v6, v7] (.inr (.inr (.inl (rfN r 0))) :: st) I J) := (ge (A := (39, 114, 5, 0, 0)) rfl).trans (gref (f := fun q => GO x d 73 Q 114 [v0, v1, v2, v3, v4, v5, v6, v7] (.inr (.inr (.inl q)) :: st) I J))
set_option maxRecDepth 10000 in
theorem g_73_114 : GO x d 73 Q 114 [v0, v1, v2, v3, some (.inl a), v5, v6, v7] st I J = GO x d 73 Q 116 [v0, v1, v2, v3, some (.inl a), v5, v6, v7] (.inl a :: st) I J := ge (A := (1, 116, 4, 0, 0)) rfl
set_option maxRecDepth 10000 in
theorem g_73_116 : GO x d 73 Q 116 [v0, v1, v2, v3, v4, some (.inl a), v6, v7] st I J = GO x d 73 Q 118 [v0, v1, v2, v3, v4, some (.inl a), v6, v7] (.inl a :: st) I J := ge (A := (1, 118, 5, 0, 0)) rfl
set_option maxRecDepth 10000 in
theorem g_73_118 : GO x d 73 Q 118 [v0, v1, v2, v3, v4, v5, v6, v7] (.inl e :: .inl b :: .inr (.inr (.inl q)) :: .inl a :: .inr (.inr (.inl r)) :: st) I J = (catS st ≤ 8 ∧ okA r 20 ∧ okA q 20 ∧ 0 ≤ e ∧ 0 ≤ a ∧ 0 ≤ b ∧ a + e ≤ lnN r ∧ b + e ≤ lnN q ∧ GO x d 73 Q 121 [v0, v1, v2, v3, v4, v5, v6, v7] st (cpI I q b e r a) J) := ge (A := (54, 121, 0, 0, 0)) rfl
set_option maxRecDepth 10000 in
theorem g_73_121 : GO x d 73 Q 121 [some (.inr (.inr w)), v1, v2, v3, v4, v5, v6, v7] st I J = GO x d 73 Q 122 [some (.inr (.inr w)), v1, v2, v3, v4, v5, v6, v7] (.inr (.inr w) :: st) I J := ge (A := (2, 122, 0, 0, 0)) rfl
set_option maxRecDepth 10000 in
theorem g_73_122 : GO x d 73 Q 122 [v0, v1, v2, v3, v4, some (.inl a), v6, v7] st I J = GO x d 73 Q 124 [v0, v1, v2, v3, v4, some (.inl a), v6, v7] (.inl a :: st) I J := ge (A := (1, 124, 5, 0, 0)) rfl
set_option maxRecDepth 10000 in
theorem g_73_124 : GO x d 73 Q 124 [v0, v1, v2, v3, v4, v5, v6, v7] [.inl i0, .inr (.inr (.inl r))] I J = (okO r 9 ∧ EX x d 77 [.inr (.inr (.inl r)), .inl i0] I J (fun r1 I1 J1 => GO x d 73 Q 127 [v0, v1, v2, v3, v4, v5, v6, v7] (r1.toList ++ []) I1 J1)) := (ge (A := (53, 127, 77, 1, 0)) rfl).trans (gtrue (Nat.le_of_ble_eq_true rfl))
set_option maxRecDepth 10000 in
theorem g_73_127 : GO x d 73 Q 127 [v0, v1, v2, v3, v4, v5, v6, v7] [.inl a] I J = Q (some (.inl a)) I J := ge (A := (55, 128, 0, 0, 0)) rfl
set_option maxRecDepth 10000 in
theorem e_73 : EX x (d + 1) 73 [.inr (.inr w0), .inl i0, .inl i1, .inl i2, .inl i3, .inl i4] I J Q = GO x d 73 Q 0 [some (.inr (.inr w0)), some (.inl i0), some (.inl i1), some (.inl i2), some (.inl i3), some (.inl i4), none, none] [] I J := ex_eq (Nat.le_of_ble_eq_true rfl) rfl (Nat.le_of_ble_eq_true rfl) rfl
set_option maxRecDepth 10000 in
theorem g_74_0 : GO x d 74 Q 0 [v0, some (.inl a), v2] st I J = GO x d 74 Q 1 [v0, some (.inl a), v2] (.inl a :: st) I J := ge (A := (1, 1, 1, 0, 0)) rfl
set_option maxRecDepth 10000 in
theorem g_74_1 : GO x d 74 Q 1 [v0, v1, v2] [.inl i0] I J = EX x d 75 [.inl i0] I J (fun r1 I1 J1 => GO x d 74 Q 4 [v0, v1, v2] (r1.toList ++ []) I1 J1) := (ge (A := (52, 4, 75, 1, 0)) rfl).trans (gtrue2 (Nat.le_of_ble_eq_true rfl) (Nat.le_of_ble_eq_true rfl))
set_option maxRecDepth 10000 in
theorem g_74_4 : GO x d 74 Q 4 [v0, v1, v2] (.inl a :: st) I J = (inR a ∧ if a = 0 then GO x d 74 Q 7 [v0, v1, v2] st I J else GO x d 74 Q 10 [v0, v1, v2] st I J) := (ge (A := (33, 7, 10, 1, 0)) rfl).trans (gifn (p := a = 0) inferInstance)
set_option maxRecDepth 10000 in
theorem g_74_7 : GO x d 74 Q 7 [v0, v1, v2] st I J = GO x d 74 Q 9 [v0, v1, v2] (.inl (-1000001) :: st) I J := ge (A := (0, 9, 0, 0, -1000001)) rfl
set_option maxRecDepth 10000 in
theorem g_74_9 : GO x d 74 Q 9 [v0, v1, v2] [.inl a] I J = Q (some (.inl a)) I J := ge (A := (55, 10, 0, 0, 0)) rfl
set_option maxRecDepth 10000 in
theorem g_74_10 : GO x d 74 Q 10 [some (.inr (.inr w)), v1, v2] st I J = GO x d 74 Q 11 [some (.inr (.inr w)), v1, v2] (.inr (.inr w) :: st) I J := ge (A := (2, 11, 0, 0, 0)) rfl
set_option maxRecDepth 10000 in
theorem g_74_11 : GO x d 74 Q 11 [v0, v1, v2] (.inr (.inr (.inl r)) :: st) I J = (okF r 9 0 ∧ GO x d 74 Q 14 [v0, v1, v2] (.inr (.inr (.inl (rfN r 0))) :: st) I J) := (ge (A := (39, 14, 9, 0, 0)) rfl).trans (gref (f := fun q => GO x d 74 Q 14 [v0, v1, v2] (.inr (.inr (.inl q)) :: st) I J))
set_option maxRecDepth 10000 in
theorem g_74_14 : GO x d 74 Q 14 [v0, some (.inl a), v2] st I J = GO x d 74 Q 15 [v0, some (.inl a), v2] (.inl a :: st) I J := ge (A := (1, 15, 1, 0, 0)) rfl
set_option maxRecDepth 10000 in
theorem g_74_15 : GO x d 74 Q 15 [v0, v1, v2] (.inl a :: .inr (.inr (.inl r)) :: st) I J = ((23 ≤ clS S0 r ∧ clS S0 r ≤ 25 ∧ (elS S0 r a.toNat).isSome = true) ∧ 0 ≤ a ∧ a < lnN r ∧ GO x d 74 Q 16 [v0, v1, v2] (.inr (.inr (.inl (elN r a))) :: st) I J) := (ge (A := (50, 16, 0, 0, 0)) rfl).trans (gel2 (f := fun q => GO x d 74 Q 16 [v0, v1, v2] (.inr (.inr (.inl q)) :: st) I J))
set_option maxRecDepth 10000 in
theorem g_74_16 : GO x d 74 Q 16 [v0, v1, v2] (.inr (.inr w) :: st) I J = (nlO (some v1) = true ∧ GO x d 74 Q 17 [v0, v1, some (.inr (.inr w))] st I J) := (ge (A := (5, 17, 2, 0, 0)) rfl).trans (gst (Nat.le_of_ble_eq_true rfl) _)
set_option maxRecDepth 10000 in
theorem g_74_17 : GO x d 74 Q 17 [v0, v1, some (.inr (.inr w))] st I J = GO x d 74 Q 18 [v0, v1, some (.inr (.inr w))] (.inr (.inr w) :: st) I J := ge (A := (2, 18, 2, 0, 0)) rfl
set_option maxRecDepth 10000 in
theorem g_74_18 : GO x d 74 Q 18 [v0, v1, v2] (.inr (.inr (.inl r)) :: st) I J = (okO r 5 ∧ GO x d 74 Q 21 [v0, v1, v2] (.inl (I r 1) :: st) I J) := ge (A := (37, 21, 5, 1, 0)) rfl
set_option maxRecDepth 10000 in
theorem g_74_21 : GO x d 74 Q 21 [v0, v1, v2] (.inl a :: st) I J = (inR a ∧ if a = 0 then GO x d 74 Q 24 [v0, v1, v2] st I J else GO x d 74 Q 30 [v0, v1, v2] st I J) := (ge (A := (33, 24, 30, 1, 0)) rfl).trans (gifn (p := a = 0) inferInstance)
set_option maxRecDepth 10000 in
theorem g_74_24 : GO x d 74 Q 24 [some (.inr (.inr w)), v1, v2] st I J = GO x d 74 Q 25 [some (.inr (.inr w)), v1, v2] (.inr (.inr w) :: st) I J := ge (A := (2, 25, 0, 0, 0)) rfl
set_option maxRecDepth 10000 in
theorem g_74_25 : GO x d 74 Q 25 [v0, v1, v2] st I J = GO x d 74 Q 26 [v0, v1, v2] (.inl (1) :: st) I J := ge (A := (0, 26, 0, 0, 1)) rfl
set_option maxRecDepth 10000 in
theorem g_74_26 : GO x d 74 Q 26 [v0, v1, v2] [.inl i0, .inr (.inr (.inl r))] I J = (okO r 9 ∧ EX x d 76 [.inr (.inr (.inl r)), .inl i0] I J (fun r1 I1 J1 => GO x d 74 Q 29 [v0, v1, v2] (r1.toList ++ []) I1 J1)) := (ge (A := (53, 29, 76, 1, 0)) rfl).trans (gtrue (Nat.le_of_ble_eq_true rfl))
set_option maxRecDepth 10000 in
theorem g_74_29 : GO x d 74 Q 29 [v0, v1, v2] [.inl a] I J = Q (some (.inl a)) I J := ge (A := (55, 30, 0, 0, 0)) rfl
set_option maxRecDepth 10000 in
theorem g_74_30 : GO x d 74 Q 30 [v0, v1, some (.inr (.inr w))] st I J = GO x d 74 Q 31 [v0, v1, some (.inr (.inr w))] (.inr (.inr w) :: st) I J := ge (A := (2, 31, 2, 0, 0)) rfl
set_option maxRecDepth 10000 in
theorem g_74_31 : GO x d 74 Q 31 [v0, v1, v2] st I J = GO x d 74 Q 32 [v0, v1, v2] (.inl (0) :: st) I J := ge (A := (0, 32, 0, 0, 0)) rfl
set_option maxRecDepth 10000 in
theorem g_74_32 : GO x d 74 Q 32 [v0, v1, v2] (.inl a :: .inr (.inr (.inl r)) :: st) I J = (okO r 5 ∧ ret01 a ∧ GO x d 74 Q 35 [v0, v1, v2] st (up I r 1 a) J) := ge (A := (41, 35, 5, 1, 0)) rfl
set_option maxRecDepth 10000 in
theorem g_74_35 : GO x d 74 Q 35 [some (.inr (.inr w)), v1, v2] st I J = GO x d 74 Q 36 [some (.inr (.inr w)), v1, v2] (.inr (.inr w) :: st) I J := ge (A := (2, 36, 0, 0, 0)) rfl
set_option maxRecDepth 10000 in
theorem g_74_36 : GO x d 74 Q 36 [v0, v1, some (.inr (.inr w))] st I J = GO x d 74 Q 37 [v0, v1, some (.inr (.inr w))] (.inr (.inr w) :: st) I J := ge (A := (2, 37, 2, 0, 0)) rfl
set_option maxRecDepth 10000 in
theorem g_74_37 : GO x d 74 Q 37 [v0, v1, v2] (.inr (.inr (.inl r)) :: st) I J = (okO r 5 ∧ GO x d 74 Q 40 [v0, v1, v2] (.inl (I r 3) :: st) I J) := ge (A := (37, 40, 5, 3, 0)) rfl
set_option maxRecDepth 10000 in
theorem g_74_40 : GO x d 74 Q 40 [v0, v1, v2] [.inl i0, .inr (.inr (.inl r))] I J = (okO r 9 ∧ EX x d 77 [.inr (.inr (.inl r)), .inl i0] I J (fun r1 I1 J1 => GO x d 74 Q 43 [v0, v1, v2] (r1.toList ++ []) I1 J1)) := (ge (A := (53, 43, 77, 1, 0)) rfl).trans (gtrue (Nat.le_of_ble_eq_true rfl))
set_option maxRecDepth 10000 in
theorem g_74_43 : GO x d 74 Q 43 [v0, v1, v2] [.inl a] I J = Q (some (.inl a)) I J := ge (A := (55, 44, 0, 0, 0)) rfl
set_option maxRecDepth 10000 in
theorem e_74 : EX x (d + 1) 74 [.inr (.inr w0), .inl i0] I J Q = GO x d 74 Q 0 [some (.inr (.inr w0)), some (.inl i0), none] [] I J := ex_eq (Nat.le_of_ble_eq_true rfl) rfl (Nat.le_of_ble_eq_true rfl) rfl
set_option maxRecDepth 10000 in
theorem g_75_0 : GO x d 75 Q 0 [some (.inl a)] st I J = GO x d 75 Q 1 [some (.inl a)] (.inl a :: st) I J := ge (A := (1, 1, 0, 0, 0)) rfl
set_option maxRecDepth 10000 in
theorem g_75_1 : GO x d 75 Q 1 [v0] (.inl a :: st) I J = (inR a ∧ if a < 0 then GO x d 75 Q 14 [v0] st I J else GO x d 75 Q 4 [v0] st I J) := (ge (A := (33, 4, 14, 2, 0)) rfl).trans (gif (p := a < 0) inferInstance)
set_option maxRecDepth 10000 in
theorem g_75_4 : GO x d 75 Q 4 [some (.inl a)] st I J = GO x d 75 Q 5 [some (.inl a)] (.inl a :: st) I J := ge (A := (1, 5, 0, 0, 0)) rfl
set_option maxRecDepth 10000 in
theorem g_75_5 : GO x d 75 Q 5 [v0] st I J = GO x d 75 Q 7 [v0] (.inl (8) :: st) I J := ge (A := (0, 7, 0, 0, 8)) rfl
set_option maxRecDepth 10000 in
theorem g_75_7 : GO x d 75 Q 7 [v0] (.inl b :: .inl a :: st) I J = (inR a ∧ inR b ∧ if a < b then GO x d 75 Q 10 [v0] st I J else GO x d 75 Q 14 [v0] st I J) := (ge (A := (34, 10, 14, 3, 0)) rfl).trans (ggec)
set_option maxRecDepth 10000 in
theorem g_75_10 : GO x d 75 Q 10 [v0] st I J = GO x d 75 Q 11 [v0] (.inl (1) :: st) I J := ge (A := (0, 11, 0, 0, 1)) rfl
set_option maxRecDepth 10000 in
theorem g_75_11 : GO x d 75 Q 11 [v0] st I J = GO x d 75 Q 15 [v0] st I J := ge (A := (35, 14, 15, 0, 0)) rfl
set_option maxRecDepth 10000 in
theorem g_75_14 : GO x d 75 Q 14 [v0] st I J = GO x d 75 Q 15 [v0] (.inl (0) :: st) I J := ge (A := (0, 15, 0, 0, 0)) rfl
set_option maxRecDepth 10000 in
theorem g_75_15 : GO x d 75 Q 15 [v0] [.inl a] I J = (ret01 a ∧ Q (some (.inl a)) I J) := ge (A := (56, 16, 0, 0, 0)) rfl
set_option maxRecDepth 10000 in
theorem e_75 : EX x (d + 1) 75 [.inl i0] I J Q = GO x d 75 Q 0 [some (.inl i0)] [] I J := ex_eq (Nat.le_of_ble_eq_true rfl) rfl (Nat.le_of_ble_eq_true rfl) rfl
set_option maxRecDepth 10000 in
theorem g_76_0 : GO x d 76 Q 0 [some (.inr (.inr w)), v1] st I J = GO x d 76 Q 1 [some (.inr (.inr w)), v1] (.inr (.inr w) :: st) I J := ge (A := (2, 1, 0, 0, 0)) rfl
set_option maxRecDepth 10000 in
theorem g_76_1 : GO x d 76 Q 1 [v0, some (.inl a)] st I J = GO x d 76 Q 2 [v0, some (.inl a)] (.inl a :: st) I J := ge (A := (1, 2, 1, 0, 0)) rfl
set_option maxRecDepth 10000 in
theorem g_76_2 : GO x d 76 Q 2 [v0, v1] (.inl a :: .inr (.inr (.inl r)) :: st) I J = (okO r 9 ∧ GO x d 76 Q 5 [v0, v1] st (up I r 10 a) J) := ge (A := (40, 5, 9, 10, 0)) rfl
set_option maxRecDepth 10000 in
theorem g_76_5 : GO x d 76 Q 5 [v0, v1] st I J = GO x d 76 Q 7 [v0, v1] (.inl (-1000010) :: st) I J := ge (A := (0, 7, 0, 0, -1000010)) rfl
set_option maxRecDepth 10000 in
theorem g_76_7 : GO x d 76 Q 7 [v0, some (.inl a)] st I J = GO x d 76 Q 8 [v0, some (.inl a)] (.inl a :: st) I J := ge (A := (1, 8, 1, 0, 0)) rfl
set_option maxRecDepth 10000 in
theorem g_76_8 : GO x d 76 Q 8 [v0, v1] (.inl b :: .inl a :: st) I J = GO x d 76 Q 9 [v0, v1] (.inl (a - b) :: st) I J := ge (A := (9, 9, 0, 0, 0)) rfl
set_option maxRecDepth 10000 in
theorem g_76_9 : GO x d 76 Q 9 [v0, v1] [.inl a] I J = Q (some (.inl a)) I J := ge (A := (55, 10, 0, 0, 0)) rfl
set_option maxRecDepth 10000 in
theorem e_76 : EX x (d + 1) 76 [.inr (.inr w0), .inl i0] I J Q = GO x d 76 Q 0 [some (.inr (.inr w0)), some (.inl i0)] [] I J := ex_eq (Nat.le_of_ble_eq_true rfl) rfl (Nat.le_of_ble_eq_true rfl) rfl
set_option maxRecDepth 10000 in
theorem g_77_0 : GO x d 77 Q 0 [some (.inr (.inr w)), v1] st I J = GO x d 77 Q 1 [some (.inr (.inr w)), v1] (.inr (.inr w) :: st) I J := ge (A := (2, 1, 0, 0, 0)) rfl
set_option maxRecDepth 10000 in
theorem g_77_1 : GO x d 77 Q 1 [v0, v1] st I J = GO x d 77 Q 2 [v0, v1] (.inl (0) :: st) I J := ge (A := (0, 2, 0, 0, 0)) rfl
set_option maxRecDepth 10000 in
theorem g_77_2 : GO x d 77 Q 2 [v0, v1] (.inl a :: .inr (.inr (.inl r)) :: st) I J = (okO r 9 ∧ GO x d 77 Q 5 [v0, v1] st (up I r 10 a) J) := ge (A := (40, 5, 9, 10, 0)) rfl
set_option maxRecDepth 10000 in
theorem g_77_5 : GO x d 77 Q 5 [v0, some (.inl a)] st I J = GO x d 77 Q 6 [v0, some (.inl a)] (.inl a :: st) I J := ge (A := (1, 6, 1, 0, 0)) rfl
set_option maxRecDepth 10000 in
theorem g_77_6 : GO x d 77 Q 6 [v0, v1] [.inl a] I J = Q (some (.inl a)) I J := ge (A := (55, 7, 0, 0, 0)) rfl
set_option maxRecDepth 10000 in
theorem e_77 : EX x (d + 1) 77 [.inr (.inr w0), .inl i0] I J Q = GO x d 77 Q 0 [some (.inr (.inr w0)), some (.inl i0)] [] I J := ex_eq (Nat.le_of_ble_eq_true rfl) rfl (Nat.le_of_ble_eq_true rfl) rfl
set_option maxRecDepth 10000 in
theorem g_78_0 : GO x d 78 Q 0 [v0, some (.inl a)] st I J = GO x d 78 Q 1 [v0, some (.inl a)] (.inl a :: st) I J := ge (A := (1, 1, 1, 0, 0)) rfl
set_option maxRecDepth 10000 in
theorem g_78_1 : GO x d 78 Q 1 [v0, v1] (.inl a :: st) I J = (inR a ∧ if a < 0 then GO x d 78 Q 11 [v0, v1] st I J else GO x d 78 Q 4 [v0, v1] st I J) := (ge (A := (33, 4, 11, 2, 0)) rfl).trans (gif (p := a < 0) inferInstance)
set_option maxRecDepth 10000 in
theorem g_78_4 : GO x d 78 Q 4 [v0, some (.inl a)] st I J = GO x d 78 Q 5 [v0, some (.inl a)] (.inl a :: st) I J := ge (A := (1, 5, 1, 0, 0)) rfl
set_option maxRecDepth 10000 in
theorem g_78_5 : GO x d 78 Q 5 [v0, v1] st I J = GO x d 78 Q 8 [v0, v1] (.inl (255) :: st) I J := ge (A := (0, 8, 0, 0, 255)) rfl
set_option maxRecDepth 10000 in
theorem g_78_8 : GO x d 78 Q 8 [v0, v1] (.inl b :: .inl a :: st) I J = (inR a ∧ inR b ∧ if b < a then GO x d 78 Q 11 [v0, v1] st I J else GO x d 78 Q 14 [v0, v1] st I J) := (ge (A := (34, 11, 14, 5, 0)) rfl).trans (ggec)
set_option maxRecDepth 10000 in
theorem g_78_11 : GO x d 78 Q 11 [v0, v1] st I J = GO x d 78 Q 13 [v0, v1] (.inl (-1000001) :: st) I J := ge (A := (0, 13, 0, 0, -1000001)) rfl
set_option maxRecDepth 10000 in
theorem g_78_13 : GO x d 78 Q 13 [v0, v1] [.inl a] I J = Q (some (.inl a)) I J := ge (A := (55, 14, 0, 0, 0)) rfl
set_option maxRecDepth 10000 in
theorem g_78_14 : GO x d 78 Q 14 [some (.inr (.inr w)), v1] st I J = GO x d 78 Q 15 [some (.inr (.inr w)), v1] (.inr (.inr w) :: st) I J := ge (A := (2, 15, 0, 0, 0)) rfl
set_option maxRecDepth 10000 in
theorem g_78_15 : GO x d 78 Q 15 [v0, v1] (.inr (.inr (.inl r)) :: st) I J = (okF r 9 4 ∧ GO x d 78 Q 18 [v0, v1] (.inr (.inr (.inl (rfN r 4))) :: st) I J) := (ge (A := (39, 18, 9, 4, 0)) rfl).trans (gref (f := fun q => GO x d 78 Q 18 [v0, v1] (.inr (.inr (.inl q)) :: st) I J))
set_option maxRecDepth 10000 in
theorem g_78_18 : GO x d 78 Q 18 [v0, some (.inl a)] st I J = GO x d 78 Q 19 [v0, some (.inl a)] (.inl a :: st) I J := ge (A := (1, 19, 1, 0, 0)) rfl
set_option maxRecDepth 10000 in
theorem g_78_19 : GO x d 78 Q 19 [v0, v1] [.inl i0, .inr (.inr (.inl r))] I J = (okO r 7 ∧ EX x d 55 [.inr (.inr (.inl r)), .inl i0] I J (fun r1 I1 J1 => GO x d 78 Q 22 [v0, v1] (r1.toList ++ []) I1 J1)) := (ge (A := (53, 22, 55, 1, 0)) rfl).trans (gtrue (Nat.le_of_ble_eq_true rfl))
set_option maxRecDepth 10000 in
theorem g_78_22 : GO x d 78 Q 22 [v0, v1] (.inl a :: st) I J = (inR a ∧ if a = 0 then GO x d 78 Q 35 [v0, v1] st I J else GO x d 78 Q 25 [v0, v1] st I J) := (ge (A := (33, 25, 35, 0, 0)) rfl).trans (gif (p := a = 0) inferInstance)
set_option maxRecDepth 10000 in
theorem g_78_25 : GO x d 78 Q 25 [some (.inr (.inr w)), v1] st I J = GO x d 78 Q 26 [some (.inr (.inr w)), v1] (.inr (.inr w) :: st) I J := ge (A := (2, 26, 0, 0, 0)) rfl
set_option maxRecDepth 10000 in
theorem g_78_26 : GO x d 78 Q 26 [v0, v1] (.inr (.inr (.inl r)) :: st) I J = (okF r 9 4 ∧ GO x d 78 Q 29 [v0, v1] (.inr (.inr (.inl (rfN r 4))) :: st) I J) := (ge (A := (39, 29, 9, 4, 0)) rfl).trans (gref (f := fun q => GO x d 78 Q 29 [v0, v1] (.inr (.inr (.inl q)) :: st) I J))
set_option maxRecDepth 10000 in
theorem g_78_29 : GO x d 78 Q 29 [v0, v1] (.inr (.inr (.inl r)) :: st) I J = (okO r 7 ∧ GO x d 78 Q 32 [v0, v1] (.inl (I r 3) :: st) I J) := ge (A := (37, 32, 7, 3, 0)) rfl
set_option maxRecDepth 10000 in
theorem g_78_32 : GO x d 78 Q 32 [v0, v1] st I J = GO x d 78 Q 37 [v0, v1] st I J := ge (A := (35, 35, 37, 0, 0)) rfl
set_option maxRecDepth 10000 in
theorem g_78_35 : GO x d 78 Q 35 [v0, v1] st I J = GO x d 78 Q 37 [v0, v1] (.inl (-1000003) :: st) I J := ge (A := (0, 37, 0, 0, -1000003)) rfl
set_option maxRecDepth 10000 in
theorem g_78_37 : GO x d 78 Q 37 [v0, v1] [.inl a] I J = Q (some (.inl a)) I J := ge (A := (55, 38, 0, 0, 0)) rfl
set_option maxRecDepth 10000 in
theorem e_78 : EX x (d + 1) 78 [.inr (.inr w0), .inl i0] I J Q = GO x d 78 Q 0 [some (.inr (.inr w0)), some (.inl i0)] [] I J := ex_eq (Nat.le_of_ble_eq_true rfl) rfl (Nat.le_of_ble_eq_true rfl) rfl
set_option maxRecDepth 10000 in
theorem g_79_0 : GO x d 79 Q 0 [some (.inr (.inr w)), v1] st I J = GO x d 79 Q 1 [some (.inr (.inr w)), v1] (.inr (.inr w) :: st) I J := ge (A := (2, 1, 0, 0, 0)) rfl
set_option maxRecDepth 10000 in
theorem g_79_1 : GO x d 79 Q 1 [v0, v1] (.inr (.inr (.inl r)) :: st) I J = (okF r 9 4 ∧ GO x d 79 Q 4 [v0, v1] (.inr (.inr (.inl (rfN r 4))) :: st) I J) := (ge (A := (39, 4, 9, 4, 0)) rfl).trans (gref (f := fun q => GO x d 79 Q 4 [v0, v1] (.inr (.inr (.inl q)) :: st) I J))
set_option maxRecDepth 10000 in
theorem g_79_4 : GO x d 79 Q 4 [some (.inr (.inr w)), v1] st I J = GO x d 79 Q 5 [some (.inr (.inr w)), v1] (.inr (.inr w) :: st) I J := ge (A := (2, 5, 0, 0, 0)) rfl
set_option maxRecDepth 10000 in
theorem g_79_5 : GO x d 79 Q 5 [v0, v1] (.inr (.inr (.inl r)) :: st) I J = (okF r 9 2 ∧ GO x d 79 Q 8 [v0, v1] (.inr (.inr (.inl (rfN r 2))) :: st) I J) := (ge (A := (39, 8, 9, 2, 0)) rfl).trans (gref (f := fun q => GO x d 79 Q 8 [v0, v1] (.inr (.inr (.inl q)) :: st) I J))
set_option maxRecDepth 10000 in
theorem g_79_8 : GO x d 79 Q 8 [v0, v1] [.inr (.inr w0), .inr (.inr (.inl r))] I J = (okO r 7 ∧ EX x d 56 [.inr (.inr (.inl r)), .inr (.inr w0)] I J (fun r1 I1 J1 => GO x d 79 Q 11 [v0, v1] (r1.toList ++ []) I1 J1)) := (ge (A := (53, 11, 56, 1, 0)) rfl).trans (gtrue (Nat.le_of_ble_eq_true rfl))
set_option maxRecDepth 10000 in
theorem g_79_11 : GO x d 79 Q 11 [v0, v1] (.inl a :: st) I J = (nlO (some v0) = true ∧ GO x d 79 Q 12 [v0, some (.inl a)] st I J) := (ge (A := (4, 12, 1, 0, 0)) rfl).trans (gst (Nat.le_of_ble_eq_true rfl) _)
set_option maxRecDepth 10000 in
theorem g_79_12 : GO x d 79 Q 12 [some (.inr (.inr w)), v1] st I J = GO x d 79 Q 13 [some (.inr (.inr w)), v1] (.inr (.inr w) :: st) I J := ge (A := (2, 13, 0, 0, 0)) rfl
set_option maxRecDepth 10000 in
theorem g_79_13 : GO x d 79 Q 13 [v0, v1] (.inr (.inr (.inl r)) :: st) I J = (okF r 9 4 ∧ GO x d 79 Q 16 [v0, v1] (.inr (.inr (.inl (rfN r 4))) :: st) I J) := (ge (A := (39, 16, 9, 4, 0)) rfl).trans (gref (f := fun q => GO x d 79 Q 16 [v0, v1] (.inr (.inr (.inl q)) :: st) I J))
set_option maxRecDepth 10000 in
theorem g_79_16 : GO x d 79 Q 16 [v0, v1] st I J = GO x d 79 Q 17 [v0, v1] (.inl (0) :: st) I J := ge (A := (0, 17, 0, 0, 0)) rfl
set_option maxRecDepth 10000 in
theorem g_79_17 : GO x d 79 Q 17 [v0, v1] (.inl a :: .inr (.inr (.inl r)) :: st) I J = (okO r 7 ∧ GO x d 79 Q 20 [v0, v1] st (up I r 3 a) J) := ge (A := (40, 20, 7, 3, 0)) rfl
set_option maxRecDepth 10000 in
theorem g_79_20 : GO x d 79 Q 20 [v0, some (.inl a)] st I J = GO x d 79 Q 21 [v0, some (.inl a)] (.inl a :: st) I J := ge (A := (1, 21, 1, 0, 0)) rfl
set_option maxRecDepth 10000 in
theorem g_79_21 : GO x d 79 Q 21 [v0, v1] (.inl a :: st) I J = (inR a ∧ if a = 0 then GO x d 79 Q 24 [v0, v1] st I J else GO x d 79 Q 35 [v0, v1] st I J) := (ge (A := (33, 24, 35, 1, 0)) rfl).trans (gifn (p := a = 0) inferInstance)
set_option maxRecDepth 10000 in
theorem g_79_24 : GO x d 79 Q 24 [v0, v1] st I J = GO x d 79 Q 26 [v0, v1] (.inl (-1000100) :: st) I J := ge (A := (0, 26, 0, 0, -1000100)) rfl
set_option maxRecDepth 10000 in
theorem g_79_26 : GO x d 79 Q 26 [some (.inr (.inr w)), v1] st I J = GO x d 79 Q 27 [some (.inr (.inr w)), v1] (.inr (.inr w) :: st) I J := ge (A := (2, 27, 0, 0, 0)) rfl
set_option maxRecDepth 10000 in
theorem g_79_27 : GO x d 79 Q 27 [v0, v1] (.inr (.inr (.inl r)) :: st) I J = (okF r 9 4 ∧ GO x d 79 Q 30 [v0, v1] (.inr (.inr (.inl (rfN r 4))) :: st) I J) := (ge (A := (39, 30, 9, 4, 0)) rfl).trans (gref (f := fun q => GO x d 79 Q 30 [v0, v1] (.inr (.inr (.inl q)) :: st) I J))
set_option maxRecDepth 10000 in
theorem g_79_30 : GO x d 79 Q 30 [v0, v1] (.inr (.inr (.inl r)) :: st) I J = (okO r 7 ∧ GO x d 79 Q 33 [v0, v1] (.inl (I r 5) :: st) I J) := ge (A := (37, 33, 7, 5, 0)) rfl
set_option maxRecDepth 10000 in
theorem g_79_33 : GO x d 79 Q 33 [v0, v1] (.inl b :: .inl a :: st) I J = GO x d 79 Q 34 [v0, v1] (.inl (a - b) :: st) I J := ge (A := (9, 34, 0, 0, 0)) rfl
set_option maxRecDepth 10000 in
theorem g_79_34 : GO x d 79 Q 34 [v0, v1] [.inl a] I J = Q (some (.inl a)) I J := ge (A := (55, 35, 0, 0, 0)) rfl
set_option maxRecDepth 10000 in
theorem g_79_35 : GO x d 79 Q 35 [some (.inr (.inr w)), v1] st I J = GO x d 79 Q 36 [some (.inr (.inr w)), v1] (.inr (.inr w) :: st) I J := ge (A := (2, 36, 0, 0, 0)) rfl
set_option maxRecDepth 10000 in
theorem g_79_36 : GO x d 79 Q 36 [v0, v1] (.inr (.inr (.inl r)) :: st) I J = (okF r 9 1 ∧ GO x d 79 Q 39 [v0, v1] (.inr (.inr (.inl (rfN r 1))) :: st) I J) := (ge (A := (39, 39, 9, 1, 0)) rfl).trans (gref (f := fun q => GO x d 79 Q 39 [v0, v1] (.inr (.inr (.inl q)) :: st) I J))
set_option maxRecDepth 10000 in
theorem g_79_39 : GO x d 79 Q 39 [some (.inr (.inr w)), v1] st I J = GO x d 79 Q 40 [some (.inr (.inr w)), v1] (.inr (.inr w) :: st) I J := ge (A := (2, 40, 0, 0, 0)) rfl
set_option maxRecDepth 10000 in
theorem g_79_40 : GO x d 79 Q 40 [v0, v1] (.inr (.inr (.inl r)) :: st) I J = (okF r 9 2 ∧ GO x d 79 Q 43 [v0, v1] (.inr (.inr (.inl (rfN r 2))) :: st) I J) := (ge (A := (39, 43, 9, 2, 0)) rfl).trans (gref (f := fun q => GO x d 79 Q 43 [v0, v1] (.inr (.inr (.inl q)) :: st) I J))
set_option maxRecDepth 10000 in
theorem g_79_43 : GO x d 79 Q 43 [v0, v1] [.inr (.inr w0), .inr (.inr (.inl r))] I J = (okO r 3 ∧ EX x d 15 [.inr (.inr (.inl r)), .inr (.inr w0)] I J (fun r1 I1 J1 => GO x d 79 Q 46 [v0, v1] (r1.toList ++ []) I1 J1)) := (ge (A := (53, 46, 15, 1, 0)) rfl).trans (gtrue (Nat.le_of_ble_eq_true rfl))
set_option maxRecDepth 10000 in
theorem g_79_46 : GO x d 79 Q 46 [some (.inr (.inr w)), v1] st I J = GO x d 79 Q 47 [some (.inr (.inr w)), v1] (.inr (.inr w) :: st) I J := ge (A := (2, 47, 0, 0, 0)) rfl
set_option maxRecDepth 10000 in
theorem g_79_47 : GO x d 79 Q 47 [v0, v1] (.inr (.inr (.inl r)) :: st) I J = (okF r 9 5 ∧ GO x d 79 Q 50 [v0, v1] (.inr (.inr (.inl (rfN r 5))) :: st) I J) := (ge (A := (39, 50, 9, 5, 0)) rfl).trans (gref (f := fun q => GO x d 79 Q 50 [v0, v1] (.inr (.inr (.inl q)) :: st) I J))
set_option maxRecDepth 10000 in
theorem g_79_50 : GO x d 79 Q 50 [v0, v1] [.inr (.inr (.inl r))] I J = (okO r 1 ∧ EX x d 2 [.inr (.inr (.inl r))] I J (fun r1 I1 J1 => GO x d 79 Q 53 [v0, v1] (r1.toList ++ []) I1 J1)) := (ge (A := (53, 53, 2, 0, 0)) rfl).trans (gtrue (Nat.le_of_ble_eq_true rfl))
set_option maxRecDepth 10000 in
theorem g_79_53 : GO x d 79 Q 53 [some (.inr (.inr w)), v1] st I J = GO x d 79 Q 54 [some (.inr (.inr w)), v1] (.inr (.inr w) :: st) I J := ge (A := (2, 54, 0, 0, 0)) rfl
set_option maxRecDepth 10000 in
theorem g_79_54 : GO x d 79 Q 54 [v0, v1] (.inr (.inr (.inl r)) :: st) I J = (okF r 9 1 ∧ GO x d 79 Q 57 [v0, v1] (.inr (.inr (.inl (rfN r 1))) :: st) I J) := (ge (A := (39, 57, 9, 1, 0)) rfl).trans (gref (f := fun q => GO x d 79 Q 57 [v0, v1] (.inr (.inr (.inl q)) :: st) I J))
set_option maxRecDepth 10000 in
theorem g_79_57 : GO x d 79 Q 57 [v0, v1] (.inr (.inr (.inl r)) :: st) I J = (okO r 3 ∧ GO x d 79 Q 60 [v0, v1] (.inl (I r 8) :: st) I J) := ge (A := (37, 60, 3, 8, 0)) rfl
set_option maxRecDepth 10000 in
theorem g_79_60 : GO x d 79 Q 60 [v0, v1] [.inl a] I J = Q (some (.inl a)) I J := ge (A := (55, 61, 0, 0, 0)) rfl
set_option maxRecDepth 10000 in
theorem e_79 : EX x (d + 1) 79 [.inr (.inr w0)] I J Q = GO x d 79 Q 0 [some (.inr (.inr w0)), none] [] I J := ex_eq (Nat.le_of_ble_eq_true rfl) rfl (Nat.le_of_ble_eq_true rfl) rfl
set_option maxRecDepth 10000 in
theorem g_80_0 : GO x d 80 Q 0 [some (.inr (.inr w))] st I J = GO x d 80 Q 1 [some (.inr (.inr w))] (.inr (.inr w) :: st) I J := ge (A := (2, 1, 0, 0, 0)) rfl
set_option maxRecDepth 10000 in
theorem g_80_1 : GO x d 80 Q 1 [v0] (.inr (.inr (.inl r)) :: st) I J = (okF r 9 4 ∧ GO x d 80 Q 4 [v0] (.inr (.inr (.inl (rfN r 4))) :: st) I J) := (ge (A := (39, 4, 9, 4, 0)) rfl).trans (gref (f := fun q => GO x d 80 Q 4 [v0] (.inr (.inr (.inl q)) :: st) I J))
set_option maxRecDepth 10000 in
theorem g_80_4 : GO x d 80 Q 4 [v0] (.inr (.inr (.inl r)) :: st) I J = (okO r 7 ∧ GO x d 80 Q 7 [v0] (.inl (I r 4) :: st) I J) := ge (A := (37, 7, 7, 4, 0)) rfl
set_option maxRecDepth 10000 in
theorem g_80_7 : GO x d 80 Q 7 [v0] [.inl a] I J = Q (some (.inl a)) I J := ge (A := (55, 8, 0, 0, 0)) rfl
set_option maxRecDepth 10000 in
theorem e_80 : EX x (d + 1) 80 [.inr (.inr w0)] I J Q = GO x d 80 Q 0 [some (.inr (.inr w0))] [] I J := ex_eq (Nat.le_of_ble_eq_true rfl) rfl (Nat.le_of_ble_eq_true rfl) rfl
set_option maxRecDepth 10000 in
theorem g_81_0 : GO x d 81 Q 0 [some (.inr (.inr w)), v1, v2] st I J = GO x d 81 Q 1 [some (.inr (.inr w)), v1, v2] (.inr (.inr w) :: st) I J := ge (A := (2, 1, 0, 0, 0)) rfl
set_option maxRecDepth 10000 in
theorem g_81_1 : GO x d 81 Q 1 [v0, v1, v2] (.inr (.inr (.inl r)) :: st) I J = (okF r 9 1 ∧ GO x d 81 Q 4 [v0, v1, v2] (.inr (.inr (.inl (rfN r 1))) :: st) I J) := (ge (A := (39, 4, 9, 1, 0)) rfl).trans (gref (f := fun q => GO x d 81 Q 4 [v0, v1, v2] (.inr (.inr (.inl q)) :: st) I J))
set_option maxRecDepth 10000 in
theorem g_81_4 : GO x d 81 Q 4 [v0, some (.inl a), v2] st I J = GO x d 81 Q 5 [v0, some (.inl a), v2] (.inl a :: st) I J := ge (A := (1, 5, 1, 0, 0)) rfl
set_option maxRecDepth 10000 in
theorem g_81_5 : GO x d 81 Q 5 [v0, v1, v2] [.inl i0, .inr (.inr (.inl r))] I J = (okO r 3 ∧ EX x d 17 [.inr (.inr (.inl r)), .inl i0] I J (fun r1 I1 J1 => GO x d 81 Q 8 [v0, v1, v2] (r1.toList ++ []) I1 J1)) := (ge (A := (53, 8, 17, 1, 0)) rfl).trans (gtrue (Nat.le_of_ble_eq_true rfl))
set_option maxRecDepth 10000 in
theorem g_81_8 : GO x d 81 Q 8 [v0, v1, v2] (.inl a :: st) I J = (inR a ∧ if a = 0 then GO x d 81 Q 22 [v0, v1, v2] st I J else GO x d 81 Q 11 [v0, v1, v2] st I J) := (ge (A := (33, 11, 22, 0, 0)) rfl).trans (gif (p := a = 0) inferInstance)
set_option maxRecDepth 10000 in
theorem g_81_11 : GO x d 81 Q 11 [some (.inr (.inr w)), v1, v2] st I J = GO x d 81 Q 12 [some (.inr (.inr w)), v1, v2] (.inr (.inr w) :: st) I J := ge (A := (2, 12, 0, 0, 0)) rfl
set_option maxRecDepth 10000 in
theorem g_81_12 : GO x d 81 Q 12 [v0, v1, v2] (.inr (.inr (.inl r)) :: st) I J = (okF r 9 1 ∧ GO x d 81 Q 15 [v0, v1, v2] (.inr (.inr (.inl (rfN r 1))) :: st) I J) := (ge (A := (39, 15, 9, 1, 0)) rfl).trans (gref (f := fun q => GO x d 81 Q 15 [v0, v1, v2] (.inr (.inr (.inl q)) :: st) I J))
set_option maxRecDepth 10000 in
theorem g_81_15 : GO x d 81 Q 15 [v0, v1, some (.inl a)] st I J = GO x d 81 Q 16 [v0, v1, some (.inl a)] (.inl a :: st) I J := ge (A := (1, 16, 2, 0, 0)) rfl
set_option maxRecDepth 10000 in
theorem g_81_16 : GO x d 81 Q 16 [v0, v1, v2] [.inl i0, .inr (.inr (.inl r))] I J = (okO r 3 ∧ EX x d 16 [.inr (.inr (.inl r)), .inl i0] I J (fun r1 I1 J1 => GO x d 81 Q 19 [v0, v1, v2] (r1.toList ++ []) I1 J1)) := (ge (A := (53, 19, 16, 1, 0)) rfl).trans (gtrue (Nat.le_of_ble_eq_true rfl))
set_option maxRecDepth 10000 in
theorem g_81_19 : GO x d 81 Q 19 [v0, v1, v2] (.inl a :: st) I J = (inR a ∧ if a = 0 then GO x d 81 Q 22 [v0, v1, v2] st I J else GO x d 81 Q 25 [v0, v1, v2] st I J) := (ge (A := (33, 22, 25, 1, 0)) rfl).trans (gifn (p := a = 0) inferInstance)
set_option maxRecDepth 10000 in
theorem g_81_22 : GO x d 81 Q 22 [v0, v1, v2] st I J = GO x d 81 Q 24 [v0, v1, v2] (.inl (-1000001) :: st) I J := ge (A := (0, 24, 0, 0, -1000001)) rfl
set_option maxRecDepth 10000 in
theorem g_81_24 : GO x d 81 Q 24 [v0, v1, v2] [.inl a] I J = Q (some (.inl a)) I J := ge (A := (55, 25, 0, 0, 0)) rfl
set_option maxRecDepth 10000 in
theorem g_81_25 : GO x d 81 Q 25 [some (.inr (.inr w)), v1, v2] st I J = GO x d 81 Q 26 [some (.inr (.inr w)), v1, v2] (.inr (.inr w) :: st) I J := ge (A := (2, 26, 0, 0, 0)) rfl
set_option maxRecDepth 10000 in
theorem g_81_26 : GO x d 81 Q 26 [v0, v1, v2] (.inr (.inr (.inl r)) :: st) I J = (okF r 9 1 ∧ GO x d 81 Q 29 [v0, v1, v2] (.inr (.inr (.inl (rfN r 1))) :: st) I J) := (ge (A := (39, 29, 9, 1, 0)) rfl).trans (gref (f := fun q => GO x d 81 Q 29 [v0, v1, v2] (.inr (.inr (.inl q)) :: st) I J))
set_option maxRecDepth 10000 in
theorem g_81_29 : GO x d 81 Q 29 [v0, some (.inl a), v2] st I J = GO x d 81 Q 30 [v0, some (.inl a), v2] (.inl a :: st) I J := ge (A := (1, 30, 1, 0, 0)) rfl
set_option maxRecDepth 10000 in
theorem g_81_30 : GO x d 81 Q 30 [v0, v1, v2] [.inl i0, .inr (.inr (.inl r))] I J = (okO r 3 ∧ EX x d 18 [.inr (.inr (.inl r)), .inl i0] I J (fun r1 I1 J1 => GO x d 81 Q 33 [v0, v1, v2] (r1.toList ++ []) I1 J1)) := (ge (A := (53, 33, 18, 1, 0)) rfl).trans (gtrue (Nat.le_of_ble_eq_true rfl))
set_option maxRecDepth 10000 in
theorem g_81_33 : GO x d 81 Q 33 [v0, v1, v2] (.inl a :: st) I J = (inR a ∧ if a = 0 then GO x d 81 Q 36 [v0, v1, v2] st I J else GO x d 81 Q 51 [v0, v1, v2] st I J) := (ge (A := (33, 36, 51, 1, 0)) rfl).trans (gifn (p := a = 0) inferInstance)
set_option maxRecDepth 10000 in
theorem g_81_36 : GO x d 81 Q 36 [some (.inr (.inr w)), v1, v2] st I J = GO x d 81 Q 37 [some (.inr (.inr w)), v1, v2] (.inr (.inr w) :: st) I J := ge (A := (2, 37, 0, 0, 0)) rfl
set_option maxRecDepth 10000 in
theorem g_81_37 : GO x d 81 Q 37 [v0, v1, v2] (.inr (.inr (.inl r)) :: st) I J = (okF r 9 1 ∧ GO x d 81 Q 40 [v0, v1, v2] (.inr (.inr (.inl (rfN r 1))) :: st) I J) := (ge (A := (39, 40, 9, 1, 0)) rfl).trans (gref (f := fun q => GO x d 81 Q 40 [v0, v1, v2] (.inr (.inr (.inl q)) :: st) I J))
set_option maxRecDepth 10000 in
theorem g_81_40 : GO x d 81 Q 40 [v0, some (.inl a), v2] st I J = GO x d 81 Q 41 [v0, some (.inl a), v2] (.inl a :: st) I J := ge (A := (1, 41, 1, 0, 0)) rfl
set_option maxRecDepth 10000 in
theorem g_81_41 : GO x d 81 Q 41 [v0, v1, v2] [.inl i0, .inr (.inr (.inl r))] I J = (okO r 3 ∧ EX x d 24 [.inr (.inr (.inl r)), .inl i0] I J (fun r1 I1 J1 => GO x d 81 Q 44 [v0, v1, v2] (r1.toList ++ []) I1 J1)) := (ge (A := (53, 44, 24, 1, 0)) rfl).trans (gtrue (Nat.le_of_ble_eq_true rfl))
set_option maxRecDepth 10000 in
theorem g_81_44 : GO x d 81 Q 44 [v0, v1, some (.inl a)] st I J = GO x d 81 Q 45 [v0, v1, some (.inl a)] (.inl a :: st) I J := ge (A := (1, 45, 2, 0, 0)) rfl
set_option maxRecDepth 10000 in
theorem g_81_45 : GO x d 81 Q 45 [v0, v1, v2] [.inl i0, .inl i1] I J = EX x d 105 [.inl i1, .inl i0] I J (fun r1 I1 J1 => GO x d 81 Q 48 [v0, v1, v2] (r1.toList ++ []) I1 J1) := (ge (A := (52, 48, 105, 2, 0)) rfl).trans (gtrue2 (Nat.le_of_ble_eq_true rfl) (Nat.le_of_ble_eq_true rfl))
set_option maxRecDepth 10000 in
theorem g_81_48 : GO x d 81 Q 48 [v0, v1, v2] (.inl a :: st) I J = (inR a ∧ if a = 0 then GO x d 81 Q 51 [v0, v1, v2] st I J else GO x d 81 Q 54 [v0, v1, v2] st I J) := (ge (A := (33, 51, 54, 1, 0)) rfl).trans (gifn (p := a = 0) inferInstance)
set_option maxRecDepth 10000 in
theorem g_81_51 : GO x d 81 Q 51 [v0, v1, v2] st I J = GO x d 81 Q 53 [v0, v1, v2] (.inl (-1000002) :: st) I J := ge (A := (0, 53, 0, 0, -1000002)) rfl
set_option maxRecDepth 10000 in
theorem g_81_53 : GO x d 81 Q 53 [v0, v1, v2] [.inl a] I J = Q (some (.inl a)) I J := ge (A := (55, 54, 0, 0, 0)) rfl
set_option maxRecDepth 10000 in
theorem g_81_54 : GO x d 81 Q 54 [some (.inr (.inr w)), v1, v2] st I J = GO x d 81 Q 55 [some (.inr (.inr w)), v1, v2] (.inr (.inr w) :: st) I J := ge (A := (2, 55, 0, 0, 0)) rfl
set_option maxRecDepth 10000 in
theorem g_81_55 : GO x d 81 Q 55 [v0, v1, v2] (.inr (.inr (.inl r)) :: st) I J = (okF r 9 5 ∧ GO x d 81 Q 58 [v0, v1, v2] (.inr (.inr (.inl (rfN r 5))) :: st) I J) := (ge (A := (39, 58, 9, 5, 0)) rfl).trans (gref (f := fun q => GO x d 81 Q 58 [v0, v1, v2] (.inr (.inr (.inl q)) :: st) I J))
set_option maxRecDepth 10000 in
theorem g_81_58 : GO x d 81 Q 58 [some (.inr (.inr w)), v1, v2] st I J = GO x d 81 Q 59 [some (.inr (.inr w)), v1, v2] (.inr (.inr w) :: st) I J := ge (A := (2, 59, 0, 0, 0)) rfl
set_option maxRecDepth 10000 in
theorem g_81_59 : GO x d 81 Q 59 [v0, v1, v2] (.inr (.inr (.inl r)) :: st) I J = (okF r 9 1 ∧ GO x d 81 Q 62 [v0, v1, v2] (.inr (.inr (.inl (rfN r 1))) :: st) I J) := (ge (A := (39, 62, 9, 1, 0)) rfl).trans (gref (f := fun q => GO x d 81 Q 62 [v0, v1, v2] (.inr (.inr (.inl q)) :: st) I J))
set_option maxRecDepth 10000 in
theorem g_81_62 : GO x d 81 Q 62 [v0, some (.inl a), v2] st I J = GO x d 81 Q 63 [v0, some (.inl a), v2] (.inl a :: st) I J := ge (A := (1, 63, 1, 0, 0)) rfl
set_option maxRecDepth 10000 in
theorem g_81_63 : GO x d 81 Q 63 [v0, v1, some (.inl a)] st I J = GO x d 81 Q 64 [v0, v1, some (.inl a)] (.inl a :: st) I J := ge (A := (1, 64, 2, 0, 0)) rfl
set_option maxRecDepth 10000 in
theorem g_81_64 : GO x d 81 Q 64 [v0, v1, v2] [.inl i0, .inl i1, .inr (.inr w0), .inr (.inr (.inl r))] I J = (okO r 1 ∧ EX x d 3 [.inr (.inr (.inl r)), .inr (.inr w0), .inl i1, .inl i0] I J (fun r1 I1 J1 => GO x d 81 Q 67 [v0, v1, v2] (r1.toList ++ []) I1 J1)) := (ge (A := (53, 67, 3, 3, 0)) rfl).trans (gtrue (Nat.le_of_ble_eq_true rfl))
set_option maxRecDepth 10000 in
theorem g_81_67 : GO x d 81 Q 67 [some (.inr (.inr w)), v1, v2] st I J = GO x d 81 Q 68 [some (.inr (.inr w)), v1, v2] (.inr (.inr w) :: st) I J := ge (A := (2, 68, 0, 0, 0)) rfl
set_option maxRecDepth 10000 in
theorem g_81_68 : GO x d 81 Q 68 [v0, v1, v2] (.inr (.inr (.inl r)) :: st) I J = (okF r 9 1 ∧ GO x d 81 Q 71 [v0, v1, v2] (.inr (.inr (.inl (rfN r 1))) :: st) I J) := (ge (A := (39, 71, 9, 1, 0)) rfl).trans (gref (f := fun q => GO x d 81 Q 71 [v0, v1, v2] (.inr (.inr (.inl q)) :: st) I J))
set_option maxRecDepth 10000 in
theorem g_81_71 : GO x d 81 Q 71 [v0, some (.inl a), v2] st I J = GO x d 81 Q 72 [v0, some (.inl a), v2] (.inl a :: st) I J := ge (A := (1, 72, 1, 0, 0)) rfl
set_option maxRecDepth 10000 in
theorem g_81_72 : GO x d 81 Q 72 [v0, v1, some (.inl a)] st I J = GO x d 81 Q 73 [v0, v1, some (.inl a)] (.inl a :: st) I J := ge (A := (1, 73, 2, 0, 0)) rfl
set_option maxRecDepth 10000 in
theorem g_81_73 : GO x d 81 Q 73 [v0, v1, v2] [.inl i0, .inl i1, .inr (.inr (.inl r))] I J = (okO r 3 ∧ EX x d 27 [.inr (.inr (.inl r)), .inl i1, .inl i0] I J (fun r1 I1 J1 => GO x d 81 Q 76 [v0, v1, v2] (r1.toList ++ []) I1 J1)) := (ge (A := (53, 76, 27, 2, 0)) rfl).trans (gtrue (Nat.le_of_ble_eq_true rfl))
set_option maxRecDepth 10000 in
theorem g_81_76 : GO x d 81 Q 76 [some (.inr (.inr w)), v1, v2] st I J = GO x d 81 Q 77 [some (.inr (.inr w)), v1, v2] (.inr (.inr w) :: st) I J := ge (A := (2, 77, 0, 0, 0)) rfl
set_option maxRecDepth 10000 in
theorem g_81_77 : GO x d 81 Q 77 [v0, v1, v2] (.inr (.inr (.inl r)) :: st) I J = (okF r 9 1 ∧ GO x d 81 Q 80 [v0, v1, v2] (.inr (.inr (.inl (rfN r 1))) :: st) I J) := (ge (A := (39, 80, 9, 1, 0)) rfl).trans (gref (f := fun q => GO x d 81 Q 80 [v0, v1, v2] (.inr (.inr (.inl q)) :: st) I J))
set_option maxRecDepth 10000 in
theorem g_81_80 : GO x d 81 Q 80 [v0, v1, v2] (.inr (.inr (.inl r)) :: st) I J = (okO r 3 ∧ GO x d 81 Q 83 [v0, v1, v2] (.inl (I r 11) :: st) I J) := ge (A := (37, 83, 3, 11, 0)) rfl
set_option maxRecDepth 10000 in
theorem g_81_83 : GO x d 81 Q 83 [v0, v1, v2] [.inl a] I J = Q (some (.inl a)) I J := ge (A := (55, 84, 0, 0, 0)) rfl
set_option maxRecDepth 10000 in
theorem e_81 : EX x (d + 1) 81 [.inr (.inr w0), .inl i0, .inl i1] I J Q = GO x d 81 Q 0 [some (.inr (.inr w0)), some (.inl i0), some (.inl i1)] [] I J := ex_eq (Nat.le_of_ble_eq_true rfl) rfl (Nat.le_of_ble_eq_true rfl) rfl
set_option maxRecDepth 10000 in
theorem g_82_0 : GO x d 82 Q 0 [some (.inr (.inr w)), v1] st I J = GO x d 82 Q 1 [some (.inr (.inr w)), v1] (.inr (.inr w) :: st) I J := ge (A := (2, 1, 0, 0, 0)) rfl
set_option maxRecDepth 10000 in
theorem g_82_1 : GO x d 82 Q 1 [v0, v1] (.inr (.inr (.inl r)) :: st) I J = (okF r 9 1 ∧ GO x d 82 Q 4 [v0, v1] (.inr (.inr (.inl (rfN r 1))) :: st) I J) := (ge (A := (39, 4, 9, 1, 0)) rfl).trans (gref (f := fun q => GO x d 82 Q 4 [v0, v1] (.inr (.inr (.inl q)) :: st) I J))
set_option maxRecDepth 10000 in
theorem g_82_4 : GO x d 82 Q 4 [v0, some (.inl a)] st I J = GO x d 82 Q 5 [v0, some (.inl a)] (.inl a :: st) I J := ge (A := (1, 5, 1, 0, 0)) rfl
set_option maxRecDepth 10000 in
theorem g_82_5 : GO x d 82 Q 5 [v0, v1] [.inl i0, .inr (.inr (.inl r))] I J = (okO r 3 ∧ EX x d 17 [.inr (.inr (.inl r)), .inl i0] I J (fun r1 I1 J1 => GO x d 82 Q 8 [v0, v1] (r1.toList ++ []) I1 J1)) := (ge (A := (53, 8, 17, 1, 0)) rfl).trans (gtrue (Nat.le_of_ble_eq_true rfl))
set_option maxRecDepth 10000 in
theorem g_82_8 : GO x d 82 Q 8 [v0, v1] (.inl a :: st) I J = (inR a ∧ if a = 0 then GO x d 82 Q 11 [v0, v1] st I J else GO x d 82 Q 14 [v0, v1] st I J) := (ge (A := (33, 11, 14, 1, 0)) rfl).trans (gifn (p := a = 0) inferInstance)
set_option maxRecDepth 10000 in
theorem g_82_11 : GO x d 82 Q 11 [v0, v1] st I J = GO x d 82 Q 13 [v0, v1] (.inl (-1000001) :: st) I J := ge (A := (0, 13, 0, 0, -1000001)) rfl
set_option maxRecDepth 10000 in
theorem g_82_13 : GO x d 82 Q 13 [v0, v1] [.inl a] I J = Q (some (.inl a)) I J := ge (A := (55, 14, 0, 0, 0)) rfl
set_option maxRecDepth 10000 in
theorem g_82_14 : GO x d 82 Q 14 [some (.inr (.inr w)), v1] st I J = GO x d 82 Q 15 [some (.inr (.inr w)), v1] (.inr (.inr w) :: st) I J := ge (A := (2, 15, 0, 0, 0)) rfl
set_option maxRecDepth 10000 in
theorem g_82_15 : GO x d 82 Q 15 [v0, v1] (.inr (.inr (.inl r)) :: st) I J = (okF r 9 1 ∧ GO x d 82 Q 18 [v0, v1] (.inr (.inr (.inl (rfN r 1))) :: st) I J) := (ge (A := (39, 18, 9, 1, 0)) rfl).trans (gref (f := fun q => GO x d 82 Q 18 [v0, v1] (.inr (.inr (.inl q)) :: st) I J))
set_option maxRecDepth 10000 in
theorem g_82_18 : GO x d 82 Q 18 [v0, some (.inl a)] st I J = GO x d 82 Q 19 [v0, some (.inl a)] (.inl a :: st) I J := ge (A := (1, 19, 1, 0, 0)) rfl
set_option maxRecDepth 10000 in
theorem g_82_19 : GO x d 82 Q 19 [v0, v1] [.inl i0, .inr (.inr (.inl r))] I J = (okO r 3 ∧ EX x d 18 [.inr (.inr (.inl r)), .inl i0] I J (fun r1 I1 J1 => GO x d 82 Q 22 [v0, v1] (r1.toList ++ []) I1 J1)) := (ge (A := (53, 22, 18, 1, 0)) rfl).trans (gtrue (Nat.le_of_ble_eq_true rfl))
set_option maxRecDepth 10000 in
theorem g_82_22 : GO x d 82 Q 22 [v0, v1] (.inl a :: st) I J = (inR a ∧ if a = 0 then GO x d 82 Q 25 [v0, v1] st I J else GO x d 82 Q 35 [v0, v1] st I J) := (ge (A := (33, 25, 35, 1, 0)) rfl).trans (gifn (p := a = 0) inferInstance)
set_option maxRecDepth 10000 in
theorem g_82_25 : GO x d 82 Q 25 [some (.inr (.inr w)), v1] st I J = GO x d 82 Q 26 [some (.inr (.inr w)), v1] (.inr (.inr w) :: st) I J := ge (A := (2, 26, 0, 0, 0)) rfl
set_option maxRecDepth 10000 in
theorem g_82_26 : GO x d 82 Q 26 [v0, v1] (.inr (.inr (.inl r)) :: st) I J = (okF r 9 1 ∧ GO x d 82 Q 29 [v0, v1] (.inr (.inr (.inl (rfN r 1))) :: st) I J) := (ge (A := (39, 29, 9, 1, 0)) rfl).trans (gref (f := fun q => GO x d 82 Q 29 [v0, v1] (.inr (.inr (.inl q)) :: st) I J))
set_option maxRecDepth 10000 in
theorem g_82_29 : GO x d 82 Q 29 [v0, v1] (.inr (.inr (.inl r)) :: st) I J = (okO r 3 ∧ GO x d 82 Q 32 [v0, v1] (.inl (I r 13) :: st) I J) := ge (A := (37, 32, 3, 13, 0)) rfl
set_option maxRecDepth 10000 in
theorem g_82_32 : GO x d 82 Q 32 [v0, v1] (.inl a :: st) I J = (inR a ∧ if 0 < a then GO x d 82 Q 38 [v0, v1] st I J else GO x d 82 Q 35 [v0, v1] st I J) := (ge (A := (33, 35, 38, 4, 0)) rfl).trans (gif (p := 0 < a) inferInstance)
set_option maxRecDepth 10000 in
theorem g_82_35 : GO x d 82 Q 35 [v0, v1] st I J = GO x d 82 Q 37 [v0, v1] (.inl (-1000002) :: st) I J := ge (A := (0, 37, 0, 0, -1000002)) rfl
set_option maxRecDepth 10000 in
theorem g_82_37 : GO x d 82 Q 37 [v0, v1] [.inl a] I J = Q (some (.inl a)) I J := ge (A := (55, 38, 0, 0, 0)) rfl
set_option maxRecDepth 10000 in
theorem g_82_38 : GO x d 82 Q 38 [some (.inr (.inr w)), v1] st I J = GO x d 82 Q 39 [some (.inr (.inr w)), v1] (.inr (.inr w) :: st) I J := ge (A := (2, 39, 0, 0, 0)) rfl
set_option maxRecDepth 10000 in
theorem g_82_39 : GO x d 82 Q 39 [v0, v1] (.inr (.inr (.inl r)) :: st) I J = (okF r 9 5 ∧ GO x d 82 Q 42 [v0, v1] (.inr (.inr (.inl (rfN r 5))) :: st) I J) := (ge (A := (39, 42, 9, 5, 0)) rfl).trans (gref (f := fun q => GO x d 82 Q 42 [v0, v1] (.inr (.inr (.inl q)) :: st) I J))
set_option maxRecDepth 10000 in
theorem g_82_42 : GO x d 82 Q 42 [some (.inr (.inr w)), v1] st I J = GO x d 82 Q 43 [some (.inr (.inr w)), v1] (.inr (.inr w) :: st) I J := ge (A := (2, 43, 0, 0, 0)) rfl
set_option maxRecDepth 10000 in
theorem g_82_43 : GO x d 82 Q 43 [v0, v1] (.inr (.inr (.inl r)) :: st) I J = (okF r 9 1 ∧ GO x d 82 Q 46 [v0, v1] (.inr (.inr (.inl (rfN r 1))) :: st) I J) := (ge (A := (39, 46, 9, 1, 0)) rfl).trans (gref (f := fun q => GO x d 82 Q 46 [v0, v1] (.inr (.inr (.inl q)) :: st) I J))
set_option maxRecDepth 10000 in
theorem g_82_46 : GO x d 82 Q 46 [v0, some (.inl a)] st I J = GO x d 82 Q 47 [v0, some (.inl a)] (.inl a :: st) I J := ge (A := (1, 47, 1, 0, 0)) rfl
set_option maxRecDepth 10000 in
theorem g_82_47 : GO x d 82 Q 47 [v0, v1] st I J = GO x d 82 Q 49 [v0, v1] (.inl (8) :: st) I J := ge (A := (0, 49, 0, 0, 8)) rfl
set_option maxRecDepth 10000 in
theorem g_82_49 : GO x d 82 Q 49 [v0, v1] [.inl i0, .inl i1, .inr (.inr w0), .inr (.inr (.inl r))] I J = (okO r 1 ∧ EX x d 3 [.inr (.inr (.inl r)), .inr (.inr w0), .inl i1, .inl i0] I J (fun r1 I1 J1 => GO x d 82 Q 52 [v0, v1] (r1.toList ++ []) I1 J1)) := (ge (A := (53, 52, 3, 3, 0)) rfl).trans (gtrue (Nat.le_of_ble_eq_true rfl))
set_option maxRecDepth 10000 in
theorem g_82_52 : GO x d 82 Q 52 [some (.inr (.inr w)), v1] st I J = GO x d 82 Q 53 [some (.inr (.inr w)), v1] (.inr (.inr w) :: st) I J := ge (A := (2, 53, 0, 0, 0)) rfl
set_option maxRecDepth 10000 in
theorem g_82_53 : GO x d 82 Q 53 [v0, v1] (.inr (.inr (.inl r)) :: st) I J = (okF r 9 1 ∧ GO x d 82 Q 56 [v0, v1] (.inr (.inr (.inl (rfN r 1))) :: st) I J) := (ge (A := (39, 56, 9, 1, 0)) rfl).trans (gref (f := fun q => GO x d 82 Q 56 [v0, v1] (.inr (.inr (.inl q)) :: st) I J))
set_option maxRecDepth 10000 in
theorem g_82_56 : GO x d 82 Q 56 [v0, some (.inl a)] st I J = GO x d 82 Q 57 [v0, some (.inl a)] (.inl a :: st) I J := ge (A := (1, 57, 1, 0, 0)) rfl
set_option maxRecDepth 10000 in
theorem g_82_57 : GO x d 82 Q 57 [v0, v1] [.inl i0, .inr (.inr (.inl r))] I J = (okO r 3 ∧ EX x d 28 [.inr (.inr (.inl r)), .inl i0] I J (fun r1 I1 J1 => GO x d 82 Q 60 [v0, v1] (r1.toList ++ []) I1 J1)) := (ge (A := (53, 60, 28, 1, 0)) rfl).trans (gtrue (Nat.le_of_ble_eq_true rfl))
set_option maxRecDepth 10000 in
theorem g_82_60 : GO x d 82 Q 60 [some (.inr (.inr w)), v1] st I J = GO x d 82 Q 61 [some (.inr (.inr w)), v1] (.inr (.inr w) :: st) I J := ge (A := (2, 61, 0, 0, 0)) rfl
set_option maxRecDepth 10000 in
theorem g_82_61 : GO x d 82 Q 61 [v0, v1] (.inr (.inr (.inl r)) :: st) I J = (okF r 9 1 ∧ GO x d 82 Q 64 [v0, v1] (.inr (.inr (.inl (rfN r 1))) :: st) I J) := (ge (A := (39, 64, 9, 1, 0)) rfl).trans (gref (f := fun q => GO x d 82 Q 64 [v0, v1] (.inr (.inr (.inl q)) :: st) I J))
set_option maxRecDepth 10000 in
theorem g_82_64 : GO x d 82 Q 64 [v0, v1] (.inr (.inr (.inl r)) :: st) I J = (okO r 3 ∧ GO x d 82 Q 67 [v0, v1] (.inl (I r 13) :: st) I J) := ge (A := (37, 67, 3, 13, 0)) rfl
set_option maxRecDepth 10000 in
theorem g_82_67 : GO x d 82 Q 67 [v0, v1] [.inl a] I J = Q (some (.inl a)) I J := ge (A := (55, 68, 0, 0, 0)) rfl
set_option maxRecDepth 10000 in
theorem e_82 : EX x (d + 1) 82 [.inr (.inr w0), .inl i0] I J Q = GO x d 82 Q 0 [some (.inr (.inr w0)), some (.inl i0)] [] I J := ex_eq (Nat.le_of_ble_eq_true rfl) rfl (Nat.le_of_ble_eq_true rfl) rfl
set_option maxRecDepth 10000 in
theorem g_83_0 : GO x d 83 Q 0 [some (.inr (.inr w)), v1] st I J = GO x d 83 Q 1 [some (.inr (.inr w)), v1] (.inr (.inr w) :: st) I J := ge (A := (2, 1, 0, 0, 0)) rfl
set_option maxRecDepth 10000 in
theorem g_83_1 : GO x d 83 Q 1 [v0, v1] (.inr (.inr (.inl r)) :: st) I J = (okF r 9 1 ∧ GO x d 83 Q 4 [v0, v1] (.inr (.inr (.inl (rfN r 1))) :: st) I J) := (ge (A := (39, 4, 9, 1, 0)) rfl).trans (gref (f := fun q => GO x d 83 Q 4 [v0, v1] (.inr (.inr (.inl q)) :: st) I J))
set_option maxRecDepth 10000 in
theorem g_83_4 : GO x d 83 Q 4 [v0, v1] (.inr (.inr (.inl r)) :: st) I J = (okO r 3 ∧ GO x d 83 Q 7 [v0, v1] (.inl (I r 0) :: st) I J) := ge (A := (37, 7, 3, 0, 0)) rfl
set_option maxRecDepth 10000 in
theorem g_83_7 : GO x d 83 Q 7 [v0, v1] (.inl a :: st) I J = (inR a ∧ if a = 0 then GO x d 83 Q 10 [v0, v1] st I J else GO x d 83 Q 13 [v0, v1] st I J) := (ge (A := (33, 10, 13, 1, 0)) rfl).trans (gifn (p := a = 0) inferInstance)
set_option maxRecDepth 10000 in
theorem g_83_10 : GO x d 83 Q 10 [v0, v1] st I J = GO x d 83 Q 12 [v0, v1] (.inl (-1000002) :: st) I J := ge (A := (0, 12, 0, 0, -1000002)) rfl
set_option maxRecDepth 10000 in
theorem g_83_12 : GO x d 83 Q 12 [v0, v1] [.inl a] I J = Q (some (.inl a)) I J := ge (A := (55, 13, 0, 0, 0)) rfl
set_option maxRecDepth 10000 in
theorem g_83_13 : GO x d 83 Q 13 [v0, some (.inl a)] st I J = GO x d 83 Q 14 [v0, some (.inl a)] (.inl a :: st) I J := ge (A := (1, 14, 1, 0, 0)) rfl
set_option maxRecDepth 10000 in
theorem g_83_14 : GO x d 83 Q 14 [v0, v1] st I J = GO x d 83 Q 15 [v0, v1] (.inl (1) :: st) I J := ge (A := (0, 15, 0, 0, 1)) rfl
set_option maxRecDepth 10000 in
theorem g_83_15 : GO x d 83 Q 15 [v0, v1] (.inl b :: .inl a :: st) I J = (inR a ∧ inR b ∧ if a < b then GO x d 83 Q 24 [v0, v1] st I J else GO x d 83 Q 18 [v0, v1] st I J) := (ge (A := (34, 18, 24, 2, 0)) rfl).trans (gic (p := a < b) inferInstance)
set_option maxRecDepth 10000 in
theorem g_83_18 : GO x d 83 Q 18 [v0, some (.inl a)] st I J = GO x d 83 Q 19 [v0, some (.inl a)] (.inl a :: st) I J := ge (A := (1, 19, 1, 0, 0)) rfl
set_option maxRecDepth 10000 in
theorem g_83_19 : GO x d 83 Q 19 [v0, v1] st I J = GO x d 83 Q 21 [v0, v1] (.inl (24) :: st) I J := ge (A := (0, 21, 0, 0, 24)) rfl
set_option maxRecDepth 10000 in
theorem g_83_21 : GO x d 83 Q 21 [v0, v1] (.inl b :: .inl a :: st) I J = (inR a ∧ inR b ∧ if b < a then GO x d 83 Q 24 [v0, v1] st I J else GO x d 83 Q 27 [v0, v1] st I J) := (ge (A := (34, 24, 27, 5, 0)) rfl).trans (ggec)
set_option maxRecDepth 10000 in
theorem g_83_24 : GO x d 83 Q 24 [v0, v1] st I J = GO x d 83 Q 26 [v0, v1] (.inl (-1000001) :: st) I J := ge (A := (0, 26, 0, 0, -1000001)) rfl
set_option maxRecDepth 10000 in
theorem g_83_26 : GO x d 83 Q 26 [v0, v1] [.inl a] I J = Q (some (.inl a)) I J := ge (A := (55, 27, 0, 0, 0)) rfl
set_option maxRecDepth 10000 in
theorem g_83_27 : GO x d 83 Q 27 [some (.inr (.inr w)), v1] st I J = GO x d 83 Q 28 [some (.inr (.inr w)), v1] (.inr (.inr w) :: st) I J := ge (A := (2, 28, 0, 0, 0)) rfl
set_option maxRecDepth 10000 in
theorem g_83_28 : GO x d 83 Q 28 [v0, v1] (.inr (.inr (.inl r)) :: st) I J = (okF r 9 1 ∧ GO x d 83 Q 31 [v0, v1] (.inr (.inr (.inl (rfN r 1))) :: st) I J) := (ge (A := (39, 31, 9, 1, 0)) rfl).trans (gref (f := fun q => GO x d 83 Q 31 [v0, v1] (.inr (.inr (.inl q)) :: st) I J))
set_option maxRecDepth 10000 in
theorem g_83_31 : GO x d 83 Q 31 [v0, v1] (.inr (.inr (.inl r)) :: st) I J = (okO r 3 ∧ GO x d 83 Q 34 [v0, v1] (.inl (I r 11) :: st) I J) := ge (A := (37, 34, 3, 11, 0)) rfl
set_option maxRecDepth 10000 in
theorem g_83_34 : GO x d 83 Q 34 [v0, some (.inl a)] st I J = GO x d 83 Q 35 [v0, some (.inl a)] (.inl a :: st) I J := ge (A := (1, 35, 1, 0, 0)) rfl
set_option maxRecDepth 10000 in
theorem g_83_35 : GO x d 83 Q 35 [v0, v1] (.inl b :: .inl a :: st) I J = GO x d 83 Q 36 [v0, v1] (.inl (a + b) :: st) I J := ge (A := (8, 36, 0, 0, 0)) rfl
set_option maxRecDepth 10000 in
theorem g_83_36 : GO x d 83 Q 36 [v0, v1] st I J = GO x d 83 Q 39 [v0, v1] (.inl (999) :: st) I J := ge (A := (0, 39, 0, 0, 999)) rfl
set_option maxRecDepth 10000 in
theorem g_83_39 : GO x d 83 Q 39 [v0, v1] (.inl b :: .inl a :: st) I J = (inR a ∧ inR b ∧ if b < a then GO x d 83 Q 42 [v0, v1] st I J else GO x d 83 Q 45 [v0, v1] st I J) := (ge (A := (34, 42, 45, 5, 0)) rfl).trans (ggec)
set_option maxRecDepth 10000 in
theorem g_83_42 : GO x d 83 Q 42 [v0, v1] st I J = GO x d 83 Q 44 [v0, v1] (.inl (-1000003) :: st) I J := ge (A := (0, 44, 0, 0, -1000003)) rfl
set_option maxRecDepth 10000 in
theorem g_83_44 : GO x d 83 Q 44 [v0, v1] [.inl a] I J = Q (some (.inl a)) I J := ge (A := (55, 45, 0, 0, 0)) rfl
set_option maxRecDepth 10000 in
theorem g_83_45 : GO x d 83 Q 45 [some (.inr (.inr w)), v1] st I J = GO x d 83 Q 46 [some (.inr (.inr w)), v1] (.inr (.inr w) :: st) I J := ge (A := (2, 46, 0, 0, 0)) rfl
set_option maxRecDepth 10000 in
theorem g_83_46 : GO x d 83 Q 46 [v0, v1] (.inr (.inr (.inl r)) :: st) I J = (okF r 9 5 ∧ GO x d 83 Q 49 [v0, v1] (.inr (.inr (.inl (rfN r 5))) :: st) I J) := (ge (A := (39, 49, 9, 5, 0)) rfl).trans (gref (f := fun q => GO x d 83 Q 49 [v0, v1] (.inr (.inr (.inl q)) :: st) I J))
set_option maxRecDepth 10000 in
theorem g_83_49 : GO x d 83 Q 49 [some (.inr (.inr w)), v1] st I J = GO x d 83 Q 50 [some (.inr (.inr w)), v1] (.inr (.inr w) :: st) I J := ge (A := (2, 50, 0, 0, 0)) rfl
set_option maxRecDepth 10000 in
theorem g_83_50 : GO x d 83 Q 50 [v0, v1] (.inr (.inr (.inl r)) :: st) I J = (okF r 9 1 ∧ GO x d 83 Q 53 [v0, v1] (.inr (.inr (.inl (rfN r 1))) :: st) I J) := (ge (A := (39, 53, 9, 1, 0)) rfl).trans (gref (f := fun q => GO x d 83 Q 53 [v0, v1] (.inr (.inr (.inl q)) :: st) I J))
set_option maxRecDepth 10000 in
theorem g_83_53 : GO x d 83 Q 53 [v0, v1] st I J = GO x d 83 Q 54 [v0, v1] (.inl (-1) :: st) I J := ge (A := (0, 54, 0, 0, -1)) rfl
set_option maxRecDepth 10000 in
theorem g_83_54 : GO x d 83 Q 54 [v0, v1] st I J = GO x d 83 Q 56 [v0, v1] (.inl (8) :: st) I J := ge (A := (0, 56, 0, 0, 8)) rfl
set_option maxRecDepth 10000 in
theorem g_83_56 : GO x d 83 Q 56 [v0, v1] [.inl i0, .inl i1, .inr (.inr w0), .inr (.inr (.inl r))] I J = (okO r 1 ∧ EX x d 3 [.inr (.inr (.inl r)), .inr (.inr w0), .inl i1, .inl i0] I J (fun r1 I1 J1 => GO x d 83 Q 59 [v0, v1] (r1.toList ++ []) I1 J1)) := (ge (A := (53, 59, 3, 3, 0)) rfl).trans (gtrue (Nat.le_of_ble_eq_true rfl))
set_option maxRecDepth 10000 in
theorem g_83_59 : GO x d 83 Q 59 [some (.inr (.inr w)), v1] st I J = GO x d 83 Q 60 [some (.inr (.inr w)), v1] (.inr (.inr w) :: st) I J := ge (A := (2, 60, 0, 0, 0)) rfl
set_option maxRecDepth 10000 in
theorem g_83_60 : GO x d 83 Q 60 [v0, v1] (.inr (.inr (.inl r)) :: st) I J = (okF r 9 1 ∧ GO x d 83 Q 63 [v0, v1] (.inr (.inr (.inl (rfN r 1))) :: st) I J) := (ge (A := (39, 63, 9, 1, 0)) rfl).trans (gref (f := fun q => GO x d 83 Q 63 [v0, v1] (.inr (.inr (.inl q)) :: st) I J))
set_option maxRecDepth 10000 in
theorem g_83_63 : GO x d 83 Q 63 [v0, v1] (.inr (.inr w) :: st) I J = GO x d 83 Q 64 [v0, v1] (.inr (.inr w) :: .inr (.inr w) :: st) I J := ge (A := (31, 64, 0, 0, 0)) rfl
set_option maxRecDepth 10000 in
theorem g_83_64 : GO x d 83 Q 64 [v0, v1] (.inr (.inr (.inl r)) :: st) I J = (okO r 3 ∧ GO x d 83 Q 67 [v0, v1] (.inl (I r 11) :: st) I J) := ge (A := (37, 67, 3, 11, 0)) rfl
set_option maxRecDepth 10000 in
theorem g_83_67 : GO x d 83 Q 67 [v0, some (.inl a)] st I J = GO x d 83 Q 68 [v0, some (.inl a)] (.inl a :: st) I J := ge (A := (1, 68, 1, 0, 0)) rfl
set_option maxRecDepth 10000 in
theorem g_83_68 : GO x d 83 Q 68 [v0, v1] (.inl b :: .inl a :: st) I J = GO x d 83 Q 69 [v0, v1] (.inl (a + b) :: st) I J := ge (A := (8, 69, 0, 0, 0)) rfl
set_option maxRecDepth 10000 in
theorem g_83_69 : GO x d 83 Q 69 [v0, v1] (.inl a :: .inr (.inr (.inl r)) :: st) I J = (okO r 3 ∧ GO x d 83 Q 72 [v0, v1] st (up I r 11 a) J) := ge (A := (40, 72, 3, 11, 0)) rfl
set_option maxRecDepth 10000 in
theorem g_83_72 : GO x d 83 Q 72 [some (.inr (.inr w)), v1] st I J = GO x d 83 Q 73 [some (.inr (.inr w)), v1] (.inr (.inr w) :: st) I J := ge (A := (2, 73, 0, 0, 0)) rfl
set_option maxRecDepth 10000 in
theorem g_83_73 : GO x d 83 Q 73 [v0, v1] (.inr (.inr (.inl r)) :: st) I J = (okF r 9 1 ∧ GO x d 83 Q 76 [v0, v1] (.inr (.inr (.inl (rfN r 1))) :: st) I J) := (ge (A := (39, 76, 9, 1, 0)) rfl).trans (gref (f := fun q => GO x d 83 Q 76 [v0, v1] (.inr (.inr (.inl q)) :: st) I J))
set_option maxRecDepth 10000 in
theorem g_83_76 : GO x d 83 Q 76 [v0, v1] (.inr (.inr (.inl r)) :: st) I J = (okO r 3 ∧ GO x d 83 Q 79 [v0, v1] (.inl (I r 11) :: st) I J) := ge (A := (37, 79, 3, 11, 0)) rfl
set_option maxRecDepth 10000 in
theorem g_83_79 : GO x d 83 Q 79 [v0, v1] [.inl a] I J = Q (some (.inl a)) I J := ge (A := (55, 80, 0, 0, 0)) rfl
set_option maxRecDepth 10000 in
theorem e_83 : EX x (d + 1) 83 [.inr (.inr w0), .inl i0] I J Q = GO x d 83 Q 0 [some (.inr (.inr w0)), some (.inl i0)] [] I J := ex_eq (Nat.le_of_ble_eq_true rfl) rfl (Nat.le_of_ble_eq_true rfl) rfl
set_option maxRecDepth 10000 in
theorem g_84_0 : GO x d 84 Q 0 [some (.inr (.inr w))] st I J = GO x d 84 Q 1 [some (.inr (.inr w))] (.inr (.inr w) :: st) I J := ge (A := (2, 1, 0, 0, 0)) rfl
set_option maxRecDepth 10000 in
theorem g_84_1 : GO x d 84 Q 1 [v0] (.inr (.inr (.inl r)) :: st) I J = (okF r 9 5 ∧ GO x d 84 Q 4 [v0] (.inr (.inr (.inl (rfN r 5))) :: st) I J) := (ge (A := (39, 4, 9, 5, 0)) rfl).trans (gref (f := fun q => GO x d 84 Q 4 [v0] (.inr (.inr (.inl q)) :: st) I J))
set_option maxRecDepth 10000 in
theorem g_84_4 : GO x d 84 Q 4 [v0] (.inr (.inr (.inl r)) :: st) I J = (okO r 1 ∧ GO x d 84 Q 7 [v0] (.inl (I r 2) :: st) I J) := ge (A := (37, 7, 1, 2, 0)) rfl
set_option maxRecDepth 10000 in
theorem g_84_7 : GO x d 84 Q 7 [v0] (.inl a :: st) I J = (inR a ∧ if 0 < a then GO x d 84 Q 13 [v0] st I J else GO x d 84 Q 10 [v0] st I J) := (ge (A := (33, 10, 13, 4, 0)) rfl).trans (gif (p := 0 < a) inferInstance)
set_option maxRecDepth 10000 in
theorem g_84_10 : GO x d 84 Q 10 [v0] st I J = GO x d 84 Q 12 [v0] (.inl (-1000002) :: st) I J := ge (A := (0, 12, 0, 0, -1000002)) rfl
set_option maxRecDepth 10000 in
theorem g_84_12 : GO x d 84 Q 12 [v0] [.inl a] I J = Q (some (.inl a)) I J := ge (A := (55, 13, 0, 0, 0)) rfl
set_option maxRecDepth 10000 in
theorem g_84_13 : GO x d 84 Q 13 [some (.inr (.inr w))] st I J = GO x d 84 Q 14 [some (.inr (.inr w))] (.inr (.inr w) :: st) I J := ge (A := (2, 14, 0, 0, 0)) rfl
set_option maxRecDepth 10000 in
theorem g_84_14 : GO x d 84 Q 14 [v0] (.inr (.inr (.inl r)) :: st) I J = (okF r 9 5 ∧ GO x d 84 Q 17 [v0] (.inr (.inr (.inl (rfN r 5))) :: st) I J) := (ge (A := (39, 17, 9, 5, 0)) rfl).trans (gref (f := fun q => GO x d 84 Q 17 [v0] (.inr (.inr (.inl q)) :: st) I J))
set_option maxRecDepth 10000 in
theorem g_84_17 : GO x d 84 Q 17 [some (.inr (.inr w))] st I J = GO x d 84 Q 18 [some (.inr (.inr w))] (.inr (.inr w) :: st) I J := ge (A := (2, 18, 0, 0, 0)) rfl
set_option maxRecDepth 10000 in
theorem g_84_18 : GO x d 84 Q 18 [v0] (.inr (.inr (.inl r)) :: st) I J = (okF r 9 1 ∧ GO x d 84 Q 21 [v0] (.inr (.inr (.inl (rfN r 1))) :: st) I J) := (ge (A := (39, 21, 9, 1, 0)) rfl).trans (gref (f := fun q => GO x d 84 Q 21 [v0] (.inr (.inr (.inl q)) :: st) I J))
set_option maxRecDepth 10000 in
theorem g_84_21 : GO x d 84 Q 21 [v0] [.inr (.inr w0), .inr (.inr (.inl r))] I J = (okO r 1 ∧ EX x d 4 [.inr (.inr (.inl r)), .inr (.inr w0)] I J (fun r1 I1 J1 => GO x d 84 Q 24 [v0] (r1.toList ++ []) I1 J1)) := (ge (A := (53, 24, 4, 1, 0)) rfl).trans (gtrue (Nat.le_of_ble_eq_true rfl))
set_option maxRecDepth 10000 in
theorem g_84_24 : GO x d 84 Q 24 [some (.inr (.inr w))] st I J = GO x d 84 Q 25 [some (.inr (.inr w))] (.inr (.inr w) :: st) I J := ge (A := (2, 25, 0, 0, 0)) rfl
set_option maxRecDepth 10000 in
theorem g_84_25 : GO x d 84 Q 25 [v0] (.inr (.inr (.inl r)) :: st) I J = (okF r 9 5 ∧ GO x d 84 Q 28 [v0] (.inr (.inr (.inl (rfN r 5))) :: st) I J) := (ge (A := (39, 28, 9, 5, 0)) rfl).trans (gref (f := fun q => GO x d 84 Q 28 [v0] (.inr (.inr (.inl q)) :: st) I J))
set_option maxRecDepth 10000 in
theorem g_84_28 : GO x d 84 Q 28 [v0] (.inr (.inr (.inl r)) :: st) I J = (okO r 1 ∧ GO x d 84 Q 31 [v0] (.inl (I r 2) :: st) I J) := ge (A := (37, 31, 1, 2, 0)) rfl
set_option maxRecDepth 10000 in
theorem g_84_31 : GO x d 84 Q 31 [v0] [.inl a] I J = Q (some (.inl a)) I J := ge (A := (55, 32, 0, 0, 0)) rfl
set_option maxRecDepth 10000 in
theorem e_84 : EX x (d + 1) 84 [.inr (.inr w0)] I J Q = GO x d 84 Q 0 [some (.inr (.inr w0))] [] I J := ex_eq (Nat.le_of_ble_eq_true rfl) rfl (Nat.le_of_ble_eq_true rfl) rfl
set_option maxRecDepth 10000 in
theorem g_85_0 : GO x d 85 Q 0 [some (.inr (.inr w)), v1, v2] st I J = GO x d 85 Q 1 [some (.inr (.inr w)), v1, v2] (.inr (.inr w) :: st) I J := ge (A := (2, 1, 0, 0, 0)) rfl
set_option maxRecDepth 10000 in
theorem g_85_1 : GO x d 85 Q 1 [v0, v1, v2] (.inr (.inr (.inl r)) :: st) I J = (okF r 9 1 ∧ GO x d 85 Q 4 [v0, v1, v2] (.inr (.inr (.inl (rfN r 1))) :: st) I J) := (ge (A := (39, 4, 9, 1, 0)) rfl).trans (gref (f := fun q => GO x d 85 Q 4 [v0, v1, v2] (.inr (.inr (.inl q)) :: st) I J))
set_option maxRecDepth 10000 in
theorem g_85_4 : GO x d 85 Q 4 [v0, some (.inl a), v2] st I J = GO x d 85 Q 5 [v0, some (.inl a), v2] (.inl a :: st) I J := ge (A := (1, 5, 1, 0, 0)) rfl
set_option maxRecDepth 10000 in
theorem g_85_5 : GO x d 85 Q 5 [v0, v1, v2] [.inl i0, .inr (.inr (.inl r))] I J = (okO r 3 ∧ EX x d 16 [.inr (.inr (.inl r)), .inl i0] I J (fun r1 I1 J1 => GO x d 85 Q 8 [v0, v1, v2] (r1.toList ++ []) I1 J1)) := (ge (A := (53, 8, 16, 1, 0)) rfl).trans (gtrue (Nat.le_of_ble_eq_true rfl))
set_option maxRecDepth 10000 in
theorem g_85_8 : GO x d 85 Q 8 [v0, v1, v2] (.inl a :: st) I J = (inR a ∧ if a = 0 then GO x d 85 Q 11 [v0, v1, v2] st I J else GO x d 85 Q 14 [v0, v1, v2] st I J) := (ge (A := (33, 11, 14, 1, 0)) rfl).trans (gifn (p := a = 0) inferInstance)
set_option maxRecDepth 10000 in
theorem g_85_11 : GO x d 85 Q 11 [v0, v1, v2] st I J = GO x d 85 Q 13 [v0, v1, v2] (.inl (-1000001) :: st) I J := ge (A := (0, 13, 0, 0, -1000001)) rfl
set_option maxRecDepth 10000 in
theorem g_85_13 : GO x d 85 Q 13 [v0, v1, v2] [.inl a] I J = Q (some (.inl a)) I J := ge (A := (55, 14, 0, 0, 0)) rfl
set_option maxRecDepth 10000 in
theorem g_85_14 : GO x d 85 Q 14 [v0, v1, some (.inl a)] st I J = GO x d 85 Q 15 [v0, v1, some (.inl a)] (.inl a :: st) I J := ge (A := (1, 15, 2, 0, 0)) rfl
set_option maxRecDepth 10000 in
theorem g_85_15 : GO x d 85 Q 15 [v0, v1, v2] (.inl a :: st) I J = (inR a ∧ if a = 0 then GO x d 85 Q 44 [v0, v1, v2] st I J else if a = 1 then GO x d 85 Q 54 [v0, v1, v2] st I J else if a = 2 then GO x d 85 Q 64 [v0, v1, v2] st I J else if a = 3 then GO x d 85 Q 74 [v0, v1, v2] st I J else GO x d 85 Q 94 [v0, v1, v2] st I J) := (ge (A := (36, 44, 2, 0, 0)) rfl).trans (congrArg (And _) (propext (tswF_of (f := fun t => GO x d 85 Q t [v0, v1, v2] st I J) [44, 54, 64, 74] 0)))
set_option maxRecDepth 10000 in
theorem g_85_44 : GO x d 85 Q 44 [some (.inr (.inr w)), v1, v2] st I J = GO x d 85 Q 45 [some (.inr (.inr w)), v1, v2] (.inr (.inr w) :: st) I J := ge (A := (2, 45, 0, 0, 0)) rfl
set_option maxRecDepth 10000 in
theorem g_85_45 : GO x d 85 Q 45 [v0, v1, v2] (.inr (.inr (.inl r)) :: st) I J = (okF r 9 1 ∧ GO x d 85 Q 48 [v0, v1, v2] (.inr (.inr (.inl (rfN r 1))) :: st) I J) := (ge (A := (39, 48, 9, 1, 0)) rfl).trans (gref (f := fun q => GO x d 85 Q 48 [v0, v1, v2] (.inr (.inr (.inl q)) :: st) I J))
set_option maxRecDepth 10000 in
theorem g_85_48 : GO x d 85 Q 48 [v0, v1, v2] (.inr (.inr (.inl r)) :: st) I J = (okF r 3 5 ∧ GO x d 85 Q 51 [v0, v1, v2] (.inr (.inr (.inl (rfN r 5))) :: st) I J) := (ge (A := (39, 51, 3, 5, 0)) rfl).trans (gref (f := fun q => GO x d 85 Q 51 [v0, v1, v2] (.inr (.inr (.inl q)) :: st) I J))
set_option maxRecDepth 10000 in
theorem g_85_51 : GO x d 85 Q 51 [v0, some (.inl a), v2] st I J = GO x d 85 Q 52 [v0, some (.inl a), v2] (.inl a :: st) I J := ge (A := (1, 52, 1, 0, 0)) rfl
set_option maxRecDepth 10000 in
theorem h_85_52 : GO x d 85 Q 52 [v0, v1, v2] (.inl a :: .inr (.inr (.inr q)) :: st) I J = (q < 4 ∧ 0 ≤ a ∧ a < (roA x q).1 ∧ GO x d 85 Q 53 [v0, v1, v2] (.inl ((roA x q).2 a.toNat) :: st) I J) := ge (A := (44, 53, 0, 0, 0)) rfl
set_option maxRecDepth 10000 in
theorem g_85_52 : GO x d 85 Q 52 [v0, v1, v2] (.inl a :: .inr (.inr (.inl r)) :: st) I J = (okA r 20 ∧ 0 ≤ a ∧ a < lnN r ∧ GO x d 85 Q 53 [v0, v1, v2] (.inl (I r a) :: st) I J) := ge (A := (44, 53, 0, 0, 0)) rfl
set_option maxRecDepth 10000 in
theorem g_85_53 : GO x d 85 Q 53 [v0, v1, v2] [.inl a] I J = Q (some (.inl a)) I J := ge (A := (55, 54, 0, 0, 0)) rfl
set_option maxRecDepth 10000 in
theorem g_85_54 : GO x d 85 Q 54 [some (.inr (.inr w)), v1, v2] st I J = GO x d 85 Q 55 [some (.inr (.inr w)), v1, v2] (.inr (.inr w) :: st) I J := ge (A := (2, 55, 0, 0, 0)) rfl
set_option maxRecDepth 10000 in
theorem g_85_55 : GO x d 85 Q 55 [v0, v1, v2] (.inr (.inr (.inl r)) :: st) I J = (okF r 9 1 ∧ GO x d 85 Q 58 [v0, v1, v2] (.inr (.inr (.inl (rfN r 1))) :: st) I J) := (ge (A := (39, 58, 9, 1, 0)) rfl).trans (gref (f := fun q => GO x d 85 Q 58 [v0, v1, v2] (.inr (.inr (.inl q)) :: st) I J))
set_option maxRecDepth 10000 in
theorem g_85_58 : GO x d 85 Q 58 [v0, v1, v2] (.inr (.inr (.inl r)) :: st) I J = (okF r 3 6 ∧ GO x d 85 Q 61 [v0, v1, v2] (.inr (.inr (.inl (rfN r 6))) :: st) I J) := (ge (A := (39, 61, 3, 6, 0)) rfl).trans (gref (f := fun q => GO x d 85 Q 61 [v0, v1, v2] (.inr (.inr (.inl q)) :: st) I J))
set_option maxRecDepth 10000 in
theorem g_85_61 : GO x d 85 Q 61 [v0, some (.inl a), v2] st I J = GO x d 85 Q 62 [v0, some (.inl a), v2] (.inl a :: st) I J := ge (A := (1, 62, 1, 0, 0)) rfl
set_option maxRecDepth 10000 in
theorem h_85_62 : GO x d 85 Q 62 [v0, v1, v2] (.inl a :: .inr (.inr (.inr q)) :: st) I J = (q < 4 ∧ 0 ≤ a ∧ a < (roA x q).1 ∧ GO x d 85 Q 63 [v0, v1, v2] (.inl ((roA x q).2 a.toNat) :: st) I J) := ge (A := (44, 63, 0, 0, 0)) rfl
set_option maxRecDepth 10000 in
theorem g_85_62 : GO x d 85 Q 62 [v0, v1, v2] (.inl a :: .inr (.inr (.inl r)) :: st) I J = (okA r 20 ∧ 0 ≤ a ∧ a < lnN r ∧ GO x d 85 Q 63 [v0, v1, v2] (.inl (I r a) :: st) I J) := ge (A := (44, 63, 0, 0, 0)) rfl
set_option maxRecDepth 10000 in
theorem g_85_63 : GO x d 85 Q 63 [v0, v1, v2] [.inl a] I J = Q (some (.inl a)) I J := ge (A := (55, 64, 0, 0, 0)) rfl
set_option maxRecDepth 10000 in
theorem g_85_64 : GO x d 85 Q 64 [some (.inr (.inr w)), v1, v2] st I J = GO x d 85 Q 65 [some (.inr (.inr w)), v1, v2] (.inr (.inr w) :: st) I J := ge (A := (2, 65, 0, 0, 0)) rfl
set_option maxRecDepth 10000 in
theorem g_85_65 : GO x d 85 Q 65 [v0, v1, v2] (.inr (.inr (.inl r)) :: st) I J = (okF r 9 1 ∧ GO x d 85 Q 68 [v0, v1, v2] (.inr (.inr (.inl (rfN r 1))) :: st) I J) := (ge (A := (39, 68, 9, 1, 0)) rfl).trans (gref (f := fun q => GO x d 85 Q 68 [v0, v1, v2] (.inr (.inr (.inl q)) :: st) I J))
set_option maxRecDepth 10000 in
theorem g_85_68 : GO x d 85 Q 68 [v0, v1, v2] (.inr (.inr (.inl r)) :: st) I J = (okF r 3 7 ∧ GO x d 85 Q 71 [v0, v1, v2] (.inr (.inr (.inl (rfN r 7))) :: st) I J) := (ge (A := (39, 71, 3, 7, 0)) rfl).trans (gref (f := fun q => GO x d 85 Q 71 [v0, v1, v2] (.inr (.inr (.inl q)) :: st) I J))
set_option maxRecDepth 10000 in
theorem g_85_71 : GO x d 85 Q 71 [v0, some (.inl a), v2] st I J = GO x d 85 Q 72 [v0, some (.inl a), v2] (.inl a :: st) I J := ge (A := (1, 72, 1, 0, 0)) rfl
set_option maxRecDepth 10000 in
theorem h_85_72 : GO x d 85 Q 72 [v0, v1, v2] (.inl a :: .inr (.inr (.inr q)) :: st) I J = (q < 4 ∧ 0 ≤ a ∧ a < (roA x q).1 ∧ GO x d 85 Q 73 [v0, v1, v2] (.inl ((roA x q).2 a.toNat) :: st) I J) := ge (A := (44, 73, 0, 0, 0)) rfl
set_option maxRecDepth 10000 in
theorem g_85_72 : GO x d 85 Q 72 [v0, v1, v2] (.inl a :: .inr (.inr (.inl r)) :: st) I J = (okA r 20 ∧ 0 ≤ a ∧ a < lnN r ∧ GO x d 85 Q 73 [v0, v1, v2] (.inl (I r a) :: st) I J) := ge (A := (44, 73, 0, 0, 0)) rfl
set_option maxRecDepth 10000 in
theorem g_85_73 : GO x d 85 Q 73 [v0, v1, v2] [.inl a] I J = Q (some (.inl a)) I J := ge (A := (55, 74, 0, 0, 0)) rfl
set_option maxRecDepth 10000 in
theorem g_85_74 : GO x d 85 Q 74 [some (.inr (.inr w)), v1, v2] st I J = GO x d 85 Q 75 [some (.inr (.inr w)), v1, v2] (.inr (.inr w) :: st) I J := ge (A := (2, 75, 0, 0, 0)) rfl
set_option maxRecDepth 10000 in
theorem g_85_75 : GO x d 85 Q 75 [v0, v1, v2] (.inr (.inr (.inl r)) :: st) I J = (okF r 9 1 ∧ GO x d 85 Q 78 [v0, v1, v2] (.inr (.inr (.inl (rfN r 1))) :: st) I J) := (ge (A := (39, 78, 9, 1, 0)) rfl).trans (gref (f := fun q => GO x d 85 Q 78 [v0, v1, v2] (.inr (.inr (.inl q)) :: st) I J))
set_option maxRecDepth 10000 in
theorem g_85_78 : GO x d 85 Q 78 [v0, v1, v2] [.inr (.inr (.inl r))] I J = (okO r 3 ∧ EX x d 23 [.inr (.inr (.inl r))] I J (fun r1 I1 J1 => GO x d 85 Q 81 [v0, v1, v2] (r1.toList ++ []) I1 J1)) := (ge (A := (53, 81, 23, 0, 0)) rfl).trans (gtrue (Nat.le_of_ble_eq_true rfl))
set_option maxRecDepth 10000 in
theorem g_85_81 : GO x d 85 Q 81 [v0, some (.inl a), v2] st I J = GO x d 85 Q 82 [v0, some (.inl a), v2] (.inl a :: st) I J := ge (A := (1, 82, 1, 0, 0)) rfl
set_option maxRecDepth 10000 in
theorem g_85_82 : GO x d 85 Q 82 [v0, v1, v2] [.inl i0, .inl i1] I J = EX x d 105 [.inl i1, .inl i0] I J (fun r1 I1 J1 => GO x d 85 Q 85 [v0, v1, v2] (r1.toList ++ []) I1 J1) := (ge (A := (52, 85, 105, 2, 0)) rfl).trans (gtrue2 (Nat.le_of_ble_eq_true rfl) (Nat.le_of_ble_eq_true rfl))
set_option maxRecDepth 10000 in
theorem g_85_85 : GO x d 85 Q 85 [v0, v1, v2] (.inl a :: st) I J = (inR a ∧ if a = 0 then GO x d 85 Q 92 [v0, v1, v2] st I J else GO x d 85 Q 88 [v0, v1, v2] st I J) := (ge (A := (33, 88, 92, 0, 0)) rfl).trans (gif (p := a = 0) inferInstance)
set_option maxRecDepth 10000 in
theorem g_85_88 : GO x d 85 Q 88 [v0, v1, v2] st I J = GO x d 85 Q 89 [v0, v1, v2] (.inl (1) :: st) I J := ge (A := (0, 89, 0, 0, 1)) rfl
set_option maxRecDepth 10000 in
theorem g_85_89 : GO x d 85 Q 89 [v0, v1, v2] st I J = GO x d 85 Q 93 [v0, v1, v2] st I J := ge (A := (35, 92, 93, 0, 0)) rfl
set_option maxRecDepth 10000 in
theorem g_85_92 : GO x d 85 Q 92 [v0, v1, v2] st I J = GO x d 85 Q 93 [v0, v1, v2] (.inl (0) :: st) I J := ge (A := (0, 93, 0, 0, 0)) rfl
set_option maxRecDepth 10000 in
theorem g_85_93 : GO x d 85 Q 93 [v0, v1, v2] [.inl a] I J = Q (some (.inl a)) I J := ge (A := (55, 94, 0, 0, 0)) rfl
set_option maxRecDepth 10000 in
theorem g_85_94 : GO x d 85 Q 94 [v0, v1, v2] st I J = GO x d 85 Q 96 [v0, v1, v2] (.inl (-1000001) :: st) I J := ge (A := (0, 96, 0, 0, -1000001)) rfl
set_option maxRecDepth 10000 in
theorem g_85_96 : GO x d 85 Q 96 [v0, v1, v2] [.inl a] I J = Q (some (.inl a)) I J := ge (A := (55, 97, 0, 0, 0)) rfl
set_option maxRecDepth 10000 in
theorem e_85 : EX x (d + 1) 85 [.inr (.inr w0), .inl i0, .inl i1] I J Q = GO x d 85 Q 0 [some (.inr (.inr w0)), some (.inl i0), some (.inl i1)] [] I J := ex_eq (Nat.le_of_ble_eq_true rfl) rfl (Nat.le_of_ble_eq_true rfl) rfl
set_option maxRecDepth 10000 in
theorem g_86_0 : GO x d 86 Q 0 [some (.inr (.inr w)), v1, v2] st I J = GO x d 86 Q 1 [some (.inr (.inr w)), v1, v2] (.inr (.inr w) :: st) I J := ge (A := (2, 1, 0, 0, 0)) rfl
set_option maxRecDepth 10000 in
theorem g_86_1 : GO x d 86 Q 1 [v0, v1, v2] (.inr (.inr (.inl r)) :: st) I J = (okF r 9 1 ∧ GO x d 86 Q 4 [v0, v1, v2] (.inr (.inr (.inl (rfN r 1))) :: st) I J) := (ge (A := (39, 4, 9, 1, 0)) rfl).trans (gref (f := fun q => GO x d 86 Q 4 [v0, v1, v2] (.inr (.inr (.inl q)) :: st) I J))
set_option maxRecDepth 10000 in
theorem g_86_4 : GO x d 86 Q 4 [v0, some (.inl a), v2] st I J = GO x d 86 Q 5 [v0, some (.inl a), v2] (.inl a :: st) I J := ge (A := (1, 5, 1, 0, 0)) rfl
set_option maxRecDepth 10000 in
theorem g_86_5 : GO x d 86 Q 5 [v0, v1, v2] [.inl i0, .inr (.inr (.inl r))] I J = (okO r 3 ∧ EX x d 17 [.inr (.inr (.inl r)), .inl i0] I J (fun r1 I1 J1 => GO x d 86 Q 8 [v0, v1, v2] (r1.toList ++ []) I1 J1)) := (ge (A := (53, 8, 17, 1, 0)) rfl).trans (gtrue (Nat.le_of_ble_eq_true rfl))
set_option maxRecDepth 10000 in
theorem g_86_8 : GO x d 86 Q 8 [v0, v1, v2] (.inl a :: st) I J = (inR a ∧ if a = 0 then GO x d 86 Q 11 [v0, v1, v2] st I J else GO x d 86 Q 14 [v0, v1, v2] st I J) := (ge (A := (33, 11, 14, 1, 0)) rfl).trans (gifn (p := a = 0) inferInstance)
set_option maxRecDepth 10000 in
theorem g_86_11 : GO x d 86 Q 11 [v0, v1, v2] st I J = GO x d 86 Q 13 [v0, v1, v2] (.inl (-1000001) :: st) I J := ge (A := (0, 13, 0, 0, -1000001)) rfl
set_option maxRecDepth 10000 in
theorem g_86_13 : GO x d 86 Q 13 [v0, v1, v2] [.inl a] I J = Q (some (.inl a)) I J := ge (A := (55, 14, 0, 0, 0)) rfl
set_option maxRecDepth 10000 in
theorem g_86_14 : GO x d 86 Q 14 [v0, v1, some (.inl a)] st I J = GO x d 86 Q 15 [v0, v1, some (.inl a)] (.inl a :: st) I J := ge (A := (1, 15, 2, 0, 0)) rfl
set_option maxRecDepth 10000 in
theorem g_86_15 : GO x d 86 Q 15 [v0, v1, v2] (.inl a :: st) I J = (inR a ∧ if a = 0 then GO x d 86 Q 40 [v0, v1, v2] st I J else if a = 1 then GO x d 86 Q 50 [v0, v1, v2] st I J else if a = 2 then GO x d 86 Q 67 [v0, v1, v2] st I J else GO x d 86 Q 77 [v0, v1, v2] st I J) := (ge (A := (36, 40, 3, 0, 0)) rfl).trans (congrArg (And _) (propext (tswF_of (f := fun t => GO x d 86 Q t [v0, v1, v2] st I J) [40, 50, 67] 0)))
set_option maxRecDepth 10000 in
theorem g_86_40 : GO x d 86 Q 40 [some (.inr (.inr w)), v1, v2] st I J = GO x d 86 Q 41 [some (.inr (.inr w)), v1, v2] (.inr (.inr w) :: st) I J := ge (A := (2, 41, 0, 0, 0)) rfl
set_option maxRecDepth 10000 in
theorem g_86_41 : GO x d 86 Q 41 [v0, v1, v2] (.inr (.inr (.inl r)) :: st) I J = (okF r 9 1 ∧ GO x d 86 Q 44 [v0, v1, v2] (.inr (.inr (.inl (rfN r 1))) :: st) I J) := (ge (A := (39, 44, 9, 1, 0)) rfl).trans (gref (f := fun q => GO x d 86 Q 44 [v0, v1, v2] (.inr (.inr (.inl q)) :: st) I J))
set_option maxRecDepth 10000 in
theorem g_86_44 : GO x d 86 Q 44 [v0, v1, v2] (.inr (.inr (.inl r)) :: st) I J = (okF r 3 9 ∧ GO x d 86 Q 47 [v0, v1, v2] (.inr (.inr (.inl (rfN r 9))) :: st) I J) := (ge (A := (39, 47, 3, 9, 0)) rfl).trans (gref (f := fun q => GO x d 86 Q 47 [v0, v1, v2] (.inr (.inr (.inl q)) :: st) I J))
set_option maxRecDepth 10000 in
theorem g_86_47 : GO x d 86 Q 47 [v0, some (.inl a), v2] st I J = GO x d 86 Q 48 [v0, some (.inl a), v2] (.inl a :: st) I J := ge (A := (1, 48, 1, 0, 0)) rfl
set_option maxRecDepth 10000 in
theorem h_86_48 : GO x d 86 Q 48 [v0, v1, v2] (.inl a :: .inr (.inr (.inr q)) :: st) I J = (q < 4 ∧ 0 ≤ a ∧ a < (roA x q).1 ∧ GO x d 86 Q 49 [v0, v1, v2] (.inl ((roA x q).2 a.toNat) :: st) I J) := ge (A := (44, 49, 0, 0, 0)) rfl
set_option maxRecDepth 10000 in
theorem g_86_48 : GO x d 86 Q 48 [v0, v1, v2] (.inl a :: .inr (.inr (.inl r)) :: st) I J = (okA r 20 ∧ 0 ≤ a ∧ a < lnN r ∧ GO x d 86 Q 49 [v0, v1, v2] (.inl (I r a) :: st) I J) := ge (A := (44, 49, 0, 0, 0)) rfl
set_option maxRecDepth 10000 in
theorem g_86_49 : GO x d 86 Q 49 [v0, v1, v2] [.inl a] I J = Q (some (.inl a)) I J := ge (A := (55, 50, 0, 0, 0)) rfl
set_option maxRecDepth 10000 in
theorem g_86_50 : GO x d 86 Q 50 [some (.inr (.inr w)), v1, v2] st I J = GO x d 86 Q 51 [some (.inr (.inr w)), v1, v2] (.inr (.inr w) :: st) I J := ge (A := (2, 51, 0, 0, 0)) rfl
set_option maxRecDepth 10000 in
theorem g_86_51 : GO x d 86 Q 51 [v0, v1, v2] (.inr (.inr (.inl r)) :: st) I J = (okF r 9 1 ∧ GO x d 86 Q 54 [v0, v1, v2] (.inr (.inr (.inl (rfN r 1))) :: st) I J) := (ge (A := (39, 54, 9, 1, 0)) rfl).trans (gref (f := fun q => GO x d 86 Q 54 [v0, v1, v2] (.inr (.inr (.inl q)) :: st) I J))
set_option maxRecDepth 10000 in
theorem g_86_54 : GO x d 86 Q 54 [v0, some (.inl a), v2] st I J = GO x d 86 Q 55 [v0, some (.inl a), v2] (.inl a :: st) I J := ge (A := (1, 55, 1, 0, 0)) rfl
set_option maxRecDepth 10000 in
theorem g_86_55 : GO x d 86 Q 55 [v0, v1, v2] [.inl i0, .inr (.inr (.inl r))] I J = (okO r 3 ∧ EX x d 18 [.inr (.inr (.inl r)), .inl i0] I J (fun r1 I1 J1 => GO x d 86 Q 58 [v0, v1, v2] (r1.toList ++ []) I1 J1)) := (ge (A := (53, 58, 18, 1, 0)) rfl).trans (gtrue (Nat.le_of_ble_eq_true rfl))
set_option maxRecDepth 10000 in
theorem g_86_58 : GO x d 86 Q 58 [v0, v1, v2] (.inl a :: st) I J = (inR a ∧ if a = 0 then GO x d 86 Q 65 [v0, v1, v2] st I J else GO x d 86 Q 61 [v0, v1, v2] st I J) := (ge (A := (33, 61, 65, 0, 0)) rfl).trans (gif (p := a = 0) inferInstance)
set_option maxRecDepth 10000 in
theorem g_86_61 : GO x d 86 Q 61 [v0, v1, v2] st I J = GO x d 86 Q 62 [v0, v1, v2] (.inl (1) :: st) I J := ge (A := (0, 62, 0, 0, 1)) rfl
set_option maxRecDepth 10000 in
theorem g_86_62 : GO x d 86 Q 62 [v0, v1, v2] st I J = GO x d 86 Q 66 [v0, v1, v2] st I J := ge (A := (35, 65, 66, 0, 0)) rfl
set_option maxRecDepth 10000 in
theorem g_86_65 : GO x d 86 Q 65 [v0, v1, v2] st I J = GO x d 86 Q 66 [v0, v1, v2] (.inl (0) :: st) I J := ge (A := (0, 66, 0, 0, 0)) rfl
set_option maxRecDepth 10000 in
theorem g_86_66 : GO x d 86 Q 66 [v0, v1, v2] [.inl a] I J = Q (some (.inl a)) I J := ge (A := (55, 67, 0, 0, 0)) rfl
set_option maxRecDepth 10000 in
theorem g_86_67 : GO x d 86 Q 67 [some (.inr (.inr w)), v1, v2] st I J = GO x d 86 Q 68 [some (.inr (.inr w)), v1, v2] (.inr (.inr w) :: st) I J := ge (A := (2, 68, 0, 0, 0)) rfl
set_option maxRecDepth 10000 in
theorem g_86_68 : GO x d 86 Q 68 [v0, v1, v2] (.inr (.inr (.inl r)) :: st) I J = (okF r 9 1 ∧ GO x d 86 Q 71 [v0, v1, v2] (.inr (.inr (.inl (rfN r 1))) :: st) I J) := (ge (A := (39, 71, 9, 1, 0)) rfl).trans (gref (f := fun q => GO x d 86 Q 71 [v0, v1, v2] (.inr (.inr (.inl q)) :: st) I J))
set_option maxRecDepth 10000 in
theorem g_86_71 : GO x d 86 Q 71 [v0, v1, v2] (.inr (.inr (.inl r)) :: st) I J = (okF r 3 10 ∧ GO x d 86 Q 74 [v0, v1, v2] (.inr (.inr (.inl (rfN r 10))) :: st) I J) := (ge (A := (39, 74, 3, 10, 0)) rfl).trans (gref (f := fun q => GO x d 86 Q 74 [v0, v1, v2] (.inr (.inr (.inl q)) :: st) I J))
set_option maxRecDepth 10000 in
theorem g_86_74 : GO x d 86 Q 74 [v0, some (.inl a), v2] st I J = GO x d 86 Q 75 [v0, some (.inl a), v2] (.inl a :: st) I J := ge (A := (1, 75, 1, 0, 0)) rfl
set_option maxRecDepth 10000 in
theorem h_86_75 : GO x d 86 Q 75 [v0, v1, v2] (.inl a :: .inr (.inr (.inr q)) :: st) I J = (q < 4 ∧ 0 ≤ a ∧ a < (roA x q).1 ∧ GO x d 86 Q 76 [v0, v1, v2] (.inl ((roA x q).2 a.toNat) :: st) I J) := ge (A := (44, 76, 0, 0, 0)) rfl
set_option maxRecDepth 10000 in
theorem g_86_75 : GO x d 86 Q 75 [v0, v1, v2] (.inl a :: .inr (.inr (.inl r)) :: st) I J = (okA r 20 ∧ 0 ≤ a ∧ a < lnN r ∧ GO x d 86 Q 76 [v0, v1, v2] (.inl (I r a) :: st) I J) := ge (A := (44, 76, 0, 0, 0)) rfl
set_option maxRecDepth 10000 in
theorem g_86_76 : GO x d 86 Q 76 [v0, v1, v2] [.inl a] I J = Q (some (.inl a)) I J := ge (A := (55, 77, 0, 0, 0)) rfl
set_option maxRecDepth 10000 in
theorem g_86_77 : GO x d 86 Q 77 [v0, v1, v2] st I J = GO x d 86 Q 79 [v0, v1, v2] (.inl (-1000001) :: st) I J := ge (A := (0, 79, 0, 0, -1000001)) rfl
set_option maxRecDepth 10000 in
theorem g_86_79 : GO x d 86 Q 79 [v0, v1, v2] [.inl a] I J = Q (some (.inl a)) I J := ge (A := (55, 80, 0, 0, 0)) rfl
set_option maxRecDepth 10000 in
theorem e_86 : EX x (d + 1) 86 [.inr (.inr w0), .inl i0, .inl i1] I J Q = GO x d 86 Q 0 [some (.inr (.inr w0)), some (.inl i0), some (.inl i1)] [] I J := ex_eq (Nat.le_of_ble_eq_true rfl) rfl (Nat.le_of_ble_eq_true rfl) rfl
set_option maxRecDepth 10000 in
theorem g_87_0 : GO x d 87 Q 0 [some (.inr (.inr w)), v1] st I J = GO x d 87 Q 1 [some (.inr (.inr w)), v1] (.inr (.inr w) :: st) I J := ge (A := (2, 1, 0, 0, 0)) rfl
set_option maxRecDepth 10000 in
theorem g_87_1 : GO x d 87 Q 1 [v0, v1] (.inr (.inr (.inl r)) :: st) I J = (okF r 9 1 ∧ GO x d 87 Q 4 [v0, v1] (.inr (.inr (.inl (rfN r 1))) :: st) I J) := (ge (A := (39, 4, 9, 1, 0)) rfl).trans (gref (f := fun q => GO x d 87 Q 4 [v0, v1] (.inr (.inr (.inl q)) :: st) I J))
set_option maxRecDepth 10000 in
theorem g_87_4 : GO x d 87 Q 4 [v0, some (.inl a)] st I J = GO x d 87 Q 5 [v0, some (.inl a)] (.inl a :: st) I J := ge (A := (1, 5, 1, 0, 0)) rfl
set_option maxRecDepth 10000 in
theorem g_87_5 : GO x d 87 Q 5 [v0, v1] [.inl i0, .inr (.inr (.inl r))] I J = (okO r 3 ∧ EX x d 17 [.inr (.inr (.inl r)), .inl i0] I J (fun r1 I1 J1 => GO x d 87 Q 8 [v0, v1] (r1.toList ++ []) I1 J1)) := (ge (A := (53, 8, 17, 1, 0)) rfl).trans (gtrue (Nat.le_of_ble_eq_true rfl))
set_option maxRecDepth 10000 in
theorem g_87_8 : GO x d 87 Q 8 [v0, v1] (.inl a :: st) I J = (inR a ∧ if a = 0 then GO x d 87 Q 11 [v0, v1] st I J else GO x d 87 Q 14 [v0, v1] st I J) := (ge (A := (33, 11, 14, 1, 0)) rfl).trans (gifn (p := a = 0) inferInstance)
set_option maxRecDepth 10000 in
theorem g_87_11 : GO x d 87 Q 11 [v0, v1] st I J = GO x d 87 Q 13 [v0, v1] (.inl (-1000001) :: st) I J := ge (A := (0, 13, 0, 0, -1000001)) rfl
set_option maxRecDepth 10000 in
theorem g_87_13 : GO x d 87 Q 13 [v0, v1] [.inl a] I J = Q (some (.inl a)) I J := ge (A := (55, 14, 0, 0, 0)) rfl
set_option maxRecDepth 10000 in
theorem g_87_14 : GO x d 87 Q 14 [some (.inr (.inr w)), v1] st I J = GO x d 87 Q 15 [some (.inr (.inr w)), v1] (.inr (.inr w) :: st) I J := ge (A := (2, 15, 0, 0, 0)) rfl
set_option maxRecDepth 10000 in
theorem g_87_15 : GO x d 87 Q 15 [v0, v1] (.inr (.inr (.inl r)) :: st) I J = (okF r 9 1 ∧ GO x d 87 Q 18 [v0, v1] (.inr (.inr (.inl (rfN r 1))) :: st) I J) := (ge (A := (39, 18, 9, 1, 0)) rfl).trans (gref (f := fun q => GO x d 87 Q 18 [v0, v1] (.inr (.inr (.inl q)) :: st) I J))
set_option maxRecDepth 10000 in
theorem g_87_18 : GO x d 87 Q 18 [v0, some (.inl a)] st I J = GO x d 87 Q 19 [v0, some (.inl a)] (.inl a :: st) I J := ge (A := (1, 19, 1, 0, 0)) rfl
set_option maxRecDepth 10000 in
theorem g_87_19 : GO x d 87 Q 19 [v0, v1] [.inl i0, .inr (.inr (.inl r))] I J = (okO r 3 ∧ EX x d 18 [.inr (.inr (.inl r)), .inl i0] I J (fun r1 I1 J1 => GO x d 87 Q 22 [v0, v1] (r1.toList ++ []) I1 J1)) := (ge (A := (53, 22, 18, 1, 0)) rfl).trans (gtrue (Nat.le_of_ble_eq_true rfl))
set_option maxRecDepth 10000 in
theorem g_87_22 : GO x d 87 Q 22 [v0, v1] (.inl a :: st) I J = (inR a ∧ if a = 0 then GO x d 87 Q 30 [v0, v1] st I J else GO x d 87 Q 25 [v0, v1] st I J) := (ge (A := (33, 25, 30, 0, 0)) rfl).trans (gif (p := a = 0) inferInstance)
set_option maxRecDepth 10000 in
theorem g_87_25 : GO x d 87 Q 25 [v0, v1] st I J = GO x d 87 Q 27 [v0, v1] (.inl (-1000002) :: st) I J := ge (A := (0, 27, 0, 0, -1000002)) rfl
set_option maxRecDepth 10000 in
theorem g_87_27 : GO x d 87 Q 27 [v0, v1] st I J = GO x d 87 Q 38 [v0, v1] st I J := ge (A := (35, 30, 38, 0, 0)) rfl
set_option maxRecDepth 10000 in
theorem g_87_30 : GO x d 87 Q 30 [some (.inr (.inr w)), v1] st I J = GO x d 87 Q 31 [some (.inr (.inr w)), v1] (.inr (.inr w) :: st) I J := ge (A := (2, 31, 0, 0, 0)) rfl
set_option maxRecDepth 10000 in
theorem g_87_31 : GO x d 87 Q 31 [v0, v1] (.inr (.inr (.inl r)) :: st) I J = (okF r 9 1 ∧ GO x d 87 Q 34 [v0, v1] (.inr (.inr (.inl (rfN r 1))) :: st) I J) := (ge (A := (39, 34, 9, 1, 0)) rfl).trans (gref (f := fun q => GO x d 87 Q 34 [v0, v1] (.inr (.inr (.inl q)) :: st) I J))
set_option maxRecDepth 10000 in
theorem g_87_34 : GO x d 87 Q 34 [v0, some (.inl a)] st I J = GO x d 87 Q 35 [v0, some (.inl a)] (.inl a :: st) I J := ge (A := (1, 35, 1, 0, 0)) rfl
set_option maxRecDepth 10000 in
theorem g_87_35 : GO x d 87 Q 35 [v0, v1] [.inl i0, .inr (.inr (.inl r))] I J = (okO r 3 ∧ EX x d 24 [.inr (.inr (.inl r)), .inl i0] I J (fun r1 I1 J1 => GO x d 87 Q 38 [v0, v1] (r1.toList ++ []) I1 J1)) := (ge (A := (53, 38, 24, 1, 0)) rfl).trans (gtrue (Nat.le_of_ble_eq_true rfl))
set_option maxRecDepth 10000 in
theorem g_87_38 : GO x d 87 Q 38 [v0, v1] [.inl a] I J = Q (some (.inl a)) I J := ge (A := (55, 39, 0, 0, 0)) rfl
set_option maxRecDepth 10000 in
theorem e_87 : EX x (d + 1) 87 [.inr (.inr w0), .inl i0] I J Q = GO x d 87 Q 0 [some (.inr (.inr w0)), some (.inl i0)] [] I J := ex_eq (Nat.le_of_ble_eq_true rfl) rfl (Nat.le_of_ble_eq_true rfl) rfl
end
