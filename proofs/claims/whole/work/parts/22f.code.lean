section
variable {x : RO} {d : Nat} {Q : QT} {I : MI} {J : MJ} {v0 v1 v2 v3 v4 v5 v6 v7 v8 v9 v10 v11 v12 : Option AV} {st : List AV} {a b e : Int} {r q : Nat} {w w2 : Nat ⊕ Nat} {y z : Int64}
variable {i0 i1 i2 i3 i4 i5 i6 i7 i8 i9 : Int} {w0 w1 w3 w4 w5 w6 w7 w8 w9 : Nat ⊕ Nat} {l0 l1 l2 l3 l4 : Int64}
set_option maxRecDepth 10000 in
theorem g_143_0 : GO x d 143 Q 0 [some (.inr (.inr w)), v1] st I J = GO x d 143 Q 1 [some (.inr (.inr w)), v1] (.inr (.inr w) :: st) I J := ge (A := (2, 1, 0, 0, 0)) rfl
set_option maxRecDepth 10000 in
theorem g_143_1 : GO x d 143 Q 1 [v0, v1] [.inr (.inr (.inl r))] I J = (okO r 10 ∧ EX x d 110 [.inr (.inr (.inl r))] I J (fun r1 I1 J1 => GO x d 143 Q 4 [v0, v1] (r1.toList ++ []) I1 J1)) := (ge (A := (53, 4, 110, 0, 0)) rfl).trans (gtrue (Nat.le_of_ble_eq_true rfl))
set_option maxRecDepth 10000 in
theorem g_143_4 : GO x d 143 Q 4 [v0, v1] (.inl a :: st) I J = (inR a ∧ if a = 0 then GO x d 143 Q 7 [v0, v1] st I J else GO x d 143 Q 10 [v0, v1] st I J) := (ge (A := (33, 7, 10, 1, 0)) rfl).trans (gifn (p := a = 0) inferInstance)
set_option maxRecDepth 10000 in
theorem g_143_7 : GO x d 143 Q 7 [v0, v1] st I J = GO x d 143 Q 9 [v0, v1] (.inl (-1000002) :: st) I J := ge (A := (0, 9, 0, 0, -1000002)) rfl
set_option maxRecDepth 10000 in
theorem g_143_9 : GO x d 143 Q 9 [v0, v1] [.inl a] I J = Q (some (.inl a)) I J := ge (A := (55, 10, 0, 0, 0)) rfl
set_option maxRecDepth 10000 in
theorem g_143_10 : GO x d 143 Q 10 [v0, some (.inl a)] st I J = GO x d 143 Q 11 [v0, some (.inl a)] (.inl a :: st) I J := ge (A := (1, 11, 1, 0, 0)) rfl
set_option maxRecDepth 10000 in
theorem g_143_11 : GO x d 143 Q 11 [v0, v1] st I J = GO x d 143 Q 12 [v0, v1] (.inl (1) :: st) I J := ge (A := (0, 12, 0, 0, 1)) rfl
set_option maxRecDepth 10000 in
theorem g_143_12 : GO x d 143 Q 12 [v0, v1] st I J = GO x d 143 Q 14 [v0, v1] (.inl (24) :: st) I J := ge (A := (0, 14, 0, 0, 24)) rfl
set_option maxRecDepth 10000 in
theorem g_143_14 : GO x d 143 Q 14 [v0, v1] [.inl i0, .inl i1, .inl i2] I J = EX x d 109 [.inl i2, .inl i1, .inl i0] I J (fun r1 I1 J1 => GO x d 143 Q 17 [v0, v1] (r1.toList ++ []) I1 J1) := (ge (A := (52, 17, 109, 3, 0)) rfl).trans (gtrue2 (Nat.le_of_ble_eq_true rfl) (Nat.le_of_ble_eq_true rfl))
set_option maxRecDepth 10000 in
theorem g_143_17 : GO x d 143 Q 17 [v0, v1] (.inl a :: st) I J = (inR a ∧ if a = 0 then GO x d 143 Q 20 [v0, v1] st I J else GO x d 143 Q 23 [v0, v1] st I J) := (ge (A := (33, 20, 23, 1, 0)) rfl).trans (gifn (p := a = 0) inferInstance)
set_option maxRecDepth 10000 in
theorem g_143_20 : GO x d 143 Q 20 [v0, v1] st I J = GO x d 143 Q 22 [v0, v1] (.inl (-1000001) :: st) I J := ge (A := (0, 22, 0, 0, -1000001)) rfl
set_option maxRecDepth 10000 in
theorem g_143_22 : GO x d 143 Q 22 [v0, v1] [.inl a] I J = Q (some (.inl a)) I J := ge (A := (55, 23, 0, 0, 0)) rfl
set_option maxRecDepth 10000 in
theorem g_143_23 : GO x d 143 Q 23 [some (.inr (.inr w)), v1] st I J = GO x d 143 Q 24 [some (.inr (.inr w)), v1] (.inr (.inr w) :: st) I J := ge (A := (2, 24, 0, 0, 0)) rfl
set_option maxRecDepth 10000 in
theorem g_143_24 : GO x d 143 Q 24 [v0, v1] (.inr (.inr (.inl r)) :: st) I J = (okF r 10 2 ∧ GO x d 143 Q 27 [v0, v1] (.inr (.inr (.inl (rfN r 2))) :: st) I J) := (ge (A := (39, 27, 10, 2, 0)) rfl).trans (gref (f := fun q => GO x d 143 Q 27 [v0, v1] (.inr (.inr (.inl q)) :: st) I J))
set_option maxRecDepth 10000 in
theorem g_143_27 : GO x d 143 Q 27 [v0, v1] st I J = GO x d 143 Q 29 [v0, v1] (.inl (29) :: st) I J := ge (A := (0, 29, 0, 0, 29)) rfl
set_option maxRecDepth 10000 in
theorem h_143_29 : GO x d 143 Q 29 [v0, v1] (.inl a :: .inr (.inr (.inr q)) :: st) I J = (q < 4 ∧ 0 ≤ a ∧ a < (roA x q).1 ∧ GO x d 143 Q 30 [v0, v1] (.inl ((roA x q).2 a.toNat) :: st) I J) := ge (A := (44, 30, 0, 0, 0)) rfl
set_option maxRecDepth 10000 in
theorem g_143_29 : GO x d 143 Q 29 [v0, v1] (.inl a :: .inr (.inr (.inl r)) :: st) I J = (okA r 20 ∧ 0 ≤ a ∧ a < lnN r ∧ GO x d 143 Q 30 [v0, v1] (.inl (I r a) :: st) I J) := ge (A := (44, 30, 0, 0, 0)) rfl
set_option maxRecDepth 10000 in
theorem g_143_30 : GO x d 143 Q 30 [v0, some (.inl a)] st I J = GO x d 143 Q 31 [v0, some (.inl a)] (.inl a :: st) I J := ge (A := (1, 31, 1, 0, 0)) rfl
set_option maxRecDepth 10000 in
theorem g_143_31 : GO x d 143 Q 31 [v0, v1] (.inl b :: .inl a :: st) I J = GO x d 143 Q 32 [v0, v1] (.inl (a + b) :: st) I J := ge (A := (8, 32, 0, 0, 0)) rfl
set_option maxRecDepth 10000 in
theorem g_143_32 : GO x d 143 Q 32 [v0, v1] st I J = GO x d 143 Q 35 [v0, v1] (.inl (999) :: st) I J := ge (A := (0, 35, 0, 0, 999)) rfl
set_option maxRecDepth 10000 in
theorem g_143_35 : GO x d 143 Q 35 [v0, v1] (.inl b :: .inl a :: st) I J = (inR a ∧ inR b ∧ if b < a then GO x d 143 Q 38 [v0, v1] st I J else GO x d 143 Q 41 [v0, v1] st I J) := (ge (A := (34, 38, 41, 5, 0)) rfl).trans (ggec)
set_option maxRecDepth 10000 in
theorem g_143_38 : GO x d 143 Q 38 [v0, v1] st I J = GO x d 143 Q 40 [v0, v1] (.inl (-1000003) :: st) I J := ge (A := (0, 40, 0, 0, -1000003)) rfl
set_option maxRecDepth 10000 in
theorem g_143_40 : GO x d 143 Q 40 [v0, v1] [.inl a] I J = Q (some (.inl a)) I J := ge (A := (55, 41, 0, 0, 0)) rfl
set_option maxRecDepth 10000 in
theorem g_143_41 : GO x d 143 Q 41 [some (.inr (.inr w)), v1] st I J = GO x d 143 Q 42 [some (.inr (.inr w)), v1] (.inr (.inr w) :: st) I J := ge (A := (2, 42, 0, 0, 0)) rfl
set_option maxRecDepth 10000 in
theorem g_143_42 : GO x d 143 Q 42 [v0, v1] [.inr (.inr (.inl r))] I J = (okO r 10 ∧ EX x d 137 [.inr (.inr (.inl r))] I J (fun r1 I1 J1 => GO x d 143 Q 45 [v0, v1] (r1.toList ++ []) I1 J1)) := (ge (A := (53, 45, 137, 0, 0)) rfl).trans (gtrue (Nat.le_of_ble_eq_true rfl))
set_option maxRecDepth 10000 in
theorem g_143_45 : GO x d 143 Q 45 [some (.inr (.inr w)), v1] st I J = GO x d 143 Q 46 [some (.inr (.inr w)), v1] (.inr (.inr w) :: st) I J := ge (A := (2, 46, 0, 0, 0)) rfl
set_option maxRecDepth 10000 in
theorem g_143_46 : GO x d 143 Q 46 [v0, v1] (.inr (.inr (.inl r)) :: st) I J = (okF r 10 2 ∧ GO x d 143 Q 49 [v0, v1] (.inr (.inr (.inl (rfN r 2))) :: st) I J) := (ge (A := (39, 49, 10, 2, 0)) rfl).trans (gref (f := fun q => GO x d 143 Q 49 [v0, v1] (.inr (.inr (.inl q)) :: st) I J))
set_option maxRecDepth 10000 in
theorem g_143_49 : GO x d 143 Q 49 [v0, v1] st I J = GO x d 143 Q 51 [v0, v1] (.inl (29) :: st) I J := ge (A := (0, 51, 0, 0, 29)) rfl
set_option maxRecDepth 10000 in
theorem g_143_51 : GO x d 143 Q 51 [v0, v1] (.inl a :: .inr (.inr w) :: st) I J = GO x d 143 Q 52 [v0, v1] (.inl a :: .inr (.inr w) :: .inl a :: .inr (.inr w) :: st) I J := ge (A := (32, 52, 0, 0, 0)) rfl
set_option maxRecDepth 10000 in
theorem h_143_52 : GO x d 143 Q 52 [v0, v1] (.inl a :: .inr (.inr (.inr q)) :: st) I J = (q < 4 ∧ 0 ≤ a ∧ a < (roA x q).1 ∧ GO x d 143 Q 53 [v0, v1] (.inl ((roA x q).2 a.toNat) :: st) I J) := ge (A := (44, 53, 0, 0, 0)) rfl
set_option maxRecDepth 10000 in
theorem g_143_52 : GO x d 143 Q 52 [v0, v1] (.inl a :: .inr (.inr (.inl r)) :: st) I J = (okA r 20 ∧ 0 ≤ a ∧ a < lnN r ∧ GO x d 143 Q 53 [v0, v1] (.inl (I r a) :: st) I J) := ge (A := (44, 53, 0, 0, 0)) rfl
set_option maxRecDepth 10000 in
theorem g_143_53 : GO x d 143 Q 53 [v0, some (.inl a)] st I J = GO x d 143 Q 54 [v0, some (.inl a)] (.inl a :: st) I J := ge (A := (1, 54, 1, 0, 0)) rfl
set_option maxRecDepth 10000 in
theorem g_143_54 : GO x d 143 Q 54 [v0, v1] (.inl b :: .inl a :: st) I J = GO x d 143 Q 55 [v0, v1] (.inl (a + b) :: st) I J := ge (A := (8, 55, 0, 0, 0)) rfl
set_option maxRecDepth 10000 in
theorem g_143_55 : GO x d 143 Q 55 [v0, v1] (.inl b :: .inl a :: .inr (.inr (.inl r)) :: st) I J = (okA r 20 ∧ 0 ≤ a ∧ a < lnN r ∧ GO x d 143 Q 56 [v0, v1] st (up I r a b) J) := ge (A := (45, 56, 0, 0, 0)) rfl
set_option maxRecDepth 10000 in
theorem g_143_56 : GO x d 143 Q 56 [some (.inr (.inr w)), v1] st I J = GO x d 143 Q 57 [some (.inr (.inr w)), v1] (.inr (.inr w) :: st) I J := ge (A := (2, 57, 0, 0, 0)) rfl
set_option maxRecDepth 10000 in
theorem g_143_57 : GO x d 143 Q 57 [v0, v1] (.inr (.inr (.inl r)) :: st) I J = (okF r 10 2 ∧ GO x d 143 Q 60 [v0, v1] (.inr (.inr (.inl (rfN r 2))) :: st) I J) := (ge (A := (39, 60, 10, 2, 0)) rfl).trans (gref (f := fun q => GO x d 143 Q 60 [v0, v1] (.inr (.inr (.inl q)) :: st) I J))
set_option maxRecDepth 10000 in
theorem g_143_60 : GO x d 143 Q 60 [v0, v1] st I J = GO x d 143 Q 62 [v0, v1] (.inl (29) :: st) I J := ge (A := (0, 62, 0, 0, 29)) rfl
set_option maxRecDepth 10000 in
theorem h_143_62 : GO x d 143 Q 62 [v0, v1] (.inl a :: .inr (.inr (.inr q)) :: st) I J = (q < 4 ∧ 0 ≤ a ∧ a < (roA x q).1 ∧ GO x d 143 Q 63 [v0, v1] (.inl ((roA x q).2 a.toNat) :: st) I J) := ge (A := (44, 63, 0, 0, 0)) rfl
set_option maxRecDepth 10000 in
theorem g_143_62 : GO x d 143 Q 62 [v0, v1] (.inl a :: .inr (.inr (.inl r)) :: st) I J = (okA r 20 ∧ 0 ≤ a ∧ a < lnN r ∧ GO x d 143 Q 63 [v0, v1] (.inl (I r a) :: st) I J) := ge (A := (44, 63, 0, 0, 0)) rfl
set_option maxRecDepth 10000 in
theorem g_143_63 : GO x d 143 Q 63 [v0, v1] [.inl a] I J = Q (some (.inl a)) I J := ge (A := (55, 64, 0, 0, 0)) rfl
set_option maxRecDepth 10000 in
theorem e_143 : EX x (d + 1) 143 [.inr (.inr w0), .inl i0] I J Q = GO x d 143 Q 0 [some (.inr (.inr w0)), some (.inl i0)] [] I J := ex_eq (Nat.le_of_ble_eq_true rfl) rfl (Nat.le_of_ble_eq_true rfl) rfl
set_option maxRecDepth 10000 in
theorem g_144_0 : GO x d 144 Q 0 [some (.inr (.inr w)), v1] st I J = GO x d 144 Q 1 [some (.inr (.inr w)), v1] (.inr (.inr w) :: st) I J := ge (A := (2, 1, 0, 0, 0)) rfl
set_option maxRecDepth 10000 in
theorem g_144_1 : GO x d 144 Q 1 [v0, v1] (.inr (.inr (.inl r)) :: st) I J = (okO r 10 ∧ GO x d 144 Q 4 [v0, v1] (.inl (I r 5) :: st) I J) := ge (A := (37, 4, 10, 5, 0)) rfl
set_option maxRecDepth 10000 in
theorem g_144_4 : GO x d 144 Q 4 [v0, v1] (.inl a :: st) I J = (inR a ∧ if a = 0 then GO x d 144 Q 7 [v0, v1] st I J else GO x d 144 Q 10 [v0, v1] st I J) := (ge (A := (33, 7, 10, 1, 0)) rfl).trans (gifn (p := a = 0) inferInstance)
set_option maxRecDepth 10000 in
theorem g_144_7 : GO x d 144 Q 7 [v0, v1] st I J = GO x d 144 Q 9 [v0, v1] (.inl (-1000002) :: st) I J := ge (A := (0, 9, 0, 0, -1000002)) rfl
set_option maxRecDepth 10000 in
theorem g_144_9 : GO x d 144 Q 9 [v0, v1] [.inl a] I J = Q (some (.inl a)) I J := ge (A := (55, 10, 0, 0, 0)) rfl
set_option maxRecDepth 10000 in
theorem g_144_10 : GO x d 144 Q 10 [some (.inr (.inr w)), v1] st I J = GO x d 144 Q 11 [some (.inr (.inr w)), v1] (.inr (.inr w) :: st) I J := ge (A := (2, 11, 0, 0, 0)) rfl
set_option maxRecDepth 10000 in
theorem g_144_11 : GO x d 144 Q 11 [v0, v1] (.inr (.inr w) :: st) I J = GO x d 144 Q 12 [v0, v1] (.inr (.inr w) :: .inr (.inr w) :: st) I J := ge (A := (31, 12, 0, 0, 0)) rfl
set_option maxRecDepth 10000 in
theorem g_144_12 : GO x d 144 Q 12 [v0, v1] (.inr (.inr (.inl r)) :: st) I J = (okO r 10 ∧ GO x d 144 Q 15 [v0, v1] (.inl (I r 5) :: st) I J) := ge (A := (37, 15, 10, 5, 0)) rfl
set_option maxRecDepth 10000 in
theorem g_144_15 : GO x d 144 Q 15 [v0, v1] st I J = GO x d 144 Q 16 [v0, v1] (.inl (1) :: st) I J := ge (A := (0, 16, 0, 0, 1)) rfl
set_option maxRecDepth 10000 in
theorem g_144_16 : GO x d 144 Q 16 [v0, v1] (.inl b :: .inl a :: st) I J = GO x d 144 Q 17 [v0, v1] (.inl (a - b) :: st) I J := ge (A := (9, 17, 0, 0, 0)) rfl
set_option maxRecDepth 10000 in
theorem g_144_17 : GO x d 144 Q 17 [v0, v1] (.inl a :: .inr (.inr (.inl r)) :: st) I J = (okO r 10 ∧ GO x d 144 Q 20 [v0, v1] st (up I r 5 a) J) := ge (A := (40, 20, 10, 5, 0)) rfl
set_option maxRecDepth 10000 in
theorem g_144_20 : GO x d 144 Q 20 [v0, v1] st I J = GO x d 144 Q 21 [v0, v1] (.inl (0) :: st) I J := ge (A := (0, 21, 0, 0, 0)) rfl
set_option maxRecDepth 10000 in
theorem g_144_21 : GO x d 144 Q 21 [v0, v1] (.inl a :: st) I J = (nlO (some v0) = true ∧ GO x d 144 Q 22 [v0, some (.inl a)] st I J) := (ge (A := (4, 22, 1, 0, 0)) rfl).trans (gst (Nat.le_of_ble_eq_true rfl) _)
set_option maxRecDepth 10000 in
theorem g_144_22 : GO x d 144 Q 22 [v0, some (.inl a)] st I J = GO x d 144 Q 23 [v0, some (.inl a)] (.inl a :: st) I J := ge (A := (1, 23, 1, 0, 0)) rfl
set_option maxRecDepth 10000 in
theorem g_144_23 : GO x d 144 Q 23 [v0, v1] st I J = GO x d 144 Q 25 [v0, v1] (.inl (24) :: st) I J := ge (A := (0, 25, 0, 0, 24)) rfl
set_option maxRecDepth 10000 in
theorem g_144_25 : GO x d 144 Q 25 [v0, v1] (.inl b :: .inl a :: st) I J = (inR a ∧ inR b ∧ if a < b then GO x d 144 Q 28 [v0, v1] st I J else GO x d 144 Q 57 [v0, v1] st I J) := (ge (A := (34, 28, 57, 3, 0)) rfl).trans (ggec)
set_option maxRecDepth 10000 in
theorem g_144_28 : GO x d 144 Q 28 [some (.inr (.inr w)), v1] st I J = GO x d 144 Q 29 [some (.inr (.inr w)), v1] (.inr (.inr w) :: st) I J := ge (A := (2, 29, 0, 0, 0)) rfl
set_option maxRecDepth 10000 in
theorem g_144_29 : GO x d 144 Q 29 [v0, v1] (.inr (.inr (.inl r)) :: st) I J = (okF r 10 2 ∧ GO x d 144 Q 32 [v0, v1] (.inr (.inr (.inl (rfN r 2))) :: st) I J) := (ge (A := (39, 32, 10, 2, 0)) rfl).trans (gref (f := fun q => GO x d 144 Q 32 [v0, v1] (.inr (.inr (.inl q)) :: st) I J))
set_option maxRecDepth 10000 in
theorem g_144_32 : GO x d 144 Q 32 [v0, v1] st I J = GO x d 144 Q 34 [v0, v1] (.inl (29) :: st) I J := ge (A := (0, 34, 0, 0, 29)) rfl
set_option maxRecDepth 10000 in
theorem g_144_34 : GO x d 144 Q 34 [v0, some (.inl a)] st I J = GO x d 144 Q 35 [v0, some (.inl a)] (.inl a :: st) I J := ge (A := (1, 35, 1, 0, 0)) rfl
set_option maxRecDepth 10000 in
theorem g_144_35 : GO x d 144 Q 35 [v0, v1] (.inl b :: .inl a :: st) I J = GO x d 144 Q 36 [v0, v1] (.inl (a + b) :: st) I J := ge (A := (8, 36, 0, 0, 0)) rfl
set_option maxRecDepth 10000 in
theorem g_144_36 : GO x d 144 Q 36 [some (.inr (.inr w)), v1] st I J = GO x d 144 Q 37 [some (.inr (.inr w)), v1] (.inr (.inr w) :: st) I J := ge (A := (2, 37, 0, 0, 0)) rfl
set_option maxRecDepth 10000 in
theorem g_144_37 : GO x d 144 Q 37 [v0, v1] (.inr (.inr (.inl r)) :: st) I J = (okF r 10 4 ∧ GO x d 144 Q 40 [v0, v1] (.inr (.inr (.inl (rfN r 4))) :: st) I J) := (ge (A := (39, 40, 10, 4, 0)) rfl).trans (gref (f := fun q => GO x d 144 Q 40 [v0, v1] (.inr (.inr (.inl q)) :: st) I J))
set_option maxRecDepth 10000 in
theorem g_144_40 : GO x d 144 Q 40 [v0, v1] st I J = GO x d 144 Q 42 [v0, v1] (.inl (24) :: st) I J := ge (A := (0, 42, 0, 0, 24)) rfl
set_option maxRecDepth 10000 in
theorem g_144_42 : GO x d 144 Q 42 [some (.inr (.inr w)), v1] st I J = GO x d 144 Q 43 [some (.inr (.inr w)), v1] (.inr (.inr w) :: st) I J := ge (A := (2, 43, 0, 0, 0)) rfl
set_option maxRecDepth 10000 in
theorem g_144_43 : GO x d 144 Q 43 [v0, v1] (.inr (.inr (.inl r)) :: st) I J = (okO r 10 ∧ GO x d 144 Q 46 [v0, v1] (.inl (I r 5) :: st) I J) := ge (A := (37, 46, 10, 5, 0)) rfl
set_option maxRecDepth 10000 in
theorem g_144_46 : GO x d 144 Q 46 [v0, v1] (.inl b :: .inl a :: st) I J = GO x d 144 Q 47 [v0, v1] (.inl (a * b) :: st) I J := ge (A := (10, 47, 0, 0, 0)) rfl
set_option maxRecDepth 10000 in
theorem g_144_47 : GO x d 144 Q 47 [v0, some (.inl a)] st I J = GO x d 144 Q 48 [v0, some (.inl a)] (.inl a :: st) I J := ge (A := (1, 48, 1, 0, 0)) rfl
set_option maxRecDepth 10000 in
theorem g_144_48 : GO x d 144 Q 48 [v0, v1] (.inl b :: .inl a :: st) I J = GO x d 144 Q 49 [v0, v1] (.inl (a + b) :: st) I J := ge (A := (8, 49, 0, 0, 0)) rfl
set_option maxRecDepth 10000 in
theorem h_144_49 : GO x d 144 Q 49 [v0, v1] (.inl a :: .inr (.inr (.inr q)) :: st) I J = (q < 4 ∧ 0 ≤ a ∧ a < (roA x q).1 ∧ GO x d 144 Q 50 [v0, v1] (.inl ((roA x q).2 a.toNat) :: st) I J) := ge (A := (44, 50, 0, 0, 0)) rfl
set_option maxRecDepth 10000 in
theorem g_144_49 : GO x d 144 Q 49 [v0, v1] (.inl a :: .inr (.inr (.inl r)) :: st) I J = (okA r 20 ∧ 0 ≤ a ∧ a < lnN r ∧ GO x d 144 Q 50 [v0, v1] (.inl (I r a) :: st) I J) := ge (A := (44, 50, 0, 0, 0)) rfl
set_option maxRecDepth 10000 in
theorem g_144_50 : GO x d 144 Q 50 [v0, v1] (.inl b :: .inl a :: .inr (.inr (.inl r)) :: st) I J = (okA r 20 ∧ 0 ≤ a ∧ a < lnN r ∧ GO x d 144 Q 51 [v0, v1] st (up I r a b) J) := ge (A := (45, 51, 0, 0, 0)) rfl
set_option maxRecDepth 10000 in
theorem g_144_51 : GO x d 144 Q 51 [v0, some (.inl a)] st I J = (nlO (some v0) = true ∧ GO x d 144 Q 54 [v0, some (.inl (a + (1)))] st I J) := ge (A := (7, 54, 1, 0, 1)) rfl
set_option maxRecDepth 10000 in
theorem g_144_54 : GO x d 144 Q 54 [v0, v1] st I J = GO x d 144 Q 22 [v0, v1] st I J := ge (A := (35, 57, 22, 0, 0)) rfl
set_option maxRecDepth 10000 in
theorem g_144_57 : GO x d 144 Q 57 [some (.inr (.inr w)), v1] st I J = GO x d 144 Q 58 [some (.inr (.inr w)), v1] (.inr (.inr w) :: st) I J := ge (A := (2, 58, 0, 0, 0)) rfl
set_option maxRecDepth 10000 in
theorem g_144_58 : GO x d 144 Q 58 [v0, v1] (.inr (.inr (.inl r)) :: st) I J = (okO r 10 ∧ GO x d 144 Q 61 [v0, v1] (.inl (I r 5) :: st) I J) := ge (A := (37, 61, 10, 5, 0)) rfl
set_option maxRecDepth 10000 in
theorem g_144_61 : GO x d 144 Q 61 [v0, v1] [.inl a] I J = Q (some (.inl a)) I J := ge (A := (55, 62, 0, 0, 0)) rfl
set_option maxRecDepth 10000 in
theorem e_144 : EX x (d + 1) 144 [.inr (.inr w0)] I J Q = GO x d 144 Q 0 [some (.inr (.inr w0)), none] [] I J := ex_eq (Nat.le_of_ble_eq_true rfl) rfl (Nat.le_of_ble_eq_true rfl) rfl
set_option maxRecDepth 10000 in
theorem g_145_0 : GO x d 145 Q 0 [some (.inr (.inr w)), v1, v2, v3] st I J = GO x d 145 Q 1 [some (.inr (.inr w)), v1, v2, v3] (.inr (.inr w) :: st) I J := ge (A := (2, 1, 0, 0, 0)) rfl
set_option maxRecDepth 10000 in
theorem g_145_1 : GO x d 145 Q 1 [v0, some (.inl a), v2, v3] st I J = GO x d 145 Q 2 [v0, some (.inl a), v2, v3] (.inl a :: st) I J := ge (A := (1, 2, 1, 0, 0)) rfl
set_option maxRecDepth 10000 in
theorem g_145_2 : GO x d 145 Q 2 [v0, v1, v2, v3] [.inl i0, .inr (.inr (.inl r))] I J = (okO r 10 ∧ EX x d 111 [.inr (.inr (.inl r)), .inl i0] I J (fun r1 I1 J1 => GO x d 145 Q 5 [v0, v1, v2, v3] (r1.toList ++ []) I1 J1)) := (ge (A := (53, 5, 111, 1, 0)) rfl).trans (gtrue (Nat.le_of_ble_eq_true rfl))
set_option maxRecDepth 10000 in
theorem g_145_5 : GO x d 145 Q 5 [v0, v1, v2, v3] (.inl a :: st) I J = (inR a ∧ if a = 0 then GO x d 145 Q 17 [v0, v1, v2, v3] st I J else GO x d 145 Q 8 [v0, v1, v2, v3] st I J) := (ge (A := (33, 8, 17, 0, 0)) rfl).trans (gif (p := a = 0) inferInstance)
set_option maxRecDepth 10000 in
theorem g_145_8 : GO x d 145 Q 8 [v0, v1, some (.inl a), v3] st I J = GO x d 145 Q 9 [v0, v1, some (.inl a), v3] (.inl a :: st) I J := ge (A := (1, 9, 2, 0, 0)) rfl
set_option maxRecDepth 10000 in
theorem g_145_9 : GO x d 145 Q 9 [v0, v1, v2, v3] st I J = GO x d 145 Q 10 [v0, v1, v2, v3] (.inl (0) :: st) I J := ge (A := (0, 10, 0, 0, 0)) rfl
set_option maxRecDepth 10000 in
theorem g_145_10 : GO x d 145 Q 10 [v0, v1, v2, v3] st I J = GO x d 145 Q 11 [v0, v1, v2, v3] (.inl (3) :: st) I J := ge (A := (0, 11, 0, 0, 3)) rfl
set_option maxRecDepth 10000 in
theorem g_145_11 : GO x d 145 Q 11 [v0, v1, v2, v3] [.inl i0, .inl i1, .inl i2] I J = EX x d 109 [.inl i2, .inl i1, .inl i0] I J (fun r1 I1 J1 => GO x d 145 Q 14 [v0, v1, v2, v3] (r1.toList ++ []) I1 J1) := (ge (A := (52, 14, 109, 3, 0)) rfl).trans (gtrue2 (Nat.le_of_ble_eq_true rfl) (Nat.le_of_ble_eq_true rfl))
set_option maxRecDepth 10000 in
theorem g_145_14 : GO x d 145 Q 14 [v0, v1, v2, v3] (.inl a :: st) I J = (inR a ∧ if a = 0 then GO x d 145 Q 17 [v0, v1, v2, v3] st I J else GO x d 145 Q 20 [v0, v1, v2, v3] st I J) := (ge (A := (33, 17, 20, 1, 0)) rfl).trans (gifn (p := a = 0) inferInstance)
set_option maxRecDepth 10000 in
theorem g_145_17 : GO x d 145 Q 17 [v0, v1, v2, v3] st I J = GO x d 145 Q 19 [v0, v1, v2, v3] (.inl (-1000001) :: st) I J := ge (A := (0, 19, 0, 0, -1000001)) rfl
set_option maxRecDepth 10000 in
theorem g_145_19 : GO x d 145 Q 19 [v0, v1, v2, v3] [.inl a] I J = Q (some (.inl a)) I J := ge (A := (55, 20, 0, 0, 0)) rfl
set_option maxRecDepth 10000 in
theorem g_145_20 : GO x d 145 Q 20 [some (.inr (.inr w)), v1, v2, v3] st I J = GO x d 145 Q 21 [some (.inr (.inr w)), v1, v2, v3] (.inr (.inr w) :: st) I J := ge (A := (2, 21, 0, 0, 0)) rfl
set_option maxRecDepth 10000 in
theorem g_145_21 : GO x d 145 Q 21 [v0, v1, v2, v3] (.inr (.inr (.inl r)) :: st) I J = (okF r 10 2 ∧ GO x d 145 Q 24 [v0, v1, v2, v3] (.inr (.inr (.inl (rfN r 2))) :: st) I J) := (ge (A := (39, 24, 10, 2, 0)) rfl).trans (gref (f := fun q => GO x d 145 Q 24 [v0, v1, v2, v3] (.inr (.inr (.inl q)) :: st) I J))
set_option maxRecDepth 10000 in
theorem g_145_24 : GO x d 145 Q 24 [v0, v1, v2, v3] st I J = GO x d 145 Q 26 [v0, v1, v2, v3] (.inl (32) :: st) I J := ge (A := (0, 26, 0, 0, 32)) rfl
set_option maxRecDepth 10000 in
theorem g_145_26 : GO x d 145 Q 26 [v0, some (.inl a), v2, v3] st I J = GO x d 145 Q 27 [v0, some (.inl a), v2, v3] (.inl a :: st) I J := ge (A := (1, 27, 1, 0, 0)) rfl
set_option maxRecDepth 10000 in
theorem g_145_27 : GO x d 145 Q 27 [v0, v1, v2, v3] (.inl b :: .inl a :: st) I J = GO x d 145 Q 28 [v0, v1, v2, v3] (.inl (a + b) :: st) I J := ge (A := (8, 28, 0, 0, 0)) rfl
set_option maxRecDepth 10000 in
theorem h_145_28 : GO x d 145 Q 28 [v0, v1, v2, v3] (.inl a :: .inr (.inr (.inr q)) :: st) I J = (q < 4 ∧ 0 ≤ a ∧ a < (roA x q).1 ∧ GO x d 145 Q 29 [v0, v1, v2, v3] (.inl ((roA x q).2 a.toNat) :: st) I J) := ge (A := (44, 29, 0, 0, 0)) rfl
set_option maxRecDepth 10000 in
theorem g_145_28 : GO x d 145 Q 28 [v0, v1, v2, v3] (.inl a :: .inr (.inr (.inl r)) :: st) I J = (okA r 20 ∧ 0 ≤ a ∧ a < lnN r ∧ GO x d 145 Q 29 [v0, v1, v2, v3] (.inl (I r a) :: st) I J) := ge (A := (44, 29, 0, 0, 0)) rfl
set_option maxRecDepth 10000 in
theorem g_145_29 : GO x d 145 Q 29 [v0, v1, v2, v3] (.inl a :: st) I J = (nlO (some v2) = true ∧ GO x d 145 Q 30 [v0, v1, v2, some (.inl a)] st I J) := (ge (A := (4, 30, 3, 0, 0)) rfl).trans (gst (Nat.le_of_ble_eq_true rfl) _)
set_option maxRecDepth 10000 in
theorem g_145_30 : GO x d 145 Q 30 [v0, v1, some (.inl a), v3] st I J = GO x d 145 Q 31 [v0, v1, some (.inl a), v3] (.inl a :: st) I J := ge (A := (1, 31, 2, 0, 0)) rfl
set_option maxRecDepth 10000 in
theorem g_145_31 : GO x d 145 Q 31 [v0, v1, v2, v3] (.inl a :: st) I J = (inR a ∧ if a = 0 then GO x d 145 Q 34 [v0, v1, v2, v3] st I J else GO x d 145 Q 46 [v0, v1, v2, v3] st I J) := (ge (A := (33, 34, 46, 1, 0)) rfl).trans (gifn (p := a = 0) inferInstance)
set_option maxRecDepth 10000 in
theorem g_145_34 : GO x d 145 Q 34 [some (.inr (.inr w)), v1, v2, v3] st I J = GO x d 145 Q 35 [some (.inr (.inr w)), v1, v2, v3] (.inr (.inr w) :: st) I J := ge (A := (2, 35, 0, 0, 0)) rfl
set_option maxRecDepth 10000 in
theorem g_145_35 : GO x d 145 Q 35 [v0, v1, v2, v3] (.inr (.inr (.inl r)) :: st) I J = (okF r 10 2 ∧ GO x d 145 Q 38 [v0, v1, v2, v3] (.inr (.inr (.inl (rfN r 2))) :: st) I J) := (ge (A := (39, 38, 10, 2, 0)) rfl).trans (gref (f := fun q => GO x d 145 Q 38 [v0, v1, v2, v3] (.inr (.inr (.inl q)) :: st) I J))
set_option maxRecDepth 10000 in
theorem g_145_38 : GO x d 145 Q 38 [v0, v1, v2, v3] st I J = GO x d 145 Q 40 [v0, v1, v2, v3] (.inl (16) :: st) I J := ge (A := (0, 40, 0, 0, 16)) rfl
set_option maxRecDepth 10000 in
theorem g_145_40 : GO x d 145 Q 40 [v0, some (.inl a), v2, v3] st I J = GO x d 145 Q 41 [v0, some (.inl a), v2, v3] (.inl a :: st) I J := ge (A := (1, 41, 1, 0, 0)) rfl
set_option maxRecDepth 10000 in
theorem g_145_41 : GO x d 145 Q 41 [v0, v1, v2, v3] (.inl b :: .inl a :: st) I J = GO x d 145 Q 42 [v0, v1, v2, v3] (.inl (a + b) :: st) I J := ge (A := (8, 42, 0, 0, 0)) rfl
set_option maxRecDepth 10000 in
theorem h_145_42 : GO x d 145 Q 42 [v0, v1, v2, v3] (.inl a :: .inr (.inr (.inr q)) :: st) I J = (q < 4 ∧ 0 ≤ a ∧ a < (roA x q).1 ∧ GO x d 145 Q 43 [v0, v1, v2, v3] (.inl ((roA x q).2 a.toNat) :: st) I J) := ge (A := (44, 43, 0, 0, 0)) rfl
set_option maxRecDepth 10000 in
theorem g_145_42 : GO x d 145 Q 42 [v0, v1, v2, v3] (.inl a :: .inr (.inr (.inl r)) :: st) I J = (okA r 20 ∧ 0 ≤ a ∧ a < lnN r ∧ GO x d 145 Q 43 [v0, v1, v2, v3] (.inl (I r a) :: st) I J) := ge (A := (44, 43, 0, 0, 0)) rfl
set_option maxRecDepth 10000 in
theorem g_145_43 : GO x d 145 Q 43 [v0, v1, v2, v3] st I J = GO x d 145 Q 94 [v0, v1, v2, v3] st I J := ge (A := (35, 46, 94, 0, 0)) rfl
set_option maxRecDepth 10000 in
theorem g_145_46 : GO x d 145 Q 46 [v0, v1, some (.inl a), v3] st I J = GO x d 145 Q 47 [v0, v1, some (.inl a), v3] (.inl a :: st) I J := ge (A := (1, 47, 2, 0, 0)) rfl
set_option maxRecDepth 10000 in
theorem g_145_47 : GO x d 145 Q 47 [v0, v1, v2, v3] st I J = GO x d 145 Q 48 [v0, v1, v2, v3] (.inl (1) :: st) I J := ge (A := (0, 48, 0, 0, 1)) rfl
set_option maxRecDepth 10000 in
theorem g_145_48 : GO x d 145 Q 48 [v0, v1, v2, v3] (.inl b :: .inl a :: st) I J = (inR a ∧ inR b ∧ if a = b then GO x d 145 Q 51 [v0, v1, v2, v3] st I J else GO x d 145 Q 64 [v0, v1, v2, v3] st I J) := (ge (A := (34, 51, 64, 1, 0)) rfl).trans (gicn (p := a = b) inferInstance)
set_option maxRecDepth 10000 in
theorem g_145_51 : GO x d 145 Q 51 [v0, v1, v2, some (.inl a)] st I J = GO x d 145 Q 52 [v0, v1, v2, some (.inl a)] (.inl a :: st) I J := ge (A := (1, 52, 3, 0, 0)) rfl
set_option maxRecDepth 10000 in
theorem g_145_52 : GO x d 145 Q 52 [v0, v1, v2, v3] (.inl a :: st) I J = (inR a ∧ if a < 0 then GO x d 145 Q 55 [v0, v1, v2, v3] st I J else GO x d 145 Q 60 [v0, v1, v2, v3] st I J) := (ge (A := (33, 55, 60, 3, 0)) rfl).trans (gge)
set_option maxRecDepth 10000 in
theorem g_145_55 : GO x d 145 Q 55 [v0, v1, v2, v3] st I J = GO x d 145 Q 57 [v0, v1, v2, v3] (.inl (-1000000) :: st) I J := ge (A := (0, 57, 0, 0, -1000000)) rfl
set_option maxRecDepth 10000 in
theorem g_145_57 : GO x d 145 Q 57 [v0, v1, v2, v3] st I J = GO x d 145 Q 94 [v0, v1, v2, v3] st I J := ge (A := (35, 60, 94, 0, 0)) rfl
set_option maxRecDepth 10000 in
theorem g_145_60 : GO x d 145 Q 60 [v0, v1, v2, some (.inl a)] st I J = GO x d 145 Q 61 [v0, v1, v2, some (.inl a)] (.inl a :: st) I J := ge (A := (1, 61, 3, 0, 0)) rfl
set_option maxRecDepth 10000 in
theorem g_145_61 : GO x d 145 Q 61 [v0, v1, v2, v3] st I J = GO x d 145 Q 94 [v0, v1, v2, v3] st I J := ge (A := (35, 64, 94, 0, 0)) rfl
set_option maxRecDepth 10000 in
theorem g_145_64 : GO x d 145 Q 64 [v0, v1, some (.inl a), v3] st I J = GO x d 145 Q 65 [v0, v1, some (.inl a), v3] (.inl a :: st) I J := ge (A := (1, 65, 2, 0, 0)) rfl
set_option maxRecDepth 10000 in
theorem g_145_65 : GO x d 145 Q 65 [v0, v1, v2, v3] st I J = GO x d 145 Q 66 [v0, v1, v2, v3] (.inl (2) :: st) I J := ge (A := (0, 66, 0, 0, 2)) rfl
set_option maxRecDepth 10000 in
theorem g_145_66 : GO x d 145 Q 66 [v0, v1, v2, v3] (.inl b :: .inl a :: st) I J = (inR a ∧ inR b ∧ if a = b then GO x d 145 Q 69 [v0, v1, v2, v3] st I J else GO x d 145 Q 81 [v0, v1, v2, v3] st I J) := (ge (A := (34, 69, 81, 1, 0)) rfl).trans (gicn (p := a = b) inferInstance)
set_option maxRecDepth 10000 in
theorem g_145_69 : GO x d 145 Q 69 [some (.inr (.inr w)), v1, v2, v3] st I J = GO x d 145 Q 70 [some (.inr (.inr w)), v1, v2, v3] (.inr (.inr w) :: st) I J := ge (A := (2, 70, 0, 0, 0)) rfl
set_option maxRecDepth 10000 in
theorem g_145_70 : GO x d 145 Q 70 [v0, v1, v2, v3] (.inr (.inr (.inl r)) :: st) I J = (okF r 10 2 ∧ GO x d 145 Q 73 [v0, v1, v2, v3] (.inr (.inr (.inl (rfN r 2))) :: st) I J) := (ge (A := (39, 73, 10, 2, 0)) rfl).trans (gref (f := fun q => GO x d 145 Q 73 [v0, v1, v2, v3] (.inr (.inr (.inl q)) :: st) I J))
set_option maxRecDepth 10000 in
theorem g_145_73 : GO x d 145 Q 73 [v0, v1, v2, v3] st I J = GO x d 145 Q 75 [v0, v1, v2, v3] (.inl (40) :: st) I J := ge (A := (0, 75, 0, 0, 40)) rfl
set_option maxRecDepth 10000 in
theorem g_145_75 : GO x d 145 Q 75 [v0, some (.inl a), v2, v3] st I J = GO x d 145 Q 76 [v0, some (.inl a), v2, v3] (.inl a :: st) I J := ge (A := (1, 76, 1, 0, 0)) rfl
set_option maxRecDepth 10000 in
theorem g_145_76 : GO x d 145 Q 76 [v0, v1, v2, v3] (.inl b :: .inl a :: st) I J = GO x d 145 Q 77 [v0, v1, v2, v3] (.inl (a + b) :: st) I J := ge (A := (8, 77, 0, 0, 0)) rfl
set_option maxRecDepth 10000 in
theorem h_145_77 : GO x d 145 Q 77 [v0, v1, v2, v3] (.inl a :: .inr (.inr (.inr q)) :: st) I J = (q < 4 ∧ 0 ≤ a ∧ a < (roA x q).1 ∧ GO x d 145 Q 78 [v0, v1, v2, v3] (.inl ((roA x q).2 a.toNat) :: st) I J) := ge (A := (44, 78, 0, 0, 0)) rfl
set_option maxRecDepth 10000 in
theorem g_145_77 : GO x d 145 Q 77 [v0, v1, v2, v3] (.inl a :: .inr (.inr (.inl r)) :: st) I J = (okA r 20 ∧ 0 ≤ a ∧ a < lnN r ∧ GO x d 145 Q 78 [v0, v1, v2, v3] (.inl (I r a) :: st) I J) := ge (A := (44, 78, 0, 0, 0)) rfl
set_option maxRecDepth 10000 in
theorem g_145_78 : GO x d 145 Q 78 [v0, v1, v2, v3] st I J = GO x d 145 Q 94 [v0, v1, v2, v3] st I J := ge (A := (35, 81, 94, 0, 0)) rfl
set_option maxRecDepth 10000 in
theorem g_145_81 : GO x d 145 Q 81 [some (.inr (.inr w)), v1, v2, v3] st I J = GO x d 145 Q 82 [some (.inr (.inr w)), v1, v2, v3] (.inr (.inr w) :: st) I J := ge (A := (2, 82, 0, 0, 0)) rfl
set_option maxRecDepth 10000 in
theorem g_145_82 : GO x d 145 Q 82 [v0, some (.inl a), v2, v3] st I J = GO x d 145 Q 83 [v0, some (.inl a), v2, v3] (.inl a :: st) I J := ge (A := (1, 83, 1, 0, 0)) rfl
set_option maxRecDepth 10000 in
theorem g_145_83 : GO x d 145 Q 83 [v0, v1, v2, v3] [.inl i0, .inr (.inr (.inl r))] I J = (okO r 10 ∧ EX x d 135 [.inr (.inr (.inl r)), .inl i0] I J (fun r1 I1 J1 => GO x d 145 Q 86 [v0, v1, v2, v3] (r1.toList ++ []) I1 J1)) := (ge (A := (53, 86, 135, 1, 0)) rfl).trans (gtrue (Nat.le_of_ble_eq_true rfl))
set_option maxRecDepth 10000 in
theorem g_145_86 : GO x d 145 Q 86 [v0, v1, v2, v3] (.inl a :: st) I J = (inR a ∧ if a = 0 then GO x d 145 Q 93 [v0, v1, v2, v3] st I J else GO x d 145 Q 89 [v0, v1, v2, v3] st I J) := (ge (A := (33, 89, 93, 0, 0)) rfl).trans (gif (p := a = 0) inferInstance)
set_option maxRecDepth 10000 in
theorem g_145_89 : GO x d 145 Q 89 [v0, v1, v2, v3] st I J = GO x d 145 Q 90 [v0, v1, v2, v3] (.inl (1) :: st) I J := ge (A := (0, 90, 0, 0, 1)) rfl
set_option maxRecDepth 10000 in
theorem g_145_90 : GO x d 145 Q 90 [v0, v1, v2, v3] st I J = GO x d 145 Q 94 [v0, v1, v2, v3] st I J := ge (A := (35, 93, 94, 0, 0)) rfl
set_option maxRecDepth 10000 in
theorem g_145_93 : GO x d 145 Q 93 [v0, v1, v2, v3] st I J = GO x d 145 Q 94 [v0, v1, v2, v3] (.inl (0) :: st) I J := ge (A := (0, 94, 0, 0, 0)) rfl
set_option maxRecDepth 10000 in
theorem g_145_94 : GO x d 145 Q 94 [v0, v1, v2, v3] [.inl a] I J = Q (some (.inl a)) I J := ge (A := (55, 95, 0, 0, 0)) rfl
set_option maxRecDepth 10000 in
theorem e_145 : EX x (d + 1) 145 [.inr (.inr w0), .inl i0, .inl i1] I J Q = GO x d 145 Q 0 [some (.inr (.inr w0)), some (.inl i0), some (.inl i1), none] [] I J := ex_eq (Nat.le_of_ble_eq_true rfl) rfl (Nat.le_of_ble_eq_true rfl) rfl
set_option maxRecDepth 10000 in
theorem g_146_0 : GO x d 146 Q 0 [some (.inr (.inr w)), v1, v2] st I J = GO x d 146 Q 1 [some (.inr (.inr w)), v1, v2] (.inr (.inr w) :: st) I J := ge (A := (2, 1, 0, 0, 0)) rfl
set_option maxRecDepth 10000 in
theorem g_146_1 : GO x d 146 Q 1 [v0, some (.inl a), v2] st I J = GO x d 146 Q 2 [v0, some (.inl a), v2] (.inl a :: st) I J := ge (A := (1, 2, 1, 0, 0)) rfl
set_option maxRecDepth 10000 in
theorem g_146_2 : GO x d 146 Q 2 [v0, v1, v2] [.inl i0, .inr (.inr (.inl r))] I J = (okO r 10 ∧ EX x d 112 [.inr (.inr (.inl r)), .inl i0] I J (fun r1 I1 J1 => GO x d 146 Q 5 [v0, v1, v2] (r1.toList ++ []) I1 J1)) := (ge (A := (53, 5, 112, 1, 0)) rfl).trans (gtrue (Nat.le_of_ble_eq_true rfl))
set_option maxRecDepth 10000 in
theorem g_146_5 : GO x d 146 Q 5 [v0, v1, v2] (.inl a :: st) I J = (inR a ∧ if a = 0 then GO x d 146 Q 17 [v0, v1, v2] st I J else GO x d 146 Q 8 [v0, v1, v2] st I J) := (ge (A := (33, 8, 17, 0, 0)) rfl).trans (gif (p := a = 0) inferInstance)
set_option maxRecDepth 10000 in
theorem g_146_8 : GO x d 146 Q 8 [v0, v1, some (.inl a)] st I J = GO x d 146 Q 9 [v0, v1, some (.inl a)] (.inl a :: st) I J := ge (A := (1, 9, 2, 0, 0)) rfl
set_option maxRecDepth 10000 in
theorem g_146_9 : GO x d 146 Q 9 [v0, v1, v2] st I J = GO x d 146 Q 10 [v0, v1, v2] (.inl (0) :: st) I J := ge (A := (0, 10, 0, 0, 0)) rfl
set_option maxRecDepth 10000 in
theorem g_146_10 : GO x d 146 Q 10 [v0, v1, v2] st I J = GO x d 146 Q 11 [v0, v1, v2] (.inl (2) :: st) I J := ge (A := (0, 11, 0, 0, 2)) rfl
set_option maxRecDepth 10000 in
theorem g_146_11 : GO x d 146 Q 11 [v0, v1, v2] [.inl i0, .inl i1, .inl i2] I J = EX x d 109 [.inl i2, .inl i1, .inl i0] I J (fun r1 I1 J1 => GO x d 146 Q 14 [v0, v1, v2] (r1.toList ++ []) I1 J1) := (ge (A := (52, 14, 109, 3, 0)) rfl).trans (gtrue2 (Nat.le_of_ble_eq_true rfl) (Nat.le_of_ble_eq_true rfl))
set_option maxRecDepth 10000 in
theorem g_146_14 : GO x d 146 Q 14 [v0, v1, v2] (.inl a :: st) I J = (inR a ∧ if a = 0 then GO x d 146 Q 17 [v0, v1, v2] st I J else GO x d 146 Q 20 [v0, v1, v2] st I J) := (ge (A := (33, 17, 20, 1, 0)) rfl).trans (gifn (p := a = 0) inferInstance)
set_option maxRecDepth 10000 in
theorem g_146_17 : GO x d 146 Q 17 [v0, v1, v2] st I J = GO x d 146 Q 19 [v0, v1, v2] (.inl (-1000001) :: st) I J := ge (A := (0, 19, 0, 0, -1000001)) rfl
set_option maxRecDepth 10000 in
theorem g_146_19 : GO x d 146 Q 19 [v0, v1, v2] [.inl a] I J = Q (some (.inl a)) I J := ge (A := (55, 20, 0, 0, 0)) rfl
set_option maxRecDepth 10000 in
theorem g_146_20 : GO x d 146 Q 20 [v0, v1, some (.inl a)] st I J = GO x d 146 Q 21 [v0, v1, some (.inl a)] (.inl a :: st) I J := ge (A := (1, 21, 2, 0, 0)) rfl
set_option maxRecDepth 10000 in
theorem g_146_21 : GO x d 146 Q 21 [v0, v1, v2] (.inl a :: st) I J = (inR a ∧ if a = 0 then GO x d 146 Q 24 [v0, v1, v2] st I J else GO x d 146 Q 36 [v0, v1, v2] st I J) := (ge (A := (33, 24, 36, 1, 0)) rfl).trans (gifn (p := a = 0) inferInstance)
set_option maxRecDepth 10000 in
theorem g_146_24 : GO x d 146 Q 24 [some (.inr (.inr w)), v1, v2] st I J = GO x d 146 Q 25 [some (.inr (.inr w)), v1, v2] (.inr (.inr w) :: st) I J := ge (A := (2, 25, 0, 0, 0)) rfl
set_option maxRecDepth 10000 in
theorem g_146_25 : GO x d 146 Q 25 [v0, v1, v2] (.inr (.inr (.inl r)) :: st) I J = (okF r 10 2 ∧ GO x d 146 Q 28 [v0, v1, v2] (.inr (.inr (.inl (rfN r 2))) :: st) I J) := (ge (A := (39, 28, 10, 2, 0)) rfl).trans (gref (f := fun q => GO x d 146 Q 28 [v0, v1, v2] (.inr (.inr (.inl q)) :: st) I J))
set_option maxRecDepth 10000 in
theorem g_146_28 : GO x d 146 Q 28 [v0, v1, v2] st I J = GO x d 146 Q 30 [v0, v1, v2] (.inl (24) :: st) I J := ge (A := (0, 30, 0, 0, 24)) rfl
set_option maxRecDepth 10000 in
theorem g_146_30 : GO x d 146 Q 30 [v0, some (.inl a), v2] st I J = GO x d 146 Q 31 [v0, some (.inl a), v2] (.inl a :: st) I J := ge (A := (1, 31, 1, 0, 0)) rfl
set_option maxRecDepth 10000 in
theorem g_146_31 : GO x d 146 Q 31 [v0, v1, v2] (.inl b :: .inl a :: st) I J = GO x d 146 Q 32 [v0, v1, v2] (.inl (a + b) :: st) I J := ge (A := (8, 32, 0, 0, 0)) rfl
set_option maxRecDepth 10000 in
theorem h_146_32 : GO x d 146 Q 32 [v0, v1, v2] (.inl a :: .inr (.inr (.inr q)) :: st) I J = (q < 4 ∧ 0 ≤ a ∧ a < (roA x q).1 ∧ GO x d 146 Q 33 [v0, v1, v2] (.inl ((roA x q).2 a.toNat) :: st) I J) := ge (A := (44, 33, 0, 0, 0)) rfl
set_option maxRecDepth 10000 in
theorem g_146_32 : GO x d 146 Q 32 [v0, v1, v2] (.inl a :: .inr (.inr (.inl r)) :: st) I J = (okA r 20 ∧ 0 ≤ a ∧ a < lnN r ∧ GO x d 146 Q 33 [v0, v1, v2] (.inl (I r a) :: st) I J) := ge (A := (44, 33, 0, 0, 0)) rfl
set_option maxRecDepth 10000 in
theorem g_146_33 : GO x d 146 Q 33 [v0, v1, v2] st I J = GO x d 146 Q 79 [v0, v1, v2] st I J := ge (A := (35, 36, 79, 0, 0)) rfl
set_option maxRecDepth 10000 in
theorem g_146_36 : GO x d 146 Q 36 [v0, v1, some (.inl a)] st I J = GO x d 146 Q 37 [v0, v1, some (.inl a)] (.inl a :: st) I J := ge (A := (1, 37, 2, 0, 0)) rfl
set_option maxRecDepth 10000 in
theorem g_146_37 : GO x d 146 Q 37 [v0, v1, v2] st I J = GO x d 146 Q 38 [v0, v1, v2] (.inl (1) :: st) I J := ge (A := (0, 38, 0, 0, 1)) rfl
set_option maxRecDepth 10000 in
theorem g_146_38 : GO x d 146 Q 38 [v0, v1, v2] (.inl b :: .inl a :: st) I J = (inR a ∧ inR b ∧ if a = b then GO x d 146 Q 41 [v0, v1, v2] st I J else GO x d 146 Q 57 [v0, v1, v2] st I J) := (ge (A := (34, 41, 57, 1, 0)) rfl).trans (gicn (p := a = b) inferInstance)
set_option maxRecDepth 10000 in
theorem g_146_41 : GO x d 146 Q 41 [some (.inr (.inr w)), v1, v2] st I J = GO x d 146 Q 42 [some (.inr (.inr w)), v1, v2] (.inr (.inr w) :: st) I J := ge (A := (2, 42, 0, 0, 0)) rfl
set_option maxRecDepth 10000 in
theorem g_146_42 : GO x d 146 Q 42 [v0, some (.inl a), v2] st I J = GO x d 146 Q 43 [v0, some (.inl a), v2] (.inl a :: st) I J := ge (A := (1, 43, 1, 0, 0)) rfl
set_option maxRecDepth 10000 in
theorem g_146_43 : GO x d 146 Q 43 [v0, v1, v2] [.inl i0, .inr (.inr (.inl r))] I J = (okO r 10 ∧ EX x d 136 [.inr (.inr (.inl r)), .inl i0] I J (fun r1 I1 J1 => GO x d 146 Q 46 [v0, v1, v2] (r1.toList ++ []) I1 J1)) := (ge (A := (53, 46, 136, 1, 0)) rfl).trans (gtrue (Nat.le_of_ble_eq_true rfl))
set_option maxRecDepth 10000 in
theorem g_146_46 : GO x d 146 Q 46 [v0, v1, v2] (.inl a :: st) I J = (inR a ∧ if a = 0 then GO x d 146 Q 53 [v0, v1, v2] st I J else GO x d 146 Q 49 [v0, v1, v2] st I J) := (ge (A := (33, 49, 53, 0, 0)) rfl).trans (gif (p := a = 0) inferInstance)
set_option maxRecDepth 10000 in
theorem g_146_49 : GO x d 146 Q 49 [v0, v1, v2] st I J = GO x d 146 Q 50 [v0, v1, v2] (.inl (1) :: st) I J := ge (A := (0, 50, 0, 0, 1)) rfl
set_option maxRecDepth 10000 in
theorem g_146_50 : GO x d 146 Q 50 [v0, v1, v2] st I J = GO x d 146 Q 79 [v0, v1, v2] st I J := ge (A := (35, 53, 79, 0, 0)) rfl
set_option maxRecDepth 10000 in
theorem g_146_53 : GO x d 146 Q 53 [v0, v1, v2] st I J = GO x d 146 Q 54 [v0, v1, v2] (.inl (0) :: st) I J := ge (A := (0, 54, 0, 0, 0)) rfl
set_option maxRecDepth 10000 in
theorem g_146_54 : GO x d 146 Q 54 [v0, v1, v2] st I J = GO x d 146 Q 79 [v0, v1, v2] st I J := ge (A := (35, 57, 79, 0, 0)) rfl
set_option maxRecDepth 10000 in
theorem g_146_57 : GO x d 146 Q 57 [some (.inr (.inr w)), v1, v2] st I J = GO x d 146 Q 58 [some (.inr (.inr w)), v1, v2] (.inr (.inr w) :: st) I J := ge (A := (2, 58, 0, 0, 0)) rfl
set_option maxRecDepth 10000 in
theorem g_146_58 : GO x d 146 Q 58 [v0, some (.inl a), v2] st I J = GO x d 146 Q 59 [v0, some (.inl a), v2] (.inl a :: st) I J := ge (A := (1, 59, 1, 0, 0)) rfl
set_option maxRecDepth 10000 in
theorem g_146_59 : GO x d 146 Q 59 [v0, v1, v2] [.inl i0, .inr (.inr (.inl r))] I J = (okO r 10 ∧ EX x d 136 [.inr (.inr (.inl r)), .inl i0] I J (fun r1 I1 J1 => GO x d 146 Q 62 [v0, v1, v2] (r1.toList ++ []) I1 J1)) := (ge (A := (53, 62, 136, 1, 0)) rfl).trans (gtrue (Nat.le_of_ble_eq_true rfl))
set_option maxRecDepth 10000 in
theorem g_146_62 : GO x d 146 Q 62 [v0, v1, v2] (.inl a :: st) I J = (inR a ∧ if a = 0 then GO x d 146 Q 77 [v0, v1, v2] st I J else GO x d 146 Q 65 [v0, v1, v2] st I J) := (ge (A := (33, 65, 77, 0, 0)) rfl).trans (gif (p := a = 0) inferInstance)
set_option maxRecDepth 10000 in
theorem g_146_65 : GO x d 146 Q 65 [some (.inr (.inr w)), v1, v2] st I J = GO x d 146 Q 66 [some (.inr (.inr w)), v1, v2] (.inr (.inr w) :: st) I J := ge (A := (2, 66, 0, 0, 0)) rfl
set_option maxRecDepth 10000 in
theorem g_146_66 : GO x d 146 Q 66 [v0, v1, v2] (.inr (.inr (.inl r)) :: st) I J = (okF r 10 2 ∧ GO x d 146 Q 69 [v0, v1, v2] (.inr (.inr (.inl (rfN r 2))) :: st) I J) := (ge (A := (39, 69, 10, 2, 0)) rfl).trans (gref (f := fun q => GO x d 146 Q 69 [v0, v1, v2] (.inr (.inr (.inl q)) :: st) I J))
set_option maxRecDepth 10000 in
theorem g_146_69 : GO x d 146 Q 69 [v0, v1, v2] st I J = GO x d 146 Q 71 [v0, v1, v2] (.inl (48) :: st) I J := ge (A := (0, 71, 0, 0, 48)) rfl
set_option maxRecDepth 10000 in
theorem g_146_71 : GO x d 146 Q 71 [v0, some (.inl a), v2] st I J = GO x d 146 Q 72 [v0, some (.inl a), v2] (.inl a :: st) I J := ge (A := (1, 72, 1, 0, 0)) rfl
set_option maxRecDepth 10000 in
theorem g_146_72 : GO x d 146 Q 72 [v0, v1, v2] (.inl b :: .inl a :: st) I J = GO x d 146 Q 73 [v0, v1, v2] (.inl (a + b) :: st) I J := ge (A := (8, 73, 0, 0, 0)) rfl
set_option maxRecDepth 10000 in
theorem h_146_73 : GO x d 146 Q 73 [v0, v1, v2] (.inl a :: .inr (.inr (.inr q)) :: st) I J = (q < 4 ∧ 0 ≤ a ∧ a < (roA x q).1 ∧ GO x d 146 Q 74 [v0, v1, v2] (.inl ((roA x q).2 a.toNat) :: st) I J) := ge (A := (44, 74, 0, 0, 0)) rfl
set_option maxRecDepth 10000 in
theorem g_146_73 : GO x d 146 Q 73 [v0, v1, v2] (.inl a :: .inr (.inr (.inl r)) :: st) I J = (okA r 20 ∧ 0 ≤ a ∧ a < lnN r ∧ GO x d 146 Q 74 [v0, v1, v2] (.inl (I r a) :: st) I J) := ge (A := (44, 74, 0, 0, 0)) rfl
set_option maxRecDepth 10000 in
theorem g_146_74 : GO x d 146 Q 74 [v0, v1, v2] st I J = GO x d 146 Q 79 [v0, v1, v2] st I J := ge (A := (35, 77, 79, 0, 0)) rfl
set_option maxRecDepth 10000 in
theorem g_146_77 : GO x d 146 Q 77 [v0, v1, v2] st I J = GO x d 146 Q 79 [v0, v1, v2] (.inl (-1000000) :: st) I J := ge (A := (0, 79, 0, 0, -1000000)) rfl
set_option maxRecDepth 10000 in
theorem g_146_79 : GO x d 146 Q 79 [v0, v1, v2] [.inl a] I J = Q (some (.inl a)) I J := ge (A := (55, 80, 0, 0, 0)) rfl
set_option maxRecDepth 10000 in
theorem e_146 : EX x (d + 1) 146 [.inr (.inr w0), .inl i0, .inl i1] I J Q = GO x d 146 Q 0 [some (.inr (.inr w0)), some (.inl i0), some (.inl i1)] [] I J := ex_eq (Nat.le_of_ble_eq_true rfl) rfl (Nat.le_of_ble_eq_true rfl) rfl
set_option maxRecDepth 10000 in
theorem g_147_0 : GO x d 147 Q 0 [v0, v1, v2, v3] st I J = GO x d 147 Q 1 [v0, v1, v2, v3] (.inl (0) :: st) I J := ge (A := (0, 1, 0, 0, 0)) rfl
set_option maxRecDepth 10000 in
theorem g_147_1 : GO x d 147 Q 1 [v0, v1, v2, v3] (.inl a :: st) I J = (nlO (some v1) = true ∧ GO x d 147 Q 2 [v0, v1, some (.inl a), v3] st I J) := (ge (A := (4, 2, 2, 0, 0)) rfl).trans (gst (Nat.le_of_ble_eq_true rfl) _)
set_option maxRecDepth 10000 in
theorem g_147_2 : GO x d 147 Q 2 [v0, v1, v2, v3] st I J = GO x d 147 Q 3 [v0, v1, v2, v3] (.inl (0) :: st) I J := ge (A := (0, 3, 0, 0, 0)) rfl
set_option maxRecDepth 10000 in
theorem g_147_3 : GO x d 147 Q 3 [v0, v1, v2, v3] (.inl a :: st) I J = (nlO (some v2) = true ∧ GO x d 147 Q 4 [v0, v1, v2, some (.inl a)] st I J) := (ge (A := (4, 4, 3, 0, 0)) rfl).trans (gst (Nat.le_of_ble_eq_true rfl) _)
set_option maxRecDepth 10000 in
theorem g_147_4 : GO x d 147 Q 4 [v0, v1, v2, some (.inl a)] st I J = GO x d 147 Q 5 [v0, v1, v2, some (.inl a)] (.inl a :: st) I J := ge (A := (1, 5, 3, 0, 0)) rfl
set_option maxRecDepth 10000 in
theorem g_147_5 : GO x d 147 Q 5 [some (.inr (.inr w)), v1, v2, v3] st I J = GO x d 147 Q 6 [some (.inr (.inr w)), v1, v2, v3] (.inr (.inr w) :: st) I J := ge (A := (2, 6, 0, 0, 0)) rfl
set_option maxRecDepth 10000 in
theorem g_147_6 : GO x d 147 Q 6 [v0, v1, v2, v3] (.inr (.inr (.inl r)) :: st) I J = (okF r 10 2 ∧ GO x d 147 Q 9 [v0, v1, v2, v3] (.inr (.inr (.inl (rfN r 2))) :: st) I J) := (ge (A := (39, 9, 10, 2, 0)) rfl).trans (gref (f := fun q => GO x d 147 Q 9 [v0, v1, v2, v3] (.inr (.inr (.inl q)) :: st) I J))
set_option maxRecDepth 10000 in
theorem g_147_9 : GO x d 147 Q 9 [v0, v1, v2, v3] st I J = GO x d 147 Q 10 [v0, v1, v2, v3] (.inl (1) :: st) I J := ge (A := (0, 10, 0, 0, 1)) rfl
set_option maxRecDepth 10000 in
theorem h_147_10 : GO x d 147 Q 10 [v0, v1, v2, v3] (.inl a :: .inr (.inr (.inr q)) :: st) I J = (q < 4 ∧ 0 ≤ a ∧ a < (roA x q).1 ∧ GO x d 147 Q 11 [v0, v1, v2, v3] (.inl ((roA x q).2 a.toNat) :: st) I J) := ge (A := (44, 11, 0, 0, 0)) rfl
set_option maxRecDepth 10000 in
theorem g_147_10 : GO x d 147 Q 10 [v0, v1, v2, v3] (.inl a :: .inr (.inr (.inl r)) :: st) I J = (okA r 20 ∧ 0 ≤ a ∧ a < lnN r ∧ GO x d 147 Q 11 [v0, v1, v2, v3] (.inl (I r a) :: st) I J) := ge (A := (44, 11, 0, 0, 0)) rfl
set_option maxRecDepth 10000 in
theorem g_147_11 : GO x d 147 Q 11 [v0, v1, v2, v3] (.inl b :: .inl a :: st) I J = (inR a ∧ inR b ∧ if a < b then GO x d 147 Q 14 [v0, v1, v2, v3] st I J else GO x d 147 Q 39 [v0, v1, v2, v3] st I J) := (ge (A := (34, 14, 39, 3, 0)) rfl).trans (ggec)
set_option maxRecDepth 10000 in
theorem g_147_14 : GO x d 147 Q 14 [v0, v1, some (.inl a), v3] st I J = GO x d 147 Q 15 [v0, v1, some (.inl a), v3] (.inl a :: st) I J := ge (A := (1, 15, 2, 0, 0)) rfl
set_option maxRecDepth 10000 in
theorem g_147_15 : GO x d 147 Q 15 [some (.inr (.inr w)), v1, v2, v3] st I J = GO x d 147 Q 16 [some (.inr (.inr w)), v1, v2, v3] (.inr (.inr w) :: st) I J := ge (A := (2, 16, 0, 0, 0)) rfl
set_option maxRecDepth 10000 in
theorem g_147_16 : GO x d 147 Q 16 [v0, some (.inl a), v2, v3] st I J = GO x d 147 Q 17 [v0, some (.inl a), v2, v3] (.inl a :: st) I J := ge (A := (1, 17, 1, 0, 0)) rfl
set_option maxRecDepth 10000 in
theorem g_147_17 : GO x d 147 Q 17 [v0, v1, v2, some (.inl a)] st I J = GO x d 147 Q 18 [v0, v1, v2, some (.inl a)] (.inl a :: st) I J := ge (A := (1, 18, 3, 0, 0)) rfl
set_option maxRecDepth 10000 in
theorem g_147_18 : GO x d 147 Q 18 [v0, v1, v2, v3] [.inl i0, .inl i1, .inr (.inr (.inl r)), .inl i2] I J = (okO r 10 ∧ EX x d 138 [.inr (.inr (.inl r)), .inl i1, .inl i0] I J (fun r1 I1 J1 => GO x d 147 Q 21 [v0, v1, v2, v3] (r1.toList ++ [.inl i2]) I1 J1)) := (ge (A := (53, 21, 138, 2, 0)) rfl).trans (gtrue (Nat.le_of_ble_eq_true rfl))
set_option maxRecDepth 10000 in
theorem g_147_21 : GO x d 147 Q 21 [v0, v1, v2, v3] (.inl a :: st) I J = (inR a ∧ if a = 0 then GO x d 147 Q 30 [v0, v1, v2, v3] st I J else GO x d 147 Q 24 [v0, v1, v2, v3] st I J) := (ge (A := (33, 24, 30, 0, 0)) rfl).trans (gif (p := a = 0) inferInstance)
set_option maxRecDepth 10000 in
theorem g_147_24 : GO x d 147 Q 24 [v0, v1, v2, v3] st I J = GO x d 147 Q 25 [v0, v1, v2, v3] (.inl (1) :: st) I J := ge (A := (0, 25, 0, 0, 1)) rfl
set_option maxRecDepth 10000 in
theorem g_147_25 : GO x d 147 Q 25 [v0, v1, v2, some (.inl a)] st I J = GO x d 147 Q 26 [v0, v1, v2, some (.inl a)] (.inl a :: st) I J := ge (A := (1, 26, 3, 0, 0)) rfl
set_option maxRecDepth 10000 in
theorem g_147_26 : GO x d 147 Q 26 [v0, v1, v2, v3] (.inl b :: .inl a :: st) I J = GO x d 147 Q 27 [v0, v1, v2, v3] (.inl (shlI a b) :: st) I J := ge (A := (14, 27, 0, 0, 0)) rfl
set_option maxRecDepth 10000 in
theorem g_147_27 : GO x d 147 Q 27 [v0, v1, v2, v3] st I J = GO x d 147 Q 31 [v0, v1, v2, v3] st I J := ge (A := (35, 30, 31, 0, 0)) rfl
set_option maxRecDepth 10000 in
theorem g_147_30 : GO x d 147 Q 30 [v0, v1, v2, v3] st I J = GO x d 147 Q 31 [v0, v1, v2, v3] (.inl (0) :: st) I J := ge (A := (0, 31, 0, 0, 0)) rfl
set_option maxRecDepth 10000 in
theorem g_147_31 : GO x d 147 Q 31 [v0, v1, v2, v3] (.inl b :: .inl a :: st) I J = GO x d 147 Q 32 [v0, v1, v2, v3] (.inl (orI a b) :: st) I J := ge (A := (12, 32, 0, 0, 0)) rfl
set_option maxRecDepth 10000 in
theorem g_147_32 : GO x d 147 Q 32 [v0, v1, v2, v3] (.inl a :: st) I J = (nlO (some v1) = true ∧ GO x d 147 Q 33 [v0, v1, some (.inl a), v3] st I J) := (ge (A := (4, 33, 2, 0, 0)) rfl).trans (gst (Nat.le_of_ble_eq_true rfl) _)
set_option maxRecDepth 10000 in
theorem g_147_33 : GO x d 147 Q 33 [v0, v1, v2, some (.inl a)] st I J = (nlO (some v2) = true ∧ GO x d 147 Q 36 [v0, v1, v2, some (.inl (a + (1)))] st I J) := ge (A := (7, 36, 3, 0, 1)) rfl
set_option maxRecDepth 10000 in
theorem g_147_36 : GO x d 147 Q 36 [v0, v1, v2, v3] st I J = GO x d 147 Q 4 [v0, v1, v2, v3] st I J := ge (A := (35, 39, 4, 0, 0)) rfl
set_option maxRecDepth 10000 in
theorem g_147_39 : GO x d 147 Q 39 [v0, v1, some (.inl a), v3] st I J = GO x d 147 Q 40 [v0, v1, some (.inl a), v3] (.inl a :: st) I J := ge (A := (1, 40, 2, 0, 0)) rfl
set_option maxRecDepth 10000 in
theorem g_147_40 : GO x d 147 Q 40 [v0, v1, v2, v3] [.inl a] I J = Q (some (.inl a)) I J := ge (A := (55, 41, 0, 0, 0)) rfl
set_option maxRecDepth 10000 in
theorem e_147 : EX x (d + 1) 147 [.inr (.inr w0), .inl i0] I J Q = GO x d 147 Q 0 [some (.inr (.inr w0)), some (.inl i0), none, none] [] I J := ex_eq (Nat.le_of_ble_eq_true rfl) rfl (Nat.le_of_ble_eq_true rfl) rfl
set_option maxRecDepth 10000 in
theorem g_148_0 : GO x d 148 Q 0 [some (.inr (.inr w)), v1] st I J = GO x d 148 Q 1 [some (.inr (.inr w)), v1] (.inr (.inr w) :: st) I J := ge (A := (2, 1, 0, 0, 0)) rfl
set_option maxRecDepth 10000 in
theorem g_148_1 : GO x d 148 Q 1 [v0, some (.inl a)] st I J = GO x d 148 Q 2 [v0, some (.inl a)] (.inl a :: st) I J := ge (A := (1, 2, 1, 0, 0)) rfl
set_option maxRecDepth 10000 in
theorem g_148_2 : GO x d 148 Q 2 [v0, v1] [.inl i0, .inr (.inr (.inl r))] I J = (okO r 10 ∧ EX x d 112 [.inr (.inr (.inl r)), .inl i0] I J (fun r1 I1 J1 => GO x d 148 Q 5 [v0, v1] (r1.toList ++ []) I1 J1)) := (ge (A := (53, 5, 112, 1, 0)) rfl).trans (gtrue (Nat.le_of_ble_eq_true rfl))
set_option maxRecDepth 10000 in
theorem g_148_5 : GO x d 148 Q 5 [v0, v1] (.inl a :: st) I J = (inR a ∧ if a = 0 then GO x d 148 Q 8 [v0, v1] st I J else GO x d 148 Q 13 [v0, v1] st I J) := (ge (A := (33, 8, 13, 1, 0)) rfl).trans (gifn (p := a = 0) inferInstance)
set_option maxRecDepth 10000 in
theorem g_148_8 : GO x d 148 Q 8 [v0, v1] st I J = GO x d 148 Q 10 [v0, v1] (.inl (-1000001) :: st) I J := ge (A := (0, 10, 0, 0, -1000001)) rfl
set_option maxRecDepth 10000 in
theorem g_148_10 : GO x d 148 Q 10 [v0, v1] st I J = GO x d 148 Q 31 [v0, v1] st I J := ge (A := (35, 13, 31, 0, 0)) rfl
set_option maxRecDepth 10000 in
theorem g_148_13 : GO x d 148 Q 13 [some (.inr (.inr w)), v1] st I J = GO x d 148 Q 14 [some (.inr (.inr w)), v1] (.inr (.inr w) :: st) I J := ge (A := (2, 14, 0, 0, 0)) rfl
set_option maxRecDepth 10000 in
theorem g_148_14 : GO x d 148 Q 14 [v0, some (.inl a)] st I J = GO x d 148 Q 15 [v0, some (.inl a)] (.inl a :: st) I J := ge (A := (1, 15, 1, 0, 0)) rfl
set_option maxRecDepth 10000 in
theorem g_148_15 : GO x d 148 Q 15 [v0, v1] [.inl i0, .inr (.inr (.inl r))] I J = (okO r 10 ∧ EX x d 136 [.inr (.inr (.inl r)), .inl i0] I J (fun r1 I1 J1 => GO x d 148 Q 18 [v0, v1] (r1.toList ++ []) I1 J1)) := (ge (A := (53, 18, 136, 1, 0)) rfl).trans (gtrue (Nat.le_of_ble_eq_true rfl))
set_option maxRecDepth 10000 in
theorem g_148_18 : GO x d 148 Q 18 [v0, v1] (.inl a :: st) I J = (inR a ∧ if a = 0 then GO x d 148 Q 26 [v0, v1] st I J else GO x d 148 Q 21 [v0, v1] st I J) := (ge (A := (33, 21, 26, 0, 0)) rfl).trans (gif (p := a = 0) inferInstance)
set_option maxRecDepth 10000 in
theorem g_148_21 : GO x d 148 Q 21 [v0, v1] st I J = GO x d 148 Q 23 [v0, v1] (.inl (-1000002) :: st) I J := ge (A := (0, 23, 0, 0, -1000002)) rfl
set_option maxRecDepth 10000 in
theorem g_148_23 : GO x d 148 Q 23 [v0, v1] st I J = GO x d 148 Q 31 [v0, v1] st I J := ge (A := (35, 26, 31, 0, 0)) rfl
set_option maxRecDepth 10000 in
theorem g_148_26 : GO x d 148 Q 26 [some (.inr (.inr w)), v1] st I J = GO x d 148 Q 27 [some (.inr (.inr w)), v1] (.inr (.inr w) :: st) I J := ge (A := (2, 27, 0, 0, 0)) rfl
set_option maxRecDepth 10000 in
theorem g_148_27 : GO x d 148 Q 27 [v0, some (.inl a)] st I J = GO x d 148 Q 28 [v0, some (.inl a)] (.inl a :: st) I J := ge (A := (1, 28, 1, 0, 0)) rfl
set_option maxRecDepth 10000 in
theorem g_148_28 : GO x d 148 Q 28 [v0, v1] [.inl i0, .inr (.inr (.inl r))] I J = (okO r 10 ∧ EX x d 147 [.inr (.inr (.inl r)), .inl i0] I J (fun r1 I1 J1 => GO x d 148 Q 31 [v0, v1] (r1.toList ++ []) I1 J1)) := (ge (A := (53, 31, 147, 1, 0)) rfl).trans (gtrue (Nat.le_of_ble_eq_true rfl))
set_option maxRecDepth 10000 in
theorem g_148_31 : GO x d 148 Q 31 [v0, v1] [.inl a] I J = Q (some (.inl a)) I J := ge (A := (55, 32, 0, 0, 0)) rfl
set_option maxRecDepth 10000 in
theorem e_148 : EX x (d + 1) 148 [.inr (.inr w0), .inl i0] I J Q = GO x d 148 Q 0 [some (.inr (.inr w0)), some (.inl i0)] [] I J := ex_eq (Nat.le_of_ble_eq_true rfl) rfl (Nat.le_of_ble_eq_true rfl) rfl
set_option maxRecDepth 10000 in
theorem g_149_0 : GO x d 149 Q 0 [some (.inr (.inr w)), v1, v2, v3, v4] st I J = GO x d 149 Q 1 [some (.inr (.inr w)), v1, v2, v3, v4] (.inr (.inr w) :: st) I J := ge (A := (2, 1, 0, 0, 0)) rfl
set_option maxRecDepth 10000 in
theorem g_149_1 : GO x d 149 Q 1 [v0, some (.inl a), v2, v3, v4] st I J = GO x d 149 Q 2 [v0, some (.inl a), v2, v3, v4] (.inl a :: st) I J := ge (A := (1, 2, 1, 0, 0)) rfl
set_option maxRecDepth 10000 in
theorem g_149_2 : GO x d 149 Q 2 [v0, v1, v2, v3, v4] [.inl i0, .inr (.inr (.inl r))] I J = (okO r 10 ∧ EX x d 112 [.inr (.inr (.inl r)), .inl i0] I J (fun r1 I1 J1 => GO x d 149 Q 5 [v0, v1, v2, v3, v4] (r1.toList ++ []) I1 J1)) := (ge (A := (53, 5, 112, 1, 0)) rfl).trans (gtrue (Nat.le_of_ble_eq_true rfl))
set_option maxRecDepth 10000 in
theorem g_149_5 : GO x d 149 Q 5 [v0, v1, v2, v3, v4] (.inl a :: st) I J = (inR a ∧ if a = 0 then GO x d 149 Q 8 [v0, v1, v2, v3, v4] st I J else GO x d 149 Q 11 [v0, v1, v2, v3, v4] st I J) := (ge (A := (33, 8, 11, 1, 0)) rfl).trans (gifn (p := a = 0) inferInstance)
set_option maxRecDepth 10000 in
theorem g_149_8 : GO x d 149 Q 8 [v0, v1, v2, v3, v4] st I J = GO x d 149 Q 10 [v0, v1, v2, v3, v4] (.inl (-1000001) :: st) I J := ge (A := (0, 10, 0, 0, -1000001)) rfl
set_option maxRecDepth 10000 in
theorem g_149_10 : GO x d 149 Q 10 [v0, v1, v2, v3, v4] [.inl a] I J = Q (some (.inl a)) I J := ge (A := (55, 11, 0, 0, 0)) rfl
set_option maxRecDepth 10000 in
theorem g_149_11 : GO x d 149 Q 11 [some (.inr (.inr w)), v1, v2, v3, v4] st I J = GO x d 149 Q 12 [some (.inr (.inr w)), v1, v2, v3, v4] (.inr (.inr w) :: st) I J := ge (A := (2, 12, 0, 0, 0)) rfl
set_option maxRecDepth 10000 in
theorem g_149_12 : GO x d 149 Q 12 [v0, some (.inl a), v2, v3, v4] st I J = GO x d 149 Q 13 [v0, some (.inl a), v2, v3, v4] (.inl a :: st) I J := ge (A := (1, 13, 1, 0, 0)) rfl
set_option maxRecDepth 10000 in
theorem g_149_13 : GO x d 149 Q 13 [v0, v1, v2, v3, v4] [.inl i0, .inr (.inr (.inl r))] I J = (okO r 10 ∧ EX x d 136 [.inr (.inr (.inl r)), .inl i0] I J (fun r1 I1 J1 => GO x d 149 Q 16 [v0, v1, v2, v3, v4] (r1.toList ++ []) I1 J1)) := (ge (A := (53, 16, 136, 1, 0)) rfl).trans (gtrue (Nat.le_of_ble_eq_true rfl))
set_option maxRecDepth 10000 in
theorem g_149_16 : GO x d 149 Q 16 [v0, v1, v2, v3, v4] (.inl a :: st) I J = (inR a ∧ if a = 0 then GO x d 149 Q 22 [v0, v1, v2, v3, v4] st I J else GO x d 149 Q 19 [v0, v1, v2, v3, v4] st I J) := (ge (A := (33, 19, 22, 0, 0)) rfl).trans (gif (p := a = 0) inferInstance)
set_option maxRecDepth 10000 in
theorem g_149_19 : GO x d 149 Q 19 [v0, v1, v2, v3, v4] st I J = GO x d 149 Q 21 [v0, v1, v2, v3, v4] (.inl (-1000002) :: st) I J := ge (A := (0, 21, 0, 0, -1000002)) rfl
set_option maxRecDepth 10000 in
theorem g_149_21 : GO x d 149 Q 21 [v0, v1, v2, v3, v4] [.inl a] I J = Q (some (.inl a)) I J := ge (A := (55, 22, 0, 0, 0)) rfl
set_option maxRecDepth 10000 in
theorem g_149_22 : GO x d 149 Q 22 [some (.inr (.inr w)), v1, v2, v3, v4] st I J = GO x d 149 Q 23 [some (.inr (.inr w)), v1, v2, v3, v4] (.inr (.inr w) :: st) I J := ge (A := (2, 23, 0, 0, 0)) rfl
set_option maxRecDepth 10000 in
theorem g_149_23 : GO x d 149 Q 23 [v0, v1, v2, v3, v4] (.inr (.inr (.inl r)) :: st) I J = (okF r 10 2 ∧ GO x d 149 Q 26 [v0, v1, v2, v3, v4] (.inr (.inr (.inl (rfN r 2))) :: st) I J) := (ge (A := (39, 26, 10, 2, 0)) rfl).trans (gref (f := fun q => GO x d 149 Q 26 [v0, v1, v2, v3, v4] (.inr (.inr (.inl q)) :: st) I J))
set_option maxRecDepth 10000 in
theorem g_149_26 : GO x d 149 Q 26 [v0, v1, v2, v3, v4] st I J = GO x d 149 Q 28 [v0, v1, v2, v3, v4] (.inl (29) :: st) I J := ge (A := (0, 28, 0, 0, 29)) rfl
set_option maxRecDepth 10000 in
theorem h_149_28 : GO x d 149 Q 28 [v0, v1, v2, v3, v4] (.inl a :: .inr (.inr (.inr q)) :: st) I J = (q < 4 ∧ 0 ≤ a ∧ a < (roA x q).1 ∧ GO x d 149 Q 29 [v0, v1, v2, v3, v4] (.inl ((roA x q).2 a.toNat) :: st) I J) := ge (A := (44, 29, 0, 0, 0)) rfl
set_option maxRecDepth 10000 in
theorem g_149_28 : GO x d 149 Q 28 [v0, v1, v2, v3, v4] (.inl a :: .inr (.inr (.inl r)) :: st) I J = (okA r 20 ∧ 0 ≤ a ∧ a < lnN r ∧ GO x d 149 Q 29 [v0, v1, v2, v3, v4] (.inl (I r a) :: st) I J) := ge (A := (44, 29, 0, 0, 0)) rfl
set_option maxRecDepth 10000 in
theorem g_149_29 : GO x d 149 Q 29 [v0, v1, v2, v3, v4] (.inl a :: st) I J = (nlO (some v1) = true ∧ GO x d 149 Q 30 [v0, v1, some (.inl a), v3, v4] st I J) := (ge (A := (4, 30, 2, 0, 0)) rfl).trans (gst (Nat.le_of_ble_eq_true rfl) _)
set_option maxRecDepth 10000 in
theorem g_149_30 : GO x d 149 Q 30 [v0, v1, v2, v3, v4] st I J = GO x d 149 Q 32 [v0, v1, v2, v3, v4] (.inl (-1000000) :: st) I J := ge (A := (0, 32, 0, 0, -1000000)) rfl
set_option maxRecDepth 10000 in
theorem g_149_32 : GO x d 149 Q 32 [v0, v1, v2, v3, v4] (.inl a :: st) I J = (nlO (some v2) = true ∧ GO x d 149 Q 33 [v0, v1, v2, some (.inl a), v4] st I J) := (ge (A := (4, 33, 3, 0, 0)) rfl).trans (gst (Nat.le_of_ble_eq_true rfl) _)
set_option maxRecDepth 10000 in
theorem g_149_33 : GO x d 149 Q 33 [v0, v1, v2, v3, v4] st I J = GO x d 149 Q 35 [v0, v1, v2, v3, v4] (.inl (48) :: st) I J := ge (A := (0, 35, 0, 0, 48)) rfl
set_option maxRecDepth 10000 in
theorem g_149_35 : GO x d 149 Q 35 [v0, v1, v2, v3, v4] (.inl a :: st) I J = (nlO (some v3) = true ∧ GO x d 149 Q 37 [v0, v1, v2, v3, some (.inl a)] st I J) := (ge (A := (4, 37, 4, 0, 0)) rfl).trans (gst (Nat.le_of_ble_eq_true rfl) _)
set_option maxRecDepth 10000 in
theorem g_149_37 : GO x d 149 Q 37 [v0, v1, v2, v3, some (.inl a)] st I J = GO x d 149 Q 39 [v0, v1, v2, v3, some (.inl a)] (.inl a :: st) I J := ge (A := (1, 39, 4, 0, 0)) rfl
set_option maxRecDepth 10000 in
theorem g_149_39 : GO x d 149 Q 39 [v0, v1, v2, v3, v4] (.inl a :: st) I J = (inR a ∧ if a < 0 then GO x d 149 Q 79 [v0, v1, v2, v3, v4] st I J else GO x d 149 Q 42 [v0, v1, v2, v3, v4] st I J) := (ge (A := (33, 42, 79, 2, 0)) rfl).trans (gif (p := a < 0) inferInstance)
set_option maxRecDepth 10000 in
theorem g_149_42 : GO x d 149 Q 42 [some (.inr (.inr w)), v1, v2, v3, v4] st I J = GO x d 149 Q 43 [some (.inr (.inr w)), v1, v2, v3, v4] (.inr (.inr w) :: st) I J := ge (A := (2, 43, 0, 0, 0)) rfl
set_option maxRecDepth 10000 in
theorem g_149_43 : GO x d 149 Q 43 [v0, v1, v2, v3, v4] (.inr (.inr (.inl r)) :: st) I J = (okF r 10 2 ∧ GO x d 149 Q 46 [v0, v1, v2, v3, v4] (.inr (.inr (.inl (rfN r 2))) :: st) I J) := (ge (A := (39, 46, 10, 2, 0)) rfl).trans (gref (f := fun q => GO x d 149 Q 46 [v0, v1, v2, v3, v4] (.inr (.inr (.inl q)) :: st) I J))
set_option maxRecDepth 10000 in
theorem g_149_46 : GO x d 149 Q 46 [v0, v1, v2, v3, v4] st I J = GO x d 149 Q 48 [v0, v1, v2, v3, v4] (.inl (29) :: st) I J := ge (A := (0, 48, 0, 0, 29)) rfl
set_option maxRecDepth 10000 in
theorem g_149_48 : GO x d 149 Q 48 [v0, v1, some (.inl a), v3, v4] st I J = GO x d 149 Q 49 [v0, v1, some (.inl a), v3, v4] (.inl a :: st) I J := ge (A := (1, 49, 2, 0, 0)) rfl
set_option maxRecDepth 10000 in
theorem g_149_49 : GO x d 149 Q 49 [v0, v1, v2, v3, some (.inl a)] st I J = GO x d 149 Q 51 [v0, v1, v2, v3, some (.inl a)] (.inl a :: st) I J := ge (A := (1, 51, 4, 0, 0)) rfl
set_option maxRecDepth 10000 in
theorem g_149_51 : GO x d 149 Q 51 [v0, v1, v2, v3, v4] (.inl b :: .inl a :: st) I J = GO x d 149 Q 52 [v0, v1, v2, v3, v4] (.inl (a + b) :: st) I J := ge (A := (8, 52, 0, 0, 0)) rfl
set_option maxRecDepth 10000 in
theorem g_149_52 : GO x d 149 Q 52 [v0, v1, v2, v3, v4] (.inl b :: .inl a :: .inr (.inr (.inl r)) :: st) I J = (okA r 20 ∧ 0 ≤ a ∧ a < lnN r ∧ GO x d 149 Q 53 [v0, v1, v2, v3, v4] st (up I r a b) J) := ge (A := (45, 53, 0, 0, 0)) rfl
set_option maxRecDepth 10000 in
theorem g_149_53 : GO x d 149 Q 53 [some (.inr (.inr w)), v1, v2, v3, v4] st I J = GO x d 149 Q 54 [some (.inr (.inr w)), v1, v2, v3, v4] (.inr (.inr w) :: st) I J := ge (A := (2, 54, 0, 0, 0)) rfl
set_option maxRecDepth 10000 in
theorem g_149_54 : GO x d 149 Q 54 [v0, some (.inl a), v2, v3, v4] st I J = GO x d 149 Q 55 [v0, some (.inl a), v2, v3, v4] (.inl a :: st) I J := ge (A := (1, 55, 1, 0, 0)) rfl
set_option maxRecDepth 10000 in
theorem g_149_55 : GO x d 149 Q 55 [v0, v1, v2, v3, v4] [.inl i0, .inr (.inr (.inl r))] I J = (okO r 10 ∧ EX x d 147 [.inr (.inr (.inl r)), .inl i0] I J (fun r1 I1 J1 => GO x d 149 Q 58 [v0, v1, v2, v3, v4] (r1.toList ++ []) I1 J1)) := (ge (A := (53, 58, 147, 1, 0)) rfl).trans (gtrue (Nat.le_of_ble_eq_true rfl))
set_option maxRecDepth 10000 in
theorem g_149_58 : GO x d 149 Q 58 [v0, v1, v2, v3, v4] (.inl a :: st) I J = (inR a ∧ if a = 0 then GO x d 149 Q 71 [v0, v1, v2, v3, v4] st I J else GO x d 149 Q 61 [v0, v1, v2, v3, v4] st I J) := (ge (A := (33, 61, 71, 0, 0)) rfl).trans (gif (p := a = 0) inferInstance)
set_option maxRecDepth 10000 in
theorem g_149_61 : GO x d 149 Q 61 [some (.inr (.inr w)), v1, v2, v3, v4] st I J = GO x d 149 Q 62 [some (.inr (.inr w)), v1, v2, v3, v4] (.inr (.inr w) :: st) I J := ge (A := (2, 62, 0, 0, 0)) rfl
set_option maxRecDepth 10000 in
theorem g_149_62 : GO x d 149 Q 62 [v0, v1, v2, v3, v4] (.inr (.inr (.inl r)) :: st) I J = (okF r 10 2 ∧ GO x d 149 Q 65 [v0, v1, v2, v3, v4] (.inr (.inr (.inl (rfN r 2))) :: st) I J) := (ge (A := (39, 65, 10, 2, 0)) rfl).trans (gref (f := fun q => GO x d 149 Q 65 [v0, v1, v2, v3, v4] (.inr (.inr (.inl q)) :: st) I J))
set_option maxRecDepth 10000 in
theorem g_149_65 : GO x d 149 Q 65 [v0, v1, v2, v3, v4] st I J = GO x d 149 Q 67 [v0, v1, v2, v3, v4] (.inl (29) :: st) I J := ge (A := (0, 67, 0, 0, 29)) rfl
set_option maxRecDepth 10000 in
theorem h_149_67 : GO x d 149 Q 67 [v0, v1, v2, v3, v4] (.inl a :: .inr (.inr (.inr q)) :: st) I J = (q < 4 ∧ 0 ≤ a ∧ a < (roA x q).1 ∧ GO x d 149 Q 68 [v0, v1, v2, v3, v4] (.inl ((roA x q).2 a.toNat) :: st) I J) := ge (A := (44, 68, 0, 0, 0)) rfl
set_option maxRecDepth 10000 in
theorem g_149_67 : GO x d 149 Q 67 [v0, v1, v2, v3, v4] (.inl a :: .inr (.inr (.inl r)) :: st) I J = (okA r 20 ∧ 0 ≤ a ∧ a < lnN r ∧ GO x d 149 Q 68 [v0, v1, v2, v3, v4] (.inl (I r a) :: st) I J) := ge (A := (44, 68, 0, 0, 0)) rfl
set_option maxRecDepth 10000 in
theorem g_149_68 : GO x d 149 Q 68 [v0, v1, v2, v3, v4] st I J = GO x d 149 Q 72 [v0, v1, v2, v3, v4] st I J := ge (A := (35, 71, 72, 0, 0)) rfl
set_option maxRecDepth 10000 in
theorem g_149_71 : GO x d 149 Q 71 [v0, v1, v2, some (.inl a), v4] st I J = GO x d 149 Q 72 [v0, v1, v2, some (.inl a), v4] (.inl a :: st) I J := ge (A := (1, 72, 3, 0, 0)) rfl
set_option maxRecDepth 10000 in
theorem g_149_72 : GO x d 149 Q 72 [v0, v1, v2, v3, v4] (.inl a :: st) I J = (nlO (some v2) = true ∧ GO x d 149 Q 73 [v0, v1, v2, some (.inl a), v4] st I J) := (ge (A := (4, 73, 3, 0, 0)) rfl).trans (gst (Nat.le_of_ble_eq_true rfl) _)
set_option maxRecDepth 10000 in
theorem g_149_73 : GO x d 149 Q 73 [v0, v1, v2, v3, some (.inl a)] st I J = (nlO (some v3) = true ∧ GO x d 149 Q 76 [v0, v1, v2, v3, some (.inl (a + (-1)))] st I J) := ge (A := (7, 76, 4, 0, -1)) rfl
set_option maxRecDepth 10000 in
theorem g_149_76 : GO x d 149 Q 76 [v0, v1, v2, v3, v4] st I J = GO x d 149 Q 37 [v0, v1, v2, v3, v4] st I J := ge (A := (35, 79, 37, 0, 0)) rfl
set_option maxRecDepth 10000 in
theorem g_149_79 : GO x d 149 Q 79 [some (.inr (.inr w)), v1, v2, v3, v4] st I J = GO x d 149 Q 80 [some (.inr (.inr w)), v1, v2, v3, v4] (.inr (.inr w) :: st) I J := ge (A := (2, 80, 0, 0, 0)) rfl
set_option maxRecDepth 10000 in
theorem g_149_80 : GO x d 149 Q 80 [v0, v1, v2, v3, v4] (.inr (.inr (.inl r)) :: st) I J = (okF r 10 2 ∧ GO x d 149 Q 83 [v0, v1, v2, v3, v4] (.inr (.inr (.inl (rfN r 2))) :: st) I J) := (ge (A := (39, 83, 10, 2, 0)) rfl).trans (gref (f := fun q => GO x d 149 Q 83 [v0, v1, v2, v3, v4] (.inr (.inr (.inl q)) :: st) I J))
set_option maxRecDepth 10000 in
theorem g_149_83 : GO x d 149 Q 83 [v0, v1, v2, v3, v4] st I J = GO x d 149 Q 85 [v0, v1, v2, v3, v4] (.inl (29) :: st) I J := ge (A := (0, 85, 0, 0, 29)) rfl
set_option maxRecDepth 10000 in
theorem g_149_85 : GO x d 149 Q 85 [v0, v1, some (.inl a), v3, v4] st I J = GO x d 149 Q 86 [v0, v1, some (.inl a), v3, v4] (.inl a :: st) I J := ge (A := (1, 86, 2, 0, 0)) rfl
set_option maxRecDepth 10000 in
theorem g_149_86 : GO x d 149 Q 86 [v0, v1, v2, v3, v4] (.inl b :: .inl a :: .inr (.inr (.inl r)) :: st) I J = (okA r 20 ∧ 0 ≤ a ∧ a < lnN r ∧ GO x d 149 Q 87 [v0, v1, v2, v3, v4] st (up I r a b) J) := ge (A := (45, 87, 0, 0, 0)) rfl
set_option maxRecDepth 10000 in
theorem g_149_87 : GO x d 149 Q 87 [v0, v1, v2, some (.inl a), v4] st I J = GO x d 149 Q 88 [v0, v1, v2, some (.inl a), v4] (.inl a :: st) I J := ge (A := (1, 88, 3, 0, 0)) rfl
set_option maxRecDepth 10000 in
theorem g_149_88 : GO x d 149 Q 88 [v0, v1, v2, v3, v4] [.inl a] I J = Q (some (.inl a)) I J := ge (A := (55, 89, 0, 0, 0)) rfl
set_option maxRecDepth 10000 in
theorem e_149 : EX x (d + 1) 149 [.inr (.inr w0), .inl i0] I J Q = GO x d 149 Q 0 [some (.inr (.inr w0)), some (.inl i0), none, none, none] [] I J := ex_eq (Nat.le_of_ble_eq_true rfl) rfl (Nat.le_of_ble_eq_true rfl) rfl
set_option maxRecDepth 10000 in
theorem g_150_0 : GO x d 150 Q 0 [v0, v1, v2] st I J = GO x d 150 Q 1 [v0, v1, v2] (.inl (0) :: st) I J := ge (A := (0, 1, 0, 0, 0)) rfl
set_option maxRecDepth 10000 in
theorem g_150_1 : GO x d 150 Q 1 [v0, v1, v2] (.inl a :: st) I J = (nlO (some v1) = true ∧ GO x d 150 Q 2 [v0, v1, some (.inl a)] st I J) := (ge (A := (4, 2, 2, 0, 0)) rfl).trans (gst (Nat.le_of_ble_eq_true rfl) _)
set_option maxRecDepth 10000 in
theorem g_150_2 : GO x d 150 Q 2 [v0, v1, some (.inl a)] st I J = GO x d 150 Q 3 [v0, v1, some (.inl a)] (.inl a :: st) I J := ge (A := (1, 3, 2, 0, 0)) rfl
set_option maxRecDepth 10000 in
theorem g_150_3 : GO x d 150 Q 3 [v0, v1, v2] st I J = GO x d 150 Q 5 [v0, v1, v2] (.inl (24) :: st) I J := ge (A := (0, 5, 0, 0, 24)) rfl
set_option maxRecDepth 10000 in
theorem g_150_5 : GO x d 150 Q 5 [v0, v1, v2] (.inl b :: .inl a :: st) I J = (inR a ∧ inR b ∧ if a < b then GO x d 150 Q 8 [v0, v1, v2] st I J else GO x d 150 Q 34 [v0, v1, v2] st I J) := (ge (A := (34, 8, 34, 3, 0)) rfl).trans (ggec)
set_option maxRecDepth 10000 in
theorem g_150_8 : GO x d 150 Q 8 [some (.inr (.inr w)), v1, v2] st I J = GO x d 150 Q 9 [some (.inr (.inr w)), v1, v2] (.inr (.inr w) :: st) I J := ge (A := (2, 9, 0, 0, 0)) rfl
set_option maxRecDepth 10000 in
theorem g_150_9 : GO x d 150 Q 9 [v0, v1, v2] (.inr (.inr (.inl r)) :: st) I J = (okF r 10 21 ∧ GO x d 150 Q 12 [v0, v1, v2] (.inr (.inr (.inl (rfN r 21))) :: st) I J) := (ge (A := (39, 12, 10, 21, 0)) rfl).trans (gref (f := fun q => GO x d 150 Q 12 [v0, v1, v2] (.inr (.inr (.inl q)) :: st) I J))
set_option maxRecDepth 10000 in
theorem g_150_12 : GO x d 150 Q 12 [v0, v1, v2] st I J = GO x d 150 Q 14 [v0, v1, v2] (.inl (24) :: st) I J := ge (A := (0, 14, 0, 0, 24)) rfl
set_option maxRecDepth 10000 in
theorem g_150_14 : GO x d 150 Q 14 [v0, some (.inl a), v2] st I J = GO x d 150 Q 15 [v0, some (.inl a), v2] (.inl a :: st) I J := ge (A := (1, 15, 1, 0, 0)) rfl
set_option maxRecDepth 10000 in
theorem g_150_15 : GO x d 150 Q 15 [v0, v1, v2] (.inl b :: .inl a :: st) I J = GO x d 150 Q 16 [v0, v1, v2] (.inl (a * b) :: st) I J := ge (A := (10, 16, 0, 0, 0)) rfl
set_option maxRecDepth 10000 in
theorem g_150_16 : GO x d 150 Q 16 [v0, v1, some (.inl a)] st I J = GO x d 150 Q 17 [v0, v1, some (.inl a)] (.inl a :: st) I J := ge (A := (1, 17, 2, 0, 0)) rfl
set_option maxRecDepth 10000 in
theorem g_150_17 : GO x d 150 Q 17 [v0, v1, v2] (.inl b :: .inl a :: st) I J = GO x d 150 Q 18 [v0, v1, v2] (.inl (a + b) :: st) I J := ge (A := (8, 18, 0, 0, 0)) rfl
set_option maxRecDepth 10000 in
theorem g_150_18 : GO x d 150 Q 18 [some (.inr (.inr w)), v1, v2] st I J = GO x d 150 Q 19 [some (.inr (.inr w)), v1, v2] (.inr (.inr w) :: st) I J := ge (A := (2, 19, 0, 0, 0)) rfl
set_option maxRecDepth 10000 in
theorem g_150_19 : GO x d 150 Q 19 [v0, v1, v2] (.inr (.inr (.inl r)) :: st) I J = (okF r 10 2 ∧ GO x d 150 Q 22 [v0, v1, v2] (.inr (.inr (.inl (rfN r 2))) :: st) I J) := (ge (A := (39, 22, 10, 2, 0)) rfl).trans (gref (f := fun q => GO x d 150 Q 22 [v0, v1, v2] (.inr (.inr (.inl q)) :: st) I J))
set_option maxRecDepth 10000 in
theorem g_150_22 : GO x d 150 Q 22 [v0, v1, v2] st I J = GO x d 150 Q 24 [v0, v1, v2] (.inl (29) :: st) I J := ge (A := (0, 24, 0, 0, 29)) rfl
set_option maxRecDepth 10000 in
theorem g_150_24 : GO x d 150 Q 24 [v0, v1, some (.inl a)] st I J = GO x d 150 Q 25 [v0, v1, some (.inl a)] (.inl a :: st) I J := ge (A := (1, 25, 2, 0, 0)) rfl
set_option maxRecDepth 10000 in
theorem g_150_25 : GO x d 150 Q 25 [v0, v1, v2] (.inl b :: .inl a :: st) I J = GO x d 150 Q 26 [v0, v1, v2] (.inl (a + b) :: st) I J := ge (A := (8, 26, 0, 0, 0)) rfl
set_option maxRecDepth 10000 in
theorem h_150_26 : GO x d 150 Q 26 [v0, v1, v2] (.inl a :: .inr (.inr (.inr q)) :: st) I J = (q < 4 ∧ 0 ≤ a ∧ a < (roA x q).1 ∧ GO x d 150 Q 27 [v0, v1, v2] (.inl ((roA x q).2 a.toNat) :: st) I J) := ge (A := (44, 27, 0, 0, 0)) rfl
set_option maxRecDepth 10000 in
theorem g_150_26 : GO x d 150 Q 26 [v0, v1, v2] (.inl a :: .inr (.inr (.inl r)) :: st) I J = (okA r 20 ∧ 0 ≤ a ∧ a < lnN r ∧ GO x d 150 Q 27 [v0, v1, v2] (.inl (I r a) :: st) I J) := ge (A := (44, 27, 0, 0, 0)) rfl
set_option maxRecDepth 10000 in
theorem g_150_27 : GO x d 150 Q 27 [v0, v1, v2] (.inl b :: .inl a :: .inr (.inr (.inl r)) :: st) I J = (okA r 20 ∧ 0 ≤ a ∧ a < lnN r ∧ GO x d 150 Q 28 [v0, v1, v2] st (up I r a b) J) := ge (A := (45, 28, 0, 0, 0)) rfl
set_option maxRecDepth 10000 in
theorem g_150_28 : GO x d 150 Q 28 [v0, v1, some (.inl a)] st I J = (nlO (some v1) = true ∧ GO x d 150 Q 31 [v0, v1, some (.inl (a + (1)))] st I J) := ge (A := (7, 31, 2, 0, 1)) rfl
set_option maxRecDepth 10000 in
theorem g_150_31 : GO x d 150 Q 31 [v0, v1, v2] st I J = GO x d 150 Q 2 [v0, v1, v2] st I J := ge (A := (35, 34, 2, 0, 0)) rfl
set_option maxRecDepth 10000 in
theorem g_150_34 : GO x d 150 Q 34 [v0, v1, v2] [] I J = Q none I J := ge (A := (57, 35, 0, 0, 0)) rfl
set_option maxRecDepth 10000 in
theorem e_150 : EX x (d + 1) 150 [.inr (.inr w0), .inl i0] I J Q = GO x d 150 Q 0 [some (.inr (.inr w0)), some (.inl i0), none] [] I J := ex_eq (Nat.le_of_ble_eq_true rfl) rfl (Nat.le_of_ble_eq_true rfl) rfl
set_option maxRecDepth 10000 in
theorem g_151_0 : GO x d 151 Q 0 [v0, v1, v2] st I J = GO x d 151 Q 1 [v0, v1, v2] (.inl (0) :: st) I J := ge (A := (0, 1, 0, 0, 0)) rfl
set_option maxRecDepth 10000 in
theorem g_151_1 : GO x d 151 Q 1 [v0, v1, v2] (.inl a :: st) I J = (nlO (some v1) = true ∧ GO x d 151 Q 2 [v0, v1, some (.inl a)] st I J) := (ge (A := (4, 2, 2, 0, 0)) rfl).trans (gst (Nat.le_of_ble_eq_true rfl) _)
set_option maxRecDepth 10000 in
theorem g_151_2 : GO x d 151 Q 2 [v0, v1, some (.inl a)] st I J = GO x d 151 Q 3 [v0, v1, some (.inl a)] (.inl a :: st) I J := ge (A := (1, 3, 2, 0, 0)) rfl
set_option maxRecDepth 10000 in
theorem g_151_3 : GO x d 151 Q 3 [v0, v1, v2] st I J = GO x d 151 Q 5 [v0, v1, v2] (.inl (24) :: st) I J := ge (A := (0, 5, 0, 0, 24)) rfl
set_option maxRecDepth 10000 in
theorem g_151_5 : GO x d 151 Q 5 [v0, v1, v2] (.inl b :: .inl a :: st) I J = (inR a ∧ inR b ∧ if a < b then GO x d 151 Q 8 [v0, v1, v2] st I J else GO x d 151 Q 34 [v0, v1, v2] st I J) := (ge (A := (34, 8, 34, 3, 0)) rfl).trans (ggec)
set_option maxRecDepth 10000 in
theorem g_151_8 : GO x d 151 Q 8 [some (.inr (.inr w)), v1, v2] st I J = GO x d 151 Q 9 [some (.inr (.inr w)), v1, v2] (.inr (.inr w) :: st) I J := ge (A := (2, 9, 0, 0, 0)) rfl
set_option maxRecDepth 10000 in
theorem g_151_9 : GO x d 151 Q 9 [v0, v1, v2] (.inr (.inr (.inl r)) :: st) I J = (okF r 10 2 ∧ GO x d 151 Q 12 [v0, v1, v2] (.inr (.inr (.inl (rfN r 2))) :: st) I J) := (ge (A := (39, 12, 10, 2, 0)) rfl).trans (gref (f := fun q => GO x d 151 Q 12 [v0, v1, v2] (.inr (.inr (.inl q)) :: st) I J))
set_option maxRecDepth 10000 in
theorem g_151_12 : GO x d 151 Q 12 [v0, v1, v2] st I J = GO x d 151 Q 14 [v0, v1, v2] (.inl (29) :: st) I J := ge (A := (0, 14, 0, 0, 29)) rfl
set_option maxRecDepth 10000 in
theorem g_151_14 : GO x d 151 Q 14 [v0, v1, some (.inl a)] st I J = GO x d 151 Q 15 [v0, v1, some (.inl a)] (.inl a :: st) I J := ge (A := (1, 15, 2, 0, 0)) rfl
set_option maxRecDepth 10000 in
theorem g_151_15 : GO x d 151 Q 15 [v0, v1, v2] (.inl b :: .inl a :: st) I J = GO x d 151 Q 16 [v0, v1, v2] (.inl (a + b) :: st) I J := ge (A := (8, 16, 0, 0, 0)) rfl
set_option maxRecDepth 10000 in
theorem g_151_16 : GO x d 151 Q 16 [some (.inr (.inr w)), v1, v2] st I J = GO x d 151 Q 17 [some (.inr (.inr w)), v1, v2] (.inr (.inr w) :: st) I J := ge (A := (2, 17, 0, 0, 0)) rfl
set_option maxRecDepth 10000 in
theorem g_151_17 : GO x d 151 Q 17 [v0, v1, v2] (.inr (.inr (.inl r)) :: st) I J = (okF r 10 21 ∧ GO x d 151 Q 20 [v0, v1, v2] (.inr (.inr (.inl (rfN r 21))) :: st) I J) := (ge (A := (39, 20, 10, 21, 0)) rfl).trans (gref (f := fun q => GO x d 151 Q 20 [v0, v1, v2] (.inr (.inr (.inl q)) :: st) I J))
set_option maxRecDepth 10000 in
theorem g_151_20 : GO x d 151 Q 20 [v0, v1, v2] st I J = GO x d 151 Q 22 [v0, v1, v2] (.inl (24) :: st) I J := ge (A := (0, 22, 0, 0, 24)) rfl
set_option maxRecDepth 10000 in
theorem g_151_22 : GO x d 151 Q 22 [v0, some (.inl a), v2] st I J = GO x d 151 Q 23 [v0, some (.inl a), v2] (.inl a :: st) I J := ge (A := (1, 23, 1, 0, 0)) rfl
set_option maxRecDepth 10000 in
theorem g_151_23 : GO x d 151 Q 23 [v0, v1, v2] (.inl b :: .inl a :: st) I J = GO x d 151 Q 24 [v0, v1, v2] (.inl (a * b) :: st) I J := ge (A := (10, 24, 0, 0, 0)) rfl
set_option maxRecDepth 10000 in
theorem g_151_24 : GO x d 151 Q 24 [v0, v1, some (.inl a)] st I J = GO x d 151 Q 25 [v0, v1, some (.inl a)] (.inl a :: st) I J := ge (A := (1, 25, 2, 0, 0)) rfl
set_option maxRecDepth 10000 in
theorem g_151_25 : GO x d 151 Q 25 [v0, v1, v2] (.inl b :: .inl a :: st) I J = GO x d 151 Q 26 [v0, v1, v2] (.inl (a + b) :: st) I J := ge (A := (8, 26, 0, 0, 0)) rfl
set_option maxRecDepth 10000 in
theorem h_151_26 : GO x d 151 Q 26 [v0, v1, v2] (.inl a :: .inr (.inr (.inr q)) :: st) I J = (q < 4 ∧ 0 ≤ a ∧ a < (roA x q).1 ∧ GO x d 151 Q 27 [v0, v1, v2] (.inl ((roA x q).2 a.toNat) :: st) I J) := ge (A := (44, 27, 0, 0, 0)) rfl
set_option maxRecDepth 10000 in
theorem g_151_26 : GO x d 151 Q 26 [v0, v1, v2] (.inl a :: .inr (.inr (.inl r)) :: st) I J = (okA r 20 ∧ 0 ≤ a ∧ a < lnN r ∧ GO x d 151 Q 27 [v0, v1, v2] (.inl (I r a) :: st) I J) := ge (A := (44, 27, 0, 0, 0)) rfl
set_option maxRecDepth 10000 in
theorem g_151_27 : GO x d 151 Q 27 [v0, v1, v2] (.inl b :: .inl a :: .inr (.inr (.inl r)) :: st) I J = (okA r 20 ∧ 0 ≤ a ∧ a < lnN r ∧ GO x d 151 Q 28 [v0, v1, v2] st (up I r a b) J) := ge (A := (45, 28, 0, 0, 0)) rfl
set_option maxRecDepth 10000 in
theorem g_151_28 : GO x d 151 Q 28 [v0, v1, some (.inl a)] st I J = (nlO (some v1) = true ∧ GO x d 151 Q 31 [v0, v1, some (.inl (a + (1)))] st I J) := ge (A := (7, 31, 2, 0, 1)) rfl
set_option maxRecDepth 10000 in
theorem g_151_31 : GO x d 151 Q 31 [v0, v1, v2] st I J = GO x d 151 Q 2 [v0, v1, v2] st I J := ge (A := (35, 34, 2, 0, 0)) rfl
set_option maxRecDepth 10000 in
theorem g_151_34 : GO x d 151 Q 34 [v0, v1, v2] [] I J = Q none I J := ge (A := (57, 35, 0, 0, 0)) rfl
set_option maxRecDepth 10000 in
theorem e_151 : EX x (d + 1) 151 [.inr (.inr w0), .inl i0] I J Q = GO x d 151 Q 0 [some (.inr (.inr w0)), some (.inl i0), none] [] I J := ex_eq (Nat.le_of_ble_eq_true rfl) rfl (Nat.le_of_ble_eq_true rfl) rfl
set_option maxRecDepth 10000 in
theorem g_152_0 : GO x d 152 Q 0 [v0, v1, v2] st I J = GO x d 152 Q 1 [v0, v1, v2] (.inl (0) :: st) I J := ge (A := (0, 1, 0, 0, 0)) rfl
set_option maxRecDepth 10000 in
theorem g_152_1 : GO x d 152 Q 1 [v0, v1, v2] (.inl a :: st) I J = (nlO (some v0) = true ∧ GO x d 152 Q 2 [v0, some (.inl a), v2] st I J) := (ge (A := (4, 2, 1, 0, 0)) rfl).trans (gst (Nat.le_of_ble_eq_true rfl) _)
set_option maxRecDepth 10000 in
theorem g_152_2 : GO x d 152 Q 2 [v0, v1, v2] st I J = GO x d 152 Q 3 [v0, v1, v2] (.inl (0) :: st) I J := ge (A := (0, 3, 0, 0, 0)) rfl
set_option maxRecDepth 10000 in
theorem g_152_3 : GO x d 152 Q 3 [v0, v1, v2] (.inl a :: st) I J = (nlO (some v1) = true ∧ GO x d 152 Q 4 [v0, v1, some (.inl a)] st I J) := (ge (A := (4, 4, 2, 0, 0)) rfl).trans (gst (Nat.le_of_ble_eq_true rfl) _)
set_option maxRecDepth 10000 in
theorem g_152_4 : GO x d 152 Q 4 [v0, v1, some (.inl a)] st I J = GO x d 152 Q 5 [v0, v1, some (.inl a)] (.inl a :: st) I J := ge (A := (1, 5, 2, 0, 0)) rfl
set_option maxRecDepth 10000 in
theorem g_152_5 : GO x d 152 Q 5 [some (.inr (.inr w)), v1, v2] st I J = GO x d 152 Q 6 [some (.inr (.inr w)), v1, v2] (.inr (.inr w) :: st) I J := ge (A := (2, 6, 0, 0, 0)) rfl
set_option maxRecDepth 10000 in
theorem g_152_6 : GO x d 152 Q 6 [v0, v1, v2] (.inr (.inr (.inl r)) :: st) I J = (okF r 10 2 ∧ GO x d 152 Q 9 [v0, v1, v2] (.inr (.inr (.inl (rfN r 2))) :: st) I J) := (ge (A := (39, 9, 10, 2, 0)) rfl).trans (gref (f := fun q => GO x d 152 Q 9 [v0, v1, v2] (.inr (.inr (.inl q)) :: st) I J))
set_option maxRecDepth 10000 in
theorem g_152_9 : GO x d 152 Q 9 [v0, v1, v2] st I J = GO x d 152 Q 10 [v0, v1, v2] (.inl (2) :: st) I J := ge (A := (0, 10, 0, 0, 2)) rfl
set_option maxRecDepth 10000 in
theorem h_152_10 : GO x d 152 Q 10 [v0, v1, v2] (.inl a :: .inr (.inr (.inr q)) :: st) I J = (q < 4 ∧ 0 ≤ a ∧ a < (roA x q).1 ∧ GO x d 152 Q 11 [v0, v1, v2] (.inl ((roA x q).2 a.toNat) :: st) I J) := ge (A := (44, 11, 0, 0, 0)) rfl
set_option maxRecDepth 10000 in
theorem g_152_10 : GO x d 152 Q 10 [v0, v1, v2] (.inl a :: .inr (.inr (.inl r)) :: st) I J = (okA r 20 ∧ 0 ≤ a ∧ a < lnN r ∧ GO x d 152 Q 11 [v0, v1, v2] (.inl (I r a) :: st) I J) := ge (A := (44, 11, 0, 0, 0)) rfl
set_option maxRecDepth 10000 in
theorem g_152_11 : GO x d 152 Q 11 [v0, v1, v2] (.inl b :: .inl a :: st) I J = (inR a ∧ inR b ∧ if a < b then GO x d 152 Q 14 [v0, v1, v2] st I J else GO x d 152 Q 36 [v0, v1, v2] st I J) := (ge (A := (34, 14, 36, 3, 0)) rfl).trans (ggec)
set_option maxRecDepth 10000 in
theorem g_152_14 : GO x d 152 Q 14 [v0, some (.inl a), v2] st I J = GO x d 152 Q 15 [v0, some (.inl a), v2] (.inl a :: st) I J := ge (A := (1, 15, 1, 0, 0)) rfl
set_option maxRecDepth 10000 in
theorem g_152_15 : GO x d 152 Q 15 [some (.inr (.inr w)), v1, v2] st I J = GO x d 152 Q 16 [some (.inr (.inr w)), v1, v2] (.inr (.inr w) :: st) I J := ge (A := (2, 16, 0, 0, 0)) rfl
set_option maxRecDepth 10000 in
theorem g_152_16 : GO x d 152 Q 16 [v0, v1, some (.inl a)] st I J = GO x d 152 Q 17 [v0, v1, some (.inl a)] (.inl a :: st) I J := ge (A := (1, 17, 2, 0, 0)) rfl
set_option maxRecDepth 10000 in
theorem g_152_17 : GO x d 152 Q 17 [v0, v1, v2] [.inl i0, .inr (.inr (.inl r)), .inl i1] I J = (okO r 10 ∧ EX x d 136 [.inr (.inr (.inl r)), .inl i0] I J (fun r1 I1 J1 => GO x d 152 Q 20 [v0, v1, v2] (r1.toList ++ [.inl i1]) I1 J1)) := (ge (A := (53, 20, 136, 1, 0)) rfl).trans (gtrue (Nat.le_of_ble_eq_true rfl))
set_option maxRecDepth 10000 in
theorem g_152_20 : GO x d 152 Q 20 [v0, v1, v2] (.inl a :: st) I J = (inR a ∧ if a = 0 then GO x d 152 Q 27 [v0, v1, v2] st I J else GO x d 152 Q 23 [v0, v1, v2] st I J) := (ge (A := (33, 23, 27, 0, 0)) rfl).trans (gif (p := a = 0) inferInstance)
set_option maxRecDepth 10000 in
theorem g_152_23 : GO x d 152 Q 23 [v0, v1, v2] st I J = GO x d 152 Q 24 [v0, v1, v2] (.inl (0) :: st) I J := ge (A := (0, 24, 0, 0, 0)) rfl
set_option maxRecDepth 10000 in
theorem g_152_24 : GO x d 152 Q 24 [v0, v1, v2] st I J = GO x d 152 Q 28 [v0, v1, v2] st I J := ge (A := (35, 27, 28, 0, 0)) rfl
set_option maxRecDepth 10000 in
theorem g_152_27 : GO x d 152 Q 27 [v0, v1, v2] st I J = GO x d 152 Q 28 [v0, v1, v2] (.inl (1) :: st) I J := ge (A := (0, 28, 0, 0, 1)) rfl
set_option maxRecDepth 10000 in
theorem g_152_28 : GO x d 152 Q 28 [v0, v1, v2] (.inl b :: .inl a :: st) I J = GO x d 152 Q 29 [v0, v1, v2] (.inl (a + b) :: st) I J := ge (A := (8, 29, 0, 0, 0)) rfl
set_option maxRecDepth 10000 in
theorem g_152_29 : GO x d 152 Q 29 [v0, v1, v2] (.inl a :: st) I J = (nlO (some v0) = true ∧ GO x d 152 Q 30 [v0, some (.inl a), v2] st I J) := (ge (A := (4, 30, 1, 0, 0)) rfl).trans (gst (Nat.le_of_ble_eq_true rfl) _)
set_option maxRecDepth 10000 in
theorem g_152_30 : GO x d 152 Q 30 [v0, v1, some (.inl a)] st I J = (nlO (some v1) = true ∧ GO x d 152 Q 33 [v0, v1, some (.inl (a + (1)))] st I J) := ge (A := (7, 33, 2, 0, 1)) rfl
set_option maxRecDepth 10000 in
theorem g_152_33 : GO x d 152 Q 33 [v0, v1, v2] st I J = GO x d 152 Q 4 [v0, v1, v2] st I J := ge (A := (35, 36, 4, 0, 0)) rfl
set_option maxRecDepth 10000 in
theorem g_152_36 : GO x d 152 Q 36 [v0, some (.inl a), v2] st I J = GO x d 152 Q 37 [v0, some (.inl a), v2] (.inl a :: st) I J := ge (A := (1, 37, 1, 0, 0)) rfl
set_option maxRecDepth 10000 in
theorem g_152_37 : GO x d 152 Q 37 [v0, v1, v2] [.inl a] I J = Q (some (.inl a)) I J := ge (A := (55, 38, 0, 0, 0)) rfl
set_option maxRecDepth 10000 in
theorem e_152 : EX x (d + 1) 152 [.inr (.inr w0)] I J Q = GO x d 152 Q 0 [some (.inr (.inr w0)), none, none] [] I J := ex_eq (Nat.le_of_ble_eq_true rfl) rfl (Nat.le_of_ble_eq_true rfl) rfl
set_option maxRecDepth 10000 in
theorem g_153_0 : GO x d 153 Q 0 [v0, some (.inl a), v2, v3] st I J = GO x d 153 Q 1 [v0, some (.inl a), v2, v3] (.inl a :: st) I J := ge (A := (1, 1, 1, 0, 0)) rfl
set_option maxRecDepth 10000 in
theorem g_153_1 : GO x d 153 Q 1 [v0, v1, v2, v3] st I J = GO x d 153 Q 3 [v0, v1, v2, v3] (.inl (16) :: st) I J := ge (A := (0, 3, 0, 0, 16)) rfl
set_option maxRecDepth 10000 in
theorem g_153_3 : GO x d 153 Q 3 [v0, v1, v2, v3] (.inl b :: .inl a :: st) I J = (inR b ∧ ¬ b = 0 ∧ GO x d 153 Q 4 [v0, v1, v2, v3] (.inl (divI a b) :: st) I J) := ge (A := (17, 4, 0, 0, 0)) rfl
set_option maxRecDepth 10000 in
theorem g_153_4 : GO x d 153 Q 4 [v0, v1, v2, v3] (.inl a :: st) I J = (nlO (some v1) = true ∧ GO x d 153 Q 5 [v0, v1, some (.inl a), v3] st I J) := (ge (A := (4, 5, 2, 0, 0)) rfl).trans (gst (Nat.le_of_ble_eq_true rfl) _)
set_option maxRecDepth 10000 in
theorem g_153_5 : GO x d 153 Q 5 [v0, some (.inl a), v2, v3] st I J = GO x d 153 Q 6 [v0, some (.inl a), v2, v3] (.inl a :: st) I J := ge (A := (1, 6, 1, 0, 0)) rfl
set_option maxRecDepth 10000 in
theorem g_153_6 : GO x d 153 Q 6 [v0, v1, v2, v3] st I J = GO x d 153 Q 8 [v0, v1, v2, v3] (.inl (16) :: st) I J := ge (A := (0, 8, 0, 0, 16)) rfl
set_option maxRecDepth 10000 in
theorem g_153_8 : GO x d 153 Q 8 [v0, v1, v2, v3] (.inl b :: .inl a :: st) I J = (inR b ∧ ¬ b = 0 ∧ GO x d 153 Q 9 [v0, v1, v2, v3] (.inl (remI a b) :: st) I J) := ge (A := (18, 9, 0, 0, 0)) rfl
set_option maxRecDepth 10000 in
theorem g_153_9 : GO x d 153 Q 9 [v0, v1, v2, v3] (.inl a :: st) I J = (nlO (some v2) = true ∧ GO x d 153 Q 10 [v0, v1, v2, some (.inl a)] st I J) := (ge (A := (4, 10, 3, 0, 0)) rfl).trans (gst (Nat.le_of_ble_eq_true rfl) _)
set_option maxRecDepth 10000 in
theorem g_153_10 : GO x d 153 Q 10 [v0, v1, v2, some (.inl a)] st I J = GO x d 153 Q 11 [v0, v1, v2, some (.inl a)] (.inl a :: st) I J := ge (A := (1, 11, 3, 0, 0)) rfl
set_option maxRecDepth 10000 in
theorem g_153_11 : GO x d 153 Q 11 [v0, v1, v2, v3] st I J = GO x d 153 Q 13 [v0, v1, v2, v3] (.inl (8) :: st) I J := ge (A := (0, 13, 0, 0, 8)) rfl
set_option maxRecDepth 10000 in
theorem g_153_13 : GO x d 153 Q 13 [v0, v1, v2, v3] (.inl b :: .inl a :: st) I J = (inR a ∧ inR b ∧ if a = b then GO x d 153 Q 16 [v0, v1, v2, v3] st I J else GO x d 153 Q 42 [v0, v1, v2, v3] st I J) := (ge (A := (34, 16, 42, 1, 0)) rfl).trans (gicn (p := a = b) inferInstance)
set_option maxRecDepth 10000 in
theorem g_153_16 : GO x d 153 Q 16 [some (.inr (.inr w)), v1, v2, v3] st I J = GO x d 153 Q 17 [some (.inr (.inr w)), v1, v2, v3] (.inr (.inr w) :: st) I J := ge (A := (2, 17, 0, 0, 0)) rfl
set_option maxRecDepth 10000 in
theorem g_153_17 : GO x d 153 Q 17 [v0, v1, some (.inl a), v3] st I J = GO x d 153 Q 18 [v0, v1, some (.inl a), v3] (.inl a :: st) I J := ge (A := (1, 18, 2, 0, 0)) rfl
set_option maxRecDepth 10000 in
theorem g_153_18 : GO x d 153 Q 18 [v0, v1, v2, v3] [.inl i0, .inr (.inr (.inl r))] I J = (okO r 10 ∧ EX x d 136 [.inr (.inr (.inl r)), .inl i0] I J (fun r1 I1 J1 => GO x d 153 Q 21 [v0, v1, v2, v3] (r1.toList ++ []) I1 J1)) := (ge (A := (53, 21, 136, 1, 0)) rfl).trans (gtrue (Nat.le_of_ble_eq_true rfl))
set_option maxRecDepth 10000 in
theorem g_153_21 : GO x d 153 Q 21 [v0, v1, v2, v3] (.inl a :: st) I J = (inR a ∧ if a = 0 then GO x d 153 Q 24 [v0, v1, v2, v3] st I J else GO x d 153 Q 38 [v0, v1, v2, v3] st I J) := (ge (A := (33, 24, 38, 1, 0)) rfl).trans (gifn (p := a = 0) inferInstance)
set_option maxRecDepth 10000 in
theorem g_153_24 : GO x d 153 Q 24 [some (.inr (.inr w)), v1, v2, v3] st I J = GO x d 153 Q 25 [some (.inr (.inr w)), v1, v2, v3] (.inr (.inr w) :: st) I J := ge (A := (2, 25, 0, 0, 0)) rfl
set_option maxRecDepth 10000 in
theorem g_153_25 : GO x d 153 Q 25 [v0, v1, v2, v3] (.inr (.inr (.inl r)) :: st) I J = (okF r 10 2 ∧ GO x d 153 Q 28 [v0, v1, v2, v3] (.inr (.inr (.inl (rfN r 2))) :: st) I J) := (ge (A := (39, 28, 10, 2, 0)) rfl).trans (gref (f := fun q => GO x d 153 Q 28 [v0, v1, v2, v3] (.inr (.inr (.inl q)) :: st) I J))
set_option maxRecDepth 10000 in
theorem g_153_28 : GO x d 153 Q 28 [v0, v1, v2, v3] st I J = GO x d 153 Q 30 [v0, v1, v2, v3] (.inl (31) :: st) I J := ge (A := (0, 30, 0, 0, 31)) rfl
set_option maxRecDepth 10000 in
theorem h_153_30 : GO x d 153 Q 30 [v0, v1, v2, v3] (.inl a :: .inr (.inr (.inr q)) :: st) I J = (q < 4 ∧ 0 ≤ a ∧ a < (roA x q).1 ∧ GO x d 153 Q 31 [v0, v1, v2, v3] (.inl ((roA x q).2 a.toNat) :: st) I J) := ge (A := (44, 31, 0, 0, 0)) rfl
set_option maxRecDepth 10000 in
theorem g_153_30 : GO x d 153 Q 30 [v0, v1, v2, v3] (.inl a :: .inr (.inr (.inl r)) :: st) I J = (okA r 20 ∧ 0 ≤ a ∧ a < lnN r ∧ GO x d 153 Q 31 [v0, v1, v2, v3] (.inl (I r a) :: st) I J) := ge (A := (44, 31, 0, 0, 0)) rfl
set_option maxRecDepth 10000 in
theorem g_153_31 : GO x d 153 Q 31 [v0, v1, v2, v3] (.inl a :: st) I J = (inR a ∧ if 0 < a then GO x d 153 Q 34 [v0, v1, v2, v3] st I J else GO x d 153 Q 38 [v0, v1, v2, v3] st I J) := (ge (A := (33, 34, 38, 5, 0)) rfl).trans (gge)
set_option maxRecDepth 10000 in
theorem g_153_34 : GO x d 153 Q 34 [v0, v1, v2, v3] st I J = GO x d 153 Q 35 [v0, v1, v2, v3] (.inl (1) :: st) I J := ge (A := (0, 35, 0, 0, 1)) rfl
set_option maxRecDepth 10000 in
theorem g_153_35 : GO x d 153 Q 35 [v0, v1, v2, v3] st I J = GO x d 153 Q 64 [v0, v1, v2, v3] st I J := ge (A := (35, 38, 64, 0, 0)) rfl
set_option maxRecDepth 10000 in
theorem g_153_38 : GO x d 153 Q 38 [v0, v1, v2, v3] st I J = GO x d 153 Q 39 [v0, v1, v2, v3] (.inl (0) :: st) I J := ge (A := (0, 39, 0, 0, 0)) rfl
set_option maxRecDepth 10000 in
theorem g_153_39 : GO x d 153 Q 39 [v0, v1, v2, v3] st I J = GO x d 153 Q 64 [v0, v1, v2, v3] st I J := ge (A := (35, 42, 64, 0, 0)) rfl
set_option maxRecDepth 10000 in
theorem g_153_42 : GO x d 153 Q 42 [some (.inr (.inr w)), v1, v2, v3] st I J = GO x d 153 Q 43 [some (.inr (.inr w)), v1, v2, v3] (.inr (.inr w) :: st) I J := ge (A := (2, 43, 0, 0, 0)) rfl
set_option maxRecDepth 10000 in
theorem g_153_43 : GO x d 153 Q 43 [v0, v1, v2, some (.inl a)] st I J = GO x d 153 Q 44 [v0, v1, v2, some (.inl a)] (.inl a :: st) I J := ge (A := (1, 44, 3, 0, 0)) rfl
set_option maxRecDepth 10000 in
theorem g_153_44 : GO x d 153 Q 44 [v0, v1, v2, v3] [.inl i0, .inr (.inr (.inl r))] I J = (okO r 10 ∧ EX x d 111 [.inr (.inr (.inl r)), .inl i0] I J (fun r1 I1 J1 => GO x d 153 Q 47 [v0, v1, v2, v3] (r1.toList ++ []) I1 J1)) := (ge (A := (53, 47, 111, 1, 0)) rfl).trans (gtrue (Nat.le_of_ble_eq_true rfl))
set_option maxRecDepth 10000 in
theorem g_153_47 : GO x d 153 Q 47 [v0, v1, v2, v3] (.inl a :: st) I J = (inR a ∧ if a = 0 then GO x d 153 Q 63 [v0, v1, v2, v3] st I J else GO x d 153 Q 50 [v0, v1, v2, v3] st I J) := (ge (A := (33, 50, 63, 0, 0)) rfl).trans (gif (p := a = 0) inferInstance)
set_option maxRecDepth 10000 in
theorem g_153_50 : GO x d 153 Q 50 [some (.inr (.inr w)), v1, v2, v3] st I J = GO x d 153 Q 51 [some (.inr (.inr w)), v1, v2, v3] (.inr (.inr w) :: st) I J := ge (A := (2, 51, 0, 0, 0)) rfl
set_option maxRecDepth 10000 in
theorem g_153_51 : GO x d 153 Q 51 [v0, v1, some (.inl a), v3] st I J = GO x d 153 Q 52 [v0, v1, some (.inl a), v3] (.inl a :: st) I J := ge (A := (1, 52, 2, 0, 0)) rfl
set_option maxRecDepth 10000 in
theorem g_153_52 : GO x d 153 Q 52 [v0, v1, v2, some (.inl a)] st I J = GO x d 153 Q 53 [v0, v1, v2, some (.inl a)] (.inl a :: st) I J := ge (A := (1, 53, 3, 0, 0)) rfl
set_option maxRecDepth 10000 in
theorem g_153_53 : GO x d 153 Q 53 [v0, v1, v2, v3] [.inl i0, .inl i1, .inr (.inr (.inl r))] I J = (okO r 10 ∧ EX x d 138 [.inr (.inr (.inl r)), .inl i1, .inl i0] I J (fun r1 I1 J1 => GO x d 153 Q 56 [v0, v1, v2, v3] (r1.toList ++ []) I1 J1)) := (ge (A := (53, 56, 138, 2, 0)) rfl).trans (gtrue (Nat.le_of_ble_eq_true rfl))
set_option maxRecDepth 10000 in
theorem g_153_56 : GO x d 153 Q 56 [v0, v1, v2, v3] (.inl a :: st) I J = (inR a ∧ if a = 0 then GO x d 153 Q 63 [v0, v1, v2, v3] st I J else GO x d 153 Q 59 [v0, v1, v2, v3] st I J) := (ge (A := (33, 59, 63, 0, 0)) rfl).trans (gif (p := a = 0) inferInstance)
set_option maxRecDepth 10000 in
theorem g_153_59 : GO x d 153 Q 59 [v0, v1, v2, v3] st I J = GO x d 153 Q 60 [v0, v1, v2, v3] (.inl (1) :: st) I J := ge (A := (0, 60, 0, 0, 1)) rfl
set_option maxRecDepth 10000 in
theorem g_153_60 : GO x d 153 Q 60 [v0, v1, v2, v3] st I J = GO x d 153 Q 64 [v0, v1, v2, v3] st I J := ge (A := (35, 63, 64, 0, 0)) rfl
set_option maxRecDepth 10000 in
theorem g_153_63 : GO x d 153 Q 63 [v0, v1, v2, v3] st I J = GO x d 153 Q 64 [v0, v1, v2, v3] (.inl (0) :: st) I J := ge (A := (0, 64, 0, 0, 0)) rfl
set_option maxRecDepth 10000 in
theorem g_153_64 : GO x d 153 Q 64 [v0, v1, v2, v3] [.inl a] I J = (ret01 a ∧ Q (some (.inl a)) I J) := ge (A := (56, 65, 0, 0, 0)) rfl
set_option maxRecDepth 10000 in
theorem e_153 : EX x (d + 1) 153 [.inr (.inr w0), .inl i0] I J Q = GO x d 153 Q 0 [some (.inr (.inr w0)), some (.inl i0), none, none] [] I J := ex_eq (Nat.le_of_ble_eq_true rfl) rfl (Nat.le_of_ble_eq_true rfl) rfl
set_option maxRecDepth 10000 in
theorem g_154_0 : GO x d 154 Q 0 [some (.inr (.inr w)), v1, v2, v3, v4] st I J = GO x d 154 Q 1 [some (.inr (.inr w)), v1, v2, v3, v4] (.inr (.inr w) :: st) I J := ge (A := (2, 1, 0, 0, 0)) rfl
set_option maxRecDepth 10000 in
theorem g_154_1 : GO x d 154 Q 1 [v0, v1, v2, v3, v4] [.inr (.inr (.inl r))] I J = (okO r 10 ∧ EX x d 152 [.inr (.inr (.inl r))] I J (fun r1 I1 J1 => GO x d 154 Q 4 [v0, v1, v2, v3, v4] (r1.toList ++ []) I1 J1)) := (ge (A := (53, 4, 152, 0, 0)) rfl).trans (gtrue (Nat.le_of_ble_eq_true rfl))
set_option maxRecDepth 10000 in
theorem g_154_4 : GO x d 154 Q 4 [v0, v1, v2, v3, v4] (.inl a :: st) I J = (nlO (some v0) = true ∧ GO x d 154 Q 5 [v0, some (.inl a), v2, v3, v4] st I J) := (ge (A := (4, 5, 1, 0, 0)) rfl).trans (gst (Nat.le_of_ble_eq_true rfl) _)
set_option maxRecDepth 10000 in
theorem g_154_5 : GO x d 154 Q 5 [some (.inr (.inr w)), v1, v2, v3, v4] st I J = GO x d 154 Q 6 [some (.inr (.inr w)), v1, v2, v3, v4] (.inr (.inr w) :: st) I J := ge (A := (2, 6, 0, 0, 0)) rfl
set_option maxRecDepth 10000 in
theorem g_154_6 : GO x d 154 Q 6 [v0, some (.inl a), v2, v3, v4] st I J = GO x d 154 Q 7 [v0, some (.inl a), v2, v3, v4] (.inl a :: st) I J := ge (A := (1, 7, 1, 0, 0)) rfl
set_option maxRecDepth 10000 in
theorem g_154_7 : GO x d 154 Q 7 [v0, v1, v2, v3, v4] (.inl a :: st) I J = (inR a ∧ if a = 0 then GO x d 154 Q 10 [v0, v1, v2, v3, v4] st I J else GO x d 154 Q 20 [v0, v1, v2, v3, v4] st I J) := (ge (A := (33, 10, 20, 1, 0)) rfl).trans (gifn (p := a = 0) inferInstance)
set_option maxRecDepth 10000 in
theorem g_154_10 : GO x d 154 Q 10 [some (.inr (.inr w)), v1, v2, v3, v4] st I J = GO x d 154 Q 11 [some (.inr (.inr w)), v1, v2, v3, v4] (.inr (.inr w) :: st) I J := ge (A := (2, 11, 0, 0, 0)) rfl
set_option maxRecDepth 10000 in
theorem g_154_11 : GO x d 154 Q 11 [v0, v1, v2, v3, v4] (.inr (.inr (.inl r)) :: st) I J = (okF r 10 2 ∧ GO x d 154 Q 14 [v0, v1, v2, v3, v4] (.inr (.inr (.inl (rfN r 2))) :: st) I J) := (ge (A := (39, 14, 10, 2, 0)) rfl).trans (gref (f := fun q => GO x d 154 Q 14 [v0, v1, v2, v3, v4] (.inr (.inr (.inl q)) :: st) I J))
set_option maxRecDepth 10000 in
theorem g_154_14 : GO x d 154 Q 14 [v0, v1, v2, v3, v4] st I J = GO x d 154 Q 16 [v0, v1, v2, v3, v4] (.inl (29) :: st) I J := ge (A := (0, 16, 0, 0, 29)) rfl
set_option maxRecDepth 10000 in
theorem h_154_16 : GO x d 154 Q 16 [v0, v1, v2, v3, v4] (.inl a :: .inr (.inr (.inr q)) :: st) I J = (q < 4 ∧ 0 ≤ a ∧ a < (roA x q).1 ∧ GO x d 154 Q 17 [v0, v1, v2, v3, v4] (.inl ((roA x q).2 a.toNat) :: st) I J) := ge (A := (44, 17, 0, 0, 0)) rfl
set_option maxRecDepth 10000 in
theorem g_154_16 : GO x d 154 Q 16 [v0, v1, v2, v3, v4] (.inl a :: .inr (.inr (.inl r)) :: st) I J = (okA r 20 ∧ 0 ≤ a ∧ a < lnN r ∧ GO x d 154 Q 17 [v0, v1, v2, v3, v4] (.inl (I r a) :: st) I J) := ge (A := (44, 17, 0, 0, 0)) rfl
set_option maxRecDepth 10000 in
theorem g_154_17 : GO x d 154 Q 17 [v0, v1, v2, v3, v4] st I J = GO x d 154 Q 22 [v0, v1, v2, v3, v4] st I J := ge (A := (35, 20, 22, 0, 0)) rfl
set_option maxRecDepth 10000 in
theorem g_154_20 : GO x d 154 Q 20 [v0, v1, v2, v3, v4] st I J = GO x d 154 Q 22 [v0, v1, v2, v3, v4] (.inl (-1000000) :: st) I J := ge (A := (0, 22, 0, 0, -1000000)) rfl
set_option maxRecDepth 10000 in
theorem g_154_22 : GO x d 154 Q 22 [v0, v1, v2, v3, v4] (.inl a :: .inr (.inr (.inl r)) :: st) I J = (okO r 10 ∧ GO x d 154 Q 25 [v0, v1, v2, v3, v4] st (up I r 24 a) J) := ge (A := (40, 25, 10, 24, 0)) rfl
set_option maxRecDepth 10000 in
theorem g_154_25 : GO x d 154 Q 25 [some (.inr (.inr w)), v1, v2, v3, v4] st I J = GO x d 154 Q 26 [some (.inr (.inr w)), v1, v2, v3, v4] (.inr (.inr w) :: st) I J := ge (A := (2, 26, 0, 0, 0)) rfl
set_option maxRecDepth 10000 in
theorem g_154_26 : GO x d 154 Q 26 [v0, v1, v2, v3, v4] st I J = GO x d 154 Q 27 [v0, v1, v2, v3, v4] (.inl (0) :: st) I J := ge (A := (0, 27, 0, 0, 0)) rfl
set_option maxRecDepth 10000 in
theorem g_154_27 : GO x d 154 Q 27 [v0, v1, v2, v3, v4] [.inl i0, .inr (.inr (.inl r))] I J = (okO r 10 ∧ EX x d 150 [.inr (.inr (.inl r)), .inl i0] I J (fun r1 I1 J1 => GO x d 154 Q 30 [v0, v1, v2, v3, v4] (r1.toList ++ []) I1 J1)) := (ge (A := (53, 30, 150, 1, 0)) rfl).trans (gtrue (Nat.le_of_ble_eq_true rfl))
set_option maxRecDepth 10000 in
theorem g_154_30 : GO x d 154 Q 30 [v0, some (.inl a), v2, v3, v4] st I J = GO x d 154 Q 31 [v0, some (.inl a), v2, v3, v4] (.inl a :: st) I J := ge (A := (1, 31, 1, 0, 0)) rfl
set_option maxRecDepth 10000 in
theorem g_154_31 : GO x d 154 Q 31 [v0, v1, v2, v3, v4] (.inl a :: st) I J = (inR a ∧ if a = 0 then GO x d 154 Q 34 [v0, v1, v2, v3, v4] st I J else GO x d 154 Q 38 [v0, v1, v2, v3, v4] st I J) := (ge (A := (33, 34, 38, 1, 0)) rfl).trans (gifn (p := a = 0) inferInstance)
set_option maxRecDepth 10000 in
theorem g_154_34 : GO x d 154 Q 34 [v0, v1, v2, v3, v4] st I J = GO x d 154 Q 35 [v0, v1, v2, v3, v4] (.inl (-1) :: st) I J := ge (A := (0, 35, 0, 0, -1)) rfl
set_option maxRecDepth 10000 in
theorem g_154_35 : GO x d 154 Q 35 [v0, v1, v2, v3, v4] st I J = GO x d 154 Q 39 [v0, v1, v2, v3, v4] st I J := ge (A := (35, 38, 39, 0, 0)) rfl
set_option maxRecDepth 10000 in
theorem g_154_38 : GO x d 154 Q 38 [v0, v1, v2, v3, v4] st I J = GO x d 154 Q 39 [v0, v1, v2, v3, v4] (.inl (0) :: st) I J := ge (A := (0, 39, 0, 0, 0)) rfl
set_option maxRecDepth 10000 in
theorem g_154_39 : GO x d 154 Q 39 [v0, v1, v2, v3, v4] (.inl a :: st) I J = (nlO (some v1) = true ∧ GO x d 154 Q 40 [v0, v1, some (.inl a), v3, v4] st I J) := (ge (A := (4, 40, 2, 0, 0)) rfl).trans (gst (Nat.le_of_ble_eq_true rfl) _)
set_option maxRecDepth 10000 in
theorem g_154_40 : GO x d 154 Q 40 [some (.inr (.inr w)), v1, v2, v3, v4] st I J = GO x d 154 Q 41 [some (.inr (.inr w)), v1, v2, v3, v4] (.inr (.inr w) :: st) I J := ge (A := (2, 41, 0, 0, 0)) rfl
set_option maxRecDepth 10000 in
theorem g_154_41 : GO x d 154 Q 41 [v0, v1, v2, v3, v4] (.inr (.inr (.inl r)) :: st) I J = (okF r 10 22 ∧ GO x d 154 Q 44 [v0, v1, v2, v3, v4] (.inr (.inr (.inl (rfN r 22))) :: st) I J) := (ge (A := (39, 44, 10, 22, 0)) rfl).trans (gref (f := fun q => GO x d 154 Q 44 [v0, v1, v2, v3, v4] (.inr (.inr (.inl q)) :: st) I J))
set_option maxRecDepth 10000 in
theorem g_154_44 : GO x d 154 Q 44 [v0, v1, v2, v3, v4] st I J = GO x d 154 Q 45 [v0, v1, v2, v3, v4] (.inl (0) :: st) I J := ge (A := (0, 45, 0, 0, 0)) rfl
set_option maxRecDepth 10000 in
theorem g_154_45 : GO x d 154 Q 45 [v0, v1, v2, v3, v4] st I J = GO x d 154 Q 46 [v0, v1, v2, v3, v4] (.inl (-1) :: st) I J := ge (A := (0, 46, 0, 0, -1)) rfl
set_option maxRecDepth 10000 in
theorem g_154_46 : GO x d 154 Q 46 [v0, v1, v2, v3, v4] (.inl b :: .inl a :: .inr (.inr (.inl r)) :: st) I J = (okA r 20 ∧ 0 ≤ a ∧ a < lnN r ∧ GO x d 154 Q 47 [v0, v1, v2, v3, v4] st (up I r a b) J) := ge (A := (45, 47, 0, 0, 0)) rfl
set_option maxRecDepth 10000 in
theorem g_154_47 : GO x d 154 Q 47 [v0, v1, some (.inl a), v3, v4] st I J = GO x d 154 Q 48 [v0, v1, some (.inl a), v3, v4] (.inl a :: st) I J := ge (A := (1, 48, 2, 0, 0)) rfl
set_option maxRecDepth 10000 in
theorem g_154_48 : GO x d 154 Q 48 [v0, v1, v2, v3, v4] (.inl a :: st) I J = (inR a ∧ if a < 0 then GO x d 154 Q 283 [v0, v1, v2, v3, v4] st I J else GO x d 154 Q 51 [v0, v1, v2, v3, v4] st I J) := (ge (A := (33, 51, 283, 2, 0)) rfl).trans (gif (p := a < 0) inferInstance)
set_option maxRecDepth 10000 in
theorem g_154_51 : GO x d 154 Q 51 [some (.inr (.inr w)), v1, v2, v3, v4] st I J = GO x d 154 Q 52 [some (.inr (.inr w)), v1, v2, v3, v4] (.inr (.inr w) :: st) I J := ge (A := (2, 52, 0, 0, 0)) rfl
set_option maxRecDepth 10000 in
theorem g_154_52 : GO x d 154 Q 52 [v0, v1, v2, v3, v4] (.inr (.inr (.inl r)) :: st) I J = (okF r 10 22 ∧ GO x d 154 Q 55 [v0, v1, v2, v3, v4] (.inr (.inr (.inl (rfN r 22))) :: st) I J) := (ge (A := (39, 55, 10, 22, 0)) rfl).trans (gref (f := fun q => GO x d 154 Q 55 [v0, v1, v2, v3, v4] (.inr (.inr (.inl q)) :: st) I J))
set_option maxRecDepth 10000 in
theorem g_154_55 : GO x d 154 Q 55 [v0, v1, some (.inl a), v3, v4] st I J = GO x d 154 Q 56 [v0, v1, some (.inl a), v3, v4] (.inl a :: st) I J := ge (A := (1, 56, 2, 0, 0)) rfl
set_option maxRecDepth 10000 in
theorem g_154_56 : GO x d 154 Q 56 [v0, v1, v2, v3, v4] (.inl a :: .inr (.inr w) :: st) I J = GO x d 154 Q 57 [v0, v1, v2, v3, v4] (.inl a :: .inr (.inr w) :: .inl a :: .inr (.inr w) :: st) I J := ge (A := (32, 57, 0, 0, 0)) rfl
set_option maxRecDepth 10000 in
theorem h_154_57 : GO x d 154 Q 57 [v0, v1, v2, v3, v4] (.inl a :: .inr (.inr (.inr q)) :: st) I J = (q < 4 ∧ 0 ≤ a ∧ a < (roA x q).1 ∧ GO x d 154 Q 58 [v0, v1, v2, v3, v4] (.inl ((roA x q).2 a.toNat) :: st) I J) := ge (A := (44, 58, 0, 0, 0)) rfl
set_option maxRecDepth 10000 in
theorem g_154_57 : GO x d 154 Q 57 [v0, v1, v2, v3, v4] (.inl a :: .inr (.inr (.inl r)) :: st) I J = (okA r 20 ∧ 0 ≤ a ∧ a < lnN r ∧ GO x d 154 Q 58 [v0, v1, v2, v3, v4] (.inl (I r a) :: st) I J) := ge (A := (44, 58, 0, 0, 0)) rfl
set_option maxRecDepth 10000 in
theorem g_154_58 : GO x d 154 Q 58 [v0, v1, v2, v3, v4] st I J = GO x d 154 Q 59 [v0, v1, v2, v3, v4] (.inl (1) :: st) I J := ge (A := (0, 59, 0, 0, 1)) rfl
set_option maxRecDepth 10000 in
theorem g_154_59 : GO x d 154 Q 59 [v0, v1, v2, v3, v4] (.inl b :: .inl a :: st) I J = GO x d 154 Q 60 [v0, v1, v2, v3, v4] (.inl (a + b) :: st) I J := ge (A := (8, 60, 0, 0, 0)) rfl
set_option maxRecDepth 10000 in
theorem g_154_60 : GO x d 154 Q 60 [v0, v1, v2, v3, v4] (.inl b :: .inl a :: .inr (.inr (.inl r)) :: st) I J = (okA r 20 ∧ 0 ≤ a ∧ a < lnN r ∧ GO x d 154 Q 61 [v0, v1, v2, v3, v4] st (up I r a b) J) := ge (A := (45, 61, 0, 0, 0)) rfl
set_option maxRecDepth 10000 in
theorem g_154_61 : GO x d 154 Q 61 [some (.inr (.inr w)), v1, v2, v3, v4] st I J = GO x d 154 Q 62 [some (.inr (.inr w)), v1, v2, v3, v4] (.inr (.inr w) :: st) I J := ge (A := (2, 62, 0, 0, 0)) rfl
set_option maxRecDepth 10000 in
theorem g_154_62 : GO x d 154 Q 62 [v0, v1, v2, v3, v4] (.inr (.inr (.inl r)) :: st) I J = (okF r 10 22 ∧ GO x d 154 Q 65 [v0, v1, v2, v3, v4] (.inr (.inr (.inl (rfN r 22))) :: st) I J) := (ge (A := (39, 65, 10, 22, 0)) rfl).trans (gref (f := fun q => GO x d 154 Q 65 [v0, v1, v2, v3, v4] (.inr (.inr (.inl q)) :: st) I J))
set_option maxRecDepth 10000 in
theorem g_154_65 : GO x d 154 Q 65 [v0, v1, some (.inl a), v3, v4] st I J = GO x d 154 Q 66 [v0, v1, some (.inl a), v3, v4] (.inl a :: st) I J := ge (A := (1, 66, 2, 0, 0)) rfl
set_option maxRecDepth 10000 in
theorem h_154_66 : GO x d 154 Q 66 [v0, v1, v2, v3, v4] (.inl a :: .inr (.inr (.inr q)) :: st) I J = (q < 4 ∧ 0 ≤ a ∧ a < (roA x q).1 ∧ GO x d 154 Q 67 [v0, v1, v2, v3, v4] (.inl ((roA x q).2 a.toNat) :: st) I J) := ge (A := (44, 67, 0, 0, 0)) rfl
set_option maxRecDepth 10000 in
theorem g_154_66 : GO x d 154 Q 66 [v0, v1, v2, v3, v4] (.inl a :: .inr (.inr (.inl r)) :: st) I J = (okA r 20 ∧ 0 ≤ a ∧ a < lnN r ∧ GO x d 154 Q 67 [v0, v1, v2, v3, v4] (.inl (I r a) :: st) I J) := ge (A := (44, 67, 0, 0, 0)) rfl
set_option maxRecDepth 10000 in
theorem g_154_67 : GO x d 154 Q 67 [v0, v1, v2, v3, v4] st I J = GO x d 154 Q 69 [v0, v1, v2, v3, v4] (.inl (16) :: st) I J := ge (A := (0, 69, 0, 0, 16)) rfl
set_option maxRecDepth 10000 in
theorem g_154_69 : GO x d 154 Q 69 [some (.inr (.inr w)), v1, v2, v3, v4] st I J = GO x d 154 Q 70 [some (.inr (.inr w)), v1, v2, v3, v4] (.inr (.inr w) :: st) I J := ge (A := (2, 70, 0, 0, 0)) rfl
set_option maxRecDepth 10000 in
theorem g_154_70 : GO x d 154 Q 70 [v0, v1, v2, v3, v4] (.inr (.inr (.inl r)) :: st) I J = (okF r 10 2 ∧ GO x d 154 Q 73 [v0, v1, v2, v3, v4] (.inr (.inr (.inl (rfN r 2))) :: st) I J) := (ge (A := (39, 73, 10, 2, 0)) rfl).trans (gref (f := fun q => GO x d 154 Q 73 [v0, v1, v2, v3, v4] (.inr (.inr (.inl q)) :: st) I J))
set_option maxRecDepth 10000 in
theorem g_154_73 : GO x d 154 Q 73 [v0, v1, v2, v3, v4] st I J = GO x d 154 Q 74 [v0, v1, v2, v3, v4] (.inl (2) :: st) I J := ge (A := (0, 74, 0, 0, 2)) rfl
set_option maxRecDepth 10000 in
theorem h_154_74 : GO x d 154 Q 74 [v0, v1, v2, v3, v4] (.inl a :: .inr (.inr (.inr q)) :: st) I J = (q < 4 ∧ 0 ≤ a ∧ a < (roA x q).1 ∧ GO x d 154 Q 75 [v0, v1, v2, v3, v4] (.inl ((roA x q).2 a.toNat) :: st) I J) := ge (A := (44, 75, 0, 0, 0)) rfl
set_option maxRecDepth 10000 in
theorem g_154_74 : GO x d 154 Q 74 [v0, v1, v2, v3, v4] (.inl a :: .inr (.inr (.inl r)) :: st) I J = (okA r 20 ∧ 0 ≤ a ∧ a < lnN r ∧ GO x d 154 Q 75 [v0, v1, v2, v3, v4] (.inl (I r a) :: st) I J) := ge (A := (44, 75, 0, 0, 0)) rfl
set_option maxRecDepth 10000 in
theorem g_154_75 : GO x d 154 Q 75 [v0, v1, v2, v3, v4] (.inl b :: .inl a :: st) I J = GO x d 154 Q 76 [v0, v1, v2, v3, v4] (.inl (a * b) :: st) I J := ge (A := (10, 76, 0, 0, 0)) rfl
set_option maxRecDepth 10000 in
theorem g_154_76 : GO x d 154 Q 76 [v0, v1, v2, v3, v4] (.inl b :: .inl a :: st) I J = (inR a ∧ inR b ∧ if a < b then GO x d 154 Q 94 [v0, v1, v2, v3, v4] st I J else GO x d 154 Q 79 [v0, v1, v2, v3, v4] st I J) := (ge (A := (34, 79, 94, 2, 0)) rfl).trans (gic (p := a < b) inferInstance)
set_option maxRecDepth 10000 in
theorem g_154_79 : GO x d 154 Q 79 [v0, v1, some (.inl a), v3, v4] st I J = (nlO (some v1) = true ∧ GO x d 154 Q 82 [v0, v1, some (.inl (a + (-1))), v3, v4] st I J) := ge (A := (7, 82, 2, 0, -1)) rfl
set_option maxRecDepth 10000 in
theorem g_154_82 : GO x d 154 Q 82 [v0, v1, some (.inl a), v3, v4] st I J = GO x d 154 Q 83 [v0, v1, some (.inl a), v3, v4] (.inl a :: st) I J := ge (A := (1, 83, 2, 0, 0)) rfl
set_option maxRecDepth 10000 in
theorem g_154_83 : GO x d 154 Q 83 [v0, v1, v2, v3, v4] (.inl a :: st) I J = (inR a ∧ if a < 0 then GO x d 154 Q 47 [v0, v1, v2, v3, v4] st I J else GO x d 154 Q 86 [v0, v1, v2, v3, v4] st I J) := (ge (A := (33, 86, 47, 2, 0)) rfl).trans (gif (p := a < 0) inferInstance)
set_option maxRecDepth 10000 in
theorem g_154_86 : GO x d 154 Q 86 [some (.inr (.inr w)), v1, v2, v3, v4] st I J = GO x d 154 Q 87 [some (.inr (.inr w)), v1, v2, v3, v4] (.inr (.inr w) :: st) I J := ge (A := (2, 87, 0, 0, 0)) rfl
set_option maxRecDepth 10000 in
theorem g_154_87 : GO x d 154 Q 87 [v0, v1, some (.inl a), v3, v4] st I J = GO x d 154 Q 88 [v0, v1, some (.inl a), v3, v4] (.inl a :: st) I J := ge (A := (1, 88, 2, 0, 0)) rfl
set_option maxRecDepth 10000 in
theorem g_154_88 : GO x d 154 Q 88 [v0, v1, v2, v3, v4] [.inl i0, .inr (.inr (.inl r))] I J = (okO r 10 ∧ EX x d 151 [.inr (.inr (.inl r)), .inl i0] I J (fun r1 I1 J1 => GO x d 154 Q 91 [v0, v1, v2, v3, v4] (r1.toList ++ []) I1 J1)) := (ge (A := (53, 91, 151, 1, 0)) rfl).trans (gtrue (Nat.le_of_ble_eq_true rfl))
set_option maxRecDepth 10000 in
theorem g_154_91 : GO x d 154 Q 91 [v0, v1, v2, v3, v4] st I J = GO x d 154 Q 47 [v0, v1, v2, v3, v4] st I J := ge (A := (35, 94, 47, 0, 0)) rfl
set_option maxRecDepth 10000 in
theorem g_154_94 : GO x d 154 Q 94 [some (.inr (.inr w)), v1, v2, v3, v4] st I J = GO x d 154 Q 95 [some (.inr (.inr w)), v1, v2, v3, v4] (.inr (.inr w) :: st) I J := ge (A := (2, 95, 0, 0, 0)) rfl
set_option maxRecDepth 10000 in
theorem g_154_95 : GO x d 154 Q 95 [some (.inr (.inr w)), v1, v2, v3, v4] st I J = GO x d 154 Q 96 [some (.inr (.inr w)), v1, v2, v3, v4] (.inr (.inr w) :: st) I J := ge (A := (2, 96, 0, 0, 0)) rfl
set_option maxRecDepth 10000 in
theorem g_154_96 : GO x d 154 Q 96 [v0, v1, v2, v3, v4] (.inr (.inr (.inl r)) :: st) I J = (okF r 10 22 ∧ GO x d 154 Q 99 [v0, v1, v2, v3, v4] (.inr (.inr (.inl (rfN r 22))) :: st) I J) := (ge (A := (39, 99, 10, 22, 0)) rfl).trans (gref (f := fun q => GO x d 154 Q 99 [v0, v1, v2, v3, v4] (.inr (.inr (.inl q)) :: st) I J))
set_option maxRecDepth 10000 in
theorem g_154_99 : GO x d 154 Q 99 [v0, v1, some (.inl a), v3, v4] st I J = GO x d 154 Q 100 [v0, v1, some (.inl a), v3, v4] (.inl a :: st) I J := ge (A := (1, 100, 2, 0, 0)) rfl
set_option maxRecDepth 10000 in
theorem h_154_100 : GO x d 154 Q 100 [v0, v1, v2, v3, v4] (.inl a :: .inr (.inr (.inr q)) :: st) I J = (q < 4 ∧ 0 ≤ a ∧ a < (roA x q).1 ∧ GO x d 154 Q 101 [v0, v1, v2, v3, v4] (.inl ((roA x q).2 a.toNat) :: st) I J) := ge (A := (44, 101, 0, 0, 0)) rfl
set_option maxRecDepth 10000 in
theorem g_154_100 : GO x d 154 Q 100 [v0, v1, v2, v3, v4] (.inl a :: .inr (.inr (.inl r)) :: st) I J = (okA r 20 ∧ 0 ≤ a ∧ a < lnN r ∧ GO x d 154 Q 101 [v0, v1, v2, v3, v4] (.inl (I r a) :: st) I J) := ge (A := (44, 101, 0, 0, 0)) rfl
set_option maxRecDepth 10000 in
theorem g_154_101 : GO x d 154 Q 101 [v0, v1, v2, v3, v4] [.inl i0, .inr (.inr (.inl r))] I J = (okO r 10 ∧ EX x d 153 [.inr (.inr (.inl r)), .inl i0] I J (fun r1 I1 J1 => GO x d 154 Q 104 [v0, v1, v2, v3, v4] (r1.toList ++ []) I1 J1)) := (ge (A := (53, 104, 153, 1, 0)) rfl).trans (gtrue (Nat.le_of_ble_eq_true rfl))
set_option maxRecDepth 10000 in
theorem g_154_104 : GO x d 154 Q 104 [v0, v1, v2, v3, v4] (.inl a :: st) I J = (inR a ∧ if a = 0 then GO x d 154 Q 47 [v0, v1, v2, v3, v4] st I J else GO x d 154 Q 107 [v0, v1, v2, v3, v4] st I J) := (ge (A := (33, 107, 47, 0, 0)) rfl).trans (gif (p := a = 0) inferInstance)
set_option maxRecDepth 10000 in
theorem g_154_107 : GO x d 154 Q 107 [some (.inr (.inr w)), v1, v2, v3, v4] st I J = GO x d 154 Q 108 [some (.inr (.inr w)), v1, v2, v3, v4] (.inr (.inr w) :: st) I J := ge (A := (2, 108, 0, 0, 0)) rfl
set_option maxRecDepth 10000 in
theorem g_154_108 : GO x d 154 Q 108 [v0, v1, v2, v3, v4] (.inr (.inr (.inl r)) :: st) I J = (okF r 10 22 ∧ GO x d 154 Q 111 [v0, v1, v2, v3, v4] (.inr (.inr (.inl (rfN r 22))) :: st) I J) := (ge (A := (39, 111, 10, 22, 0)) rfl).trans (gref (f := fun q => GO x d 154 Q 111 [v0, v1, v2, v3, v4] (.inr (.inr (.inl q)) :: st) I J))
set_option maxRecDepth 10000 in
theorem g_154_111 : GO x d 154 Q 111 [v0, v1, some (.inl a), v3, v4] st I J = GO x d 154 Q 112 [v0, v1, some (.inl a), v3, v4] (.inl a :: st) I J := ge (A := (1, 112, 2, 0, 0)) rfl
set_option maxRecDepth 10000 in
theorem h_154_112 : GO x d 154 Q 112 [v0, v1, v2, v3, v4] (.inl a :: .inr (.inr (.inr q)) :: st) I J = (q < 4 ∧ 0 ≤ a ∧ a < (roA x q).1 ∧ GO x d 154 Q 113 [v0, v1, v2, v3, v4] (.inl ((roA x q).2 a.toNat) :: st) I J) := ge (A := (44, 113, 0, 0, 0)) rfl
set_option maxRecDepth 10000 in
theorem g_154_112 : GO x d 154 Q 112 [v0, v1, v2, v3, v4] (.inl a :: .inr (.inr (.inl r)) :: st) I J = (okA r 20 ∧ 0 ≤ a ∧ a < lnN r ∧ GO x d 154 Q 113 [v0, v1, v2, v3, v4] (.inl (I r a) :: st) I J) := ge (A := (44, 113, 0, 0, 0)) rfl
set_option maxRecDepth 10000 in
theorem g_154_113 : GO x d 154 Q 113 [v0, v1, v2, v3, v4] st I J = GO x d 154 Q 115 [v0, v1, v2, v3, v4] (.inl (16) :: st) I J := ge (A := (0, 115, 0, 0, 16)) rfl
set_option maxRecDepth 10000 in
theorem g_154_115 : GO x d 154 Q 115 [v0, v1, v2, v3, v4] (.inl b :: .inl a :: st) I J = (inR b ∧ ¬ b = 0 ∧ GO x d 154 Q 116 [v0, v1, v2, v3, v4] (.inl (remI a b) :: st) I J) := ge (A := (18, 116, 0, 0, 0)) rfl
set_option maxRecDepth 10000 in
theorem g_154_116 : GO x d 154 Q 116 [v0, v1, v2, v3, v4] st I J = GO x d 154 Q 118 [v0, v1, v2, v3, v4] (.inl (8) :: st) I J := ge (A := (0, 118, 0, 0, 8)) rfl
set_option maxRecDepth 10000 in
theorem g_154_118 : GO x d 154 Q 118 [v0, v1, v2, v3, v4] (.inl b :: .inl a :: st) I J = (inR a ∧ inR b ∧ if a = b then GO x d 154 Q 121 [v0, v1, v2, v3, v4] st I J else GO x d 154 Q 137 [v0, v1, v2, v3, v4] st I J) := (ge (A := (34, 121, 137, 1, 0)) rfl).trans (gicn (p := a = b) inferInstance)
set_option maxRecDepth 10000 in
theorem g_154_121 : GO x d 154 Q 121 [some (.inr (.inr w)), v1, v2, v3, v4] st I J = GO x d 154 Q 122 [some (.inr (.inr w)), v1, v2, v3, v4] (.inr (.inr w) :: st) I J := ge (A := (2, 122, 0, 0, 0)) rfl
set_option maxRecDepth 10000 in
theorem g_154_122 : GO x d 154 Q 122 [some (.inr (.inr w)), v1, v2, v3, v4] st I J = GO x d 154 Q 123 [some (.inr (.inr w)), v1, v2, v3, v4] (.inr (.inr w) :: st) I J := ge (A := (2, 123, 0, 0, 0)) rfl
set_option maxRecDepth 10000 in
theorem g_154_123 : GO x d 154 Q 123 [v0, v1, v2, v3, v4] (.inr (.inr (.inl r)) :: st) I J = (okF r 10 22 ∧ GO x d 154 Q 126 [v0, v1, v2, v3, v4] (.inr (.inr (.inl (rfN r 22))) :: st) I J) := (ge (A := (39, 126, 10, 22, 0)) rfl).trans (gref (f := fun q => GO x d 154 Q 126 [v0, v1, v2, v3, v4] (.inr (.inr (.inl q)) :: st) I J))
set_option maxRecDepth 10000 in
theorem g_154_126 : GO x d 154 Q 126 [v0, v1, some (.inl a), v3, v4] st I J = GO x d 154 Q 127 [v0, v1, some (.inl a), v3, v4] (.inl a :: st) I J := ge (A := (1, 127, 2, 0, 0)) rfl
set_option maxRecDepth 10000 in
theorem h_154_127 : GO x d 154 Q 127 [v0, v1, v2, v3, v4] (.inl a :: .inr (.inr (.inr q)) :: st) I J = (q < 4 ∧ 0 ≤ a ∧ a < (roA x q).1 ∧ GO x d 154 Q 128 [v0, v1, v2, v3, v4] (.inl ((roA x q).2 a.toNat) :: st) I J) := ge (A := (44, 128, 0, 0, 0)) rfl
set_option maxRecDepth 10000 in
theorem g_154_127 : GO x d 154 Q 127 [v0, v1, v2, v3, v4] (.inl a :: .inr (.inr (.inl r)) :: st) I J = (okA r 20 ∧ 0 ≤ a ∧ a < lnN r ∧ GO x d 154 Q 128 [v0, v1, v2, v3, v4] (.inl (I r a) :: st) I J) := ge (A := (44, 128, 0, 0, 0)) rfl
set_option maxRecDepth 10000 in
theorem g_154_128 : GO x d 154 Q 128 [v0, v1, v2, v3, v4] st I J = GO x d 154 Q 130 [v0, v1, v2, v3, v4] (.inl (16) :: st) I J := ge (A := (0, 130, 0, 0, 16)) rfl
set_option maxRecDepth 10000 in
theorem g_154_130 : GO x d 154 Q 130 [v0, v1, v2, v3, v4] (.inl b :: .inl a :: st) I J = (inR b ∧ ¬ b = 0 ∧ GO x d 154 Q 131 [v0, v1, v2, v3, v4] (.inl (divI a b) :: st) I J) := ge (A := (17, 131, 0, 0, 0)) rfl
set_option maxRecDepth 10000 in
theorem g_154_131 : GO x d 154 Q 131 [v0, v1, v2, v3, v4] [.inl i0, .inr (.inr (.inl r))] I J = (okO r 10 ∧ EX x d 140 [.inr (.inr (.inl r)), .inl i0] I J (fun r1 I1 J1 => GO x d 154 Q 134 [v0, v1, v2, v3, v4] (r1.toList ++ []) I1 J1)) := (ge (A := (53, 134, 140, 1, 0)) rfl).trans (gtrue (Nat.le_of_ble_eq_true rfl))
set_option maxRecDepth 10000 in
theorem g_154_134 : GO x d 154 Q 134 [v0, v1, v2, v3, v4] st I J = GO x d 154 Q 159 [v0, v1, v2, v3, v4] st I J := ge (A := (35, 137, 159, 0, 0)) rfl
set_option maxRecDepth 10000 in
theorem g_154_137 : GO x d 154 Q 137 [some (.inr (.inr w)), v1, v2, v3, v4] st I J = GO x d 154 Q 138 [some (.inr (.inr w)), v1, v2, v3, v4] (.inr (.inr w) :: st) I J := ge (A := (2, 138, 0, 0, 0)) rfl
set_option maxRecDepth 10000 in
theorem g_154_138 : GO x d 154 Q 138 [some (.inr (.inr w)), v1, v2, v3, v4] st I J = GO x d 154 Q 139 [some (.inr (.inr w)), v1, v2, v3, v4] (.inr (.inr w) :: st) I J := ge (A := (2, 139, 0, 0, 0)) rfl
set_option maxRecDepth 10000 in
theorem g_154_139 : GO x d 154 Q 139 [v0, v1, v2, v3, v4] (.inr (.inr (.inl r)) :: st) I J = (okF r 10 22 ∧ GO x d 154 Q 142 [v0, v1, v2, v3, v4] (.inr (.inr (.inl (rfN r 22))) :: st) I J) := (ge (A := (39, 142, 10, 22, 0)) rfl).trans (gref (f := fun q => GO x d 154 Q 142 [v0, v1, v2, v3, v4] (.inr (.inr (.inl q)) :: st) I J))
set_option maxRecDepth 10000 in
theorem g_154_142 : GO x d 154 Q 142 [v0, v1, some (.inl a), v3, v4] st I J = GO x d 154 Q 143 [v0, v1, some (.inl a), v3, v4] (.inl a :: st) I J := ge (A := (1, 143, 2, 0, 0)) rfl
set_option maxRecDepth 10000 in
theorem h_154_143 : GO x d 154 Q 143 [v0, v1, v2, v3, v4] (.inl a :: .inr (.inr (.inr q)) :: st) I J = (q < 4 ∧ 0 ≤ a ∧ a < (roA x q).1 ∧ GO x d 154 Q 144 [v0, v1, v2, v3, v4] (.inl ((roA x q).2 a.toNat) :: st) I J) := ge (A := (44, 144, 0, 0, 0)) rfl
set_option maxRecDepth 10000 in
theorem g_154_143 : GO x d 154 Q 143 [v0, v1, v2, v3, v4] (.inl a :: .inr (.inr (.inl r)) :: st) I J = (okA r 20 ∧ 0 ≤ a ∧ a < lnN r ∧ GO x d 154 Q 144 [v0, v1, v2, v3, v4] (.inl (I r a) :: st) I J) := ge (A := (44, 144, 0, 0, 0)) rfl
set_option maxRecDepth 10000 in
theorem g_154_144 : GO x d 154 Q 144 [v0, v1, v2, v3, v4] st I J = GO x d 154 Q 146 [v0, v1, v2, v3, v4] (.inl (16) :: st) I J := ge (A := (0, 146, 0, 0, 16)) rfl
set_option maxRecDepth 10000 in
theorem g_154_146 : GO x d 154 Q 146 [v0, v1, v2, v3, v4] (.inl b :: .inl a :: st) I J = (inR b ∧ ¬ b = 0 ∧ GO x d 154 Q 147 [v0, v1, v2, v3, v4] (.inl (divI a b) :: st) I J) := ge (A := (17, 147, 0, 0, 0)) rfl
set_option maxRecDepth 10000 in
theorem g_154_147 : GO x d 154 Q 147 [some (.inr (.inr w)), v1, v2, v3, v4] st I J = GO x d 154 Q 148 [some (.inr (.inr w)), v1, v2, v3, v4] (.inr (.inr w) :: st) I J := ge (A := (2, 148, 0, 0, 0)) rfl
set_option maxRecDepth 10000 in
theorem g_154_148 : GO x d 154 Q 148 [v0, v1, v2, v3, v4] (.inr (.inr (.inl r)) :: st) I J = (okF r 10 22 ∧ GO x d 154 Q 151 [v0, v1, v2, v3, v4] (.inr (.inr (.inl (rfN r 22))) :: st) I J) := (ge (A := (39, 151, 10, 22, 0)) rfl).trans (gref (f := fun q => GO x d 154 Q 151 [v0, v1, v2, v3, v4] (.inr (.inr (.inl q)) :: st) I J))
set_option maxRecDepth 10000 in
theorem g_154_151 : GO x d 154 Q 151 [v0, v1, some (.inl a), v3, v4] st I J = GO x d 154 Q 152 [v0, v1, some (.inl a), v3, v4] (.inl a :: st) I J := ge (A := (1, 152, 2, 0, 0)) rfl
set_option maxRecDepth 10000 in
theorem h_154_152 : GO x d 154 Q 152 [v0, v1, v2, v3, v4] (.inl a :: .inr (.inr (.inr q)) :: st) I J = (q < 4 ∧ 0 ≤ a ∧ a < (roA x q).1 ∧ GO x d 154 Q 153 [v0, v1, v2, v3, v4] (.inl ((roA x q).2 a.toNat) :: st) I J) := ge (A := (44, 153, 0, 0, 0)) rfl
set_option maxRecDepth 10000 in
theorem g_154_152 : GO x d 154 Q 152 [v0, v1, v2, v3, v4] (.inl a :: .inr (.inr (.inl r)) :: st) I J = (okA r 20 ∧ 0 ≤ a ∧ a < lnN r ∧ GO x d 154 Q 153 [v0, v1, v2, v3, v4] (.inl (I r a) :: st) I J) := ge (A := (44, 153, 0, 0, 0)) rfl
set_option maxRecDepth 10000 in
theorem g_154_153 : GO x d 154 Q 153 [v0, v1, v2, v3, v4] st I J = GO x d 154 Q 155 [v0, v1, v2, v3, v4] (.inl (16) :: st) I J := ge (A := (0, 155, 0, 0, 16)) rfl
set_option maxRecDepth 10000 in
theorem g_154_155 : GO x d 154 Q 155 [v0, v1, v2, v3, v4] (.inl b :: .inl a :: st) I J = (inR b ∧ ¬ b = 0 ∧ GO x d 154 Q 156 [v0, v1, v2, v3, v4] (.inl (remI a b) :: st) I J) := ge (A := (18, 156, 0, 0, 0)) rfl
set_option maxRecDepth 10000 in
theorem g_154_156 : GO x d 154 Q 156 [v0, v1, v2, v3, v4] [.inl i0, .inl i1, .inr (.inr (.inl r))] I J = (okO r 10 ∧ EX x d 139 [.inr (.inr (.inl r)), .inl i1, .inl i0] I J (fun r1 I1 J1 => GO x d 154 Q 159 [v0, v1, v2, v3, v4] (r1.toList ++ []) I1 J1)) := (ge (A := (53, 159, 139, 2, 0)) rfl).trans (gtrue (Nat.le_of_ble_eq_true rfl))
set_option maxRecDepth 10000 in
theorem g_154_159 : GO x d 154 Q 159 [some (.inr (.inr w)), v1, v2, v3, v4] st I J = GO x d 154 Q 160 [some (.inr (.inr w)), v1, v2, v3, v4] (.inr (.inr w) :: st) I J := ge (A := (2, 160, 0, 0, 0)) rfl
set_option maxRecDepth 10000 in
theorem g_154_160 : GO x d 154 Q 160 [v0, v1, v2, v3, v4] (.inr (.inr (.inl r)) :: st) I J = (okO r 10 ∧ GO x d 154 Q 163 [v0, v1, v2, v3, v4] (.inl (I r 24) :: st) I J) := ge (A := (37, 163, 10, 24, 0)) rfl
set_option maxRecDepth 10000 in
theorem g_154_163 : GO x d 154 Q 163 [v0, v1, v2, v3, v4] st I J = GO x d 154 Q 165 [v0, v1, v2, v3, v4] (.inl (-1000000) :: st) I J := ge (A := (0, 165, 0, 0, -1000000)) rfl
set_option maxRecDepth 10000 in
theorem g_154_165 : GO x d 154 Q 165 [v0, v1, v2, v3, v4] (.inl b :: .inl a :: st) I J = (inR a ∧ inR b ∧ if a = b then GO x d 154 Q 188 [v0, v1, v2, v3, v4] st I J else GO x d 154 Q 168 [v0, v1, v2, v3, v4] st I J) := (ge (A := (34, 168, 188, 0, 0)) rfl).trans (gic (p := a = b) inferInstance)
set_option maxRecDepth 10000 in
theorem g_154_168 : GO x d 154 Q 168 [some (.inr (.inr w)), v1, v2, v3, v4] st I J = GO x d 154 Q 169 [some (.inr (.inr w)), v1, v2, v3, v4] (.inr (.inr w) :: st) I J := ge (A := (2, 169, 0, 0, 0)) rfl
set_option maxRecDepth 10000 in
theorem g_154_169 : GO x d 154 Q 169 [v0, v1, v2, v3, v4] (.inr (.inr (.inl r)) :: st) I J = (okF r 10 2 ∧ GO x d 154 Q 172 [v0, v1, v2, v3, v4] (.inr (.inr (.inl (rfN r 2))) :: st) I J) := (ge (A := (39, 172, 10, 2, 0)) rfl).trans (gref (f := fun q => GO x d 154 Q 172 [v0, v1, v2, v3, v4] (.inr (.inr (.inl q)) :: st) I J))
set_option maxRecDepth 10000 in
theorem g_154_172 : GO x d 154 Q 172 [v0, v1, v2, v3, v4] st I J = GO x d 154 Q 174 [v0, v1, v2, v3, v4] (.inl (29) :: st) I J := ge (A := (0, 174, 0, 0, 29)) rfl
set_option maxRecDepth 10000 in
theorem h_154_174 : GO x d 154 Q 174 [v0, v1, v2, v3, v4] (.inl a :: .inr (.inr (.inr q)) :: st) I J = (q < 4 ∧ 0 ≤ a ∧ a < (roA x q).1 ∧ GO x d 154 Q 175 [v0, v1, v2, v3, v4] (.inl ((roA x q).2 a.toNat) :: st) I J) := ge (A := (44, 175, 0, 0, 0)) rfl
set_option maxRecDepth 10000 in
theorem g_154_174 : GO x d 154 Q 174 [v0, v1, v2, v3, v4] (.inl a :: .inr (.inr (.inl r)) :: st) I J = (okA r 20 ∧ 0 ≤ a ∧ a < lnN r ∧ GO x d 154 Q 175 [v0, v1, v2, v3, v4] (.inl (I r a) :: st) I J) := ge (A := (44, 175, 0, 0, 0)) rfl
set_option maxRecDepth 10000 in
theorem g_154_175 : GO x d 154 Q 175 [v0, some (.inl a), v2, v3, v4] st I J = GO x d 154 Q 176 [v0, some (.inl a), v2, v3, v4] (.inl a :: st) I J := ge (A := (1, 176, 1, 0, 0)) rfl
set_option maxRecDepth 10000 in
theorem g_154_176 : GO x d 154 Q 176 [v0, v1, v2, v3, v4] (.inl b :: .inl a :: st) I J = GO x d 154 Q 177 [v0, v1, v2, v3, v4] (.inl (a + b) :: st) I J := ge (A := (8, 177, 0, 0, 0)) rfl
set_option maxRecDepth 10000 in
theorem g_154_177 : GO x d 154 Q 177 [v0, v1, some (.inl a), v3, v4] st I J = GO x d 154 Q 178 [v0, v1, some (.inl a), v3, v4] (.inl a :: st) I J := ge (A := (1, 178, 2, 0, 0)) rfl
set_option maxRecDepth 10000 in
theorem g_154_178 : GO x d 154 Q 178 [v0, v1, v2, v3, v4] (.inl b :: .inl a :: st) I J = GO x d 154 Q 179 [v0, v1, v2, v3, v4] (.inl (a - b) :: st) I J := ge (A := (9, 179, 0, 0, 0)) rfl
set_option maxRecDepth 10000 in
theorem g_154_179 : GO x d 154 Q 179 [v0, v1, v2, v3, v4] st I J = GO x d 154 Q 180 [v0, v1, v2, v3, v4] (.inl (1) :: st) I J := ge (A := (0, 180, 0, 0, 1)) rfl
set_option maxRecDepth 10000 in
theorem g_154_180 : GO x d 154 Q 180 [v0, v1, v2, v3, v4] (.inl b :: .inl a :: st) I J = GO x d 154 Q 181 [v0, v1, v2, v3, v4] (.inl (a - b) :: st) I J := ge (A := (9, 181, 0, 0, 0)) rfl
set_option maxRecDepth 10000 in
theorem g_154_181 : GO x d 154 Q 181 [some (.inr (.inr w)), v1, v2, v3, v4] st I J = GO x d 154 Q 182 [some (.inr (.inr w)), v1, v2, v3, v4] (.inr (.inr w) :: st) I J := ge (A := (2, 182, 0, 0, 0)) rfl
set_option maxRecDepth 10000 in
theorem g_154_182 : GO x d 154 Q 182 [v0, v1, v2, v3, v4] (.inr (.inr (.inl r)) :: st) I J = (okO r 10 ∧ GO x d 154 Q 185 [v0, v1, v2, v3, v4] (.inl (I r 24) :: st) I J) := ge (A := (37, 185, 10, 24, 0)) rfl
set_option maxRecDepth 10000 in
theorem g_154_185 : GO x d 154 Q 185 [v0, v1, v2, v3, v4] (.inl b :: .inl a :: st) I J = (inR a ∧ inR b ∧ if a < b then GO x d 154 Q 188 [v0, v1, v2, v3, v4] st I J else GO x d 154 Q 192 [v0, v1, v2, v3, v4] st I J) := (ge (A := (34, 188, 192, 3, 0)) rfl).trans (ggec)
set_option maxRecDepth 10000 in
theorem g_154_188 : GO x d 154 Q 188 [v0, v1, v2, v3, v4] st I J = GO x d 154 Q 189 [v0, v1, v2, v3, v4] (.inl (1) :: st) I J := ge (A := (0, 189, 0, 0, 1)) rfl
set_option maxRecDepth 10000 in
theorem g_154_189 : GO x d 154 Q 189 [v0, v1, v2, v3, v4] st I J = GO x d 154 Q 193 [v0, v1, v2, v3, v4] st I J := ge (A := (35, 192, 193, 0, 0)) rfl
set_option maxRecDepth 10000 in
theorem g_154_192 : GO x d 154 Q 192 [v0, v1, v2, v3, v4] st I J = GO x d 154 Q 193 [v0, v1, v2, v3, v4] (.inl (0) :: st) I J := ge (A := (0, 193, 0, 0, 0)) rfl
set_option maxRecDepth 10000 in
theorem g_154_193 : GO x d 154 Q 193 [v0, v1, v2, v3, v4] (.inl a :: st) I J = (nlO (some v2) = true ∧ GO x d 154 Q 194 [v0, v1, v2, some (.inl a), v4] st I J) := (ge (A := (4, 194, 3, 0, 0)) rfl).trans (gst (Nat.le_of_ble_eq_true rfl) _)
set_option maxRecDepth 10000 in
theorem g_154_194 : GO x d 154 Q 194 [v0, v1, v2, some (.inl a), v4] st I J = GO x d 154 Q 195 [v0, v1, v2, some (.inl a), v4] (.inl a :: st) I J := ge (A := (1, 195, 3, 0, 0)) rfl
set_option maxRecDepth 10000 in
theorem g_154_195 : GO x d 154 Q 195 [v0, v1, v2, v3, v4] (.inl a :: st) I J = (inR a ∧ if a = 0 then GO x d 154 Q 253 [v0, v1, v2, v3, v4] st I J else GO x d 154 Q 198 [v0, v1, v2, v3, v4] st I J) := (ge (A := (33, 198, 253, 0, 0)) rfl).trans (gif (p := a = 0) inferInstance)
set_option maxRecDepth 10000 in
theorem g_154_198 : GO x d 154 Q 198 [v0, v1, some (.inl a), v3, v4] st I J = GO x d 154 Q 199 [v0, v1, some (.inl a), v3, v4] (.inl a :: st) I J := ge (A := (1, 199, 2, 0, 0)) rfl
set_option maxRecDepth 10000 in
theorem g_154_199 : GO x d 154 Q 199 [v0, v1, v2, v3, v4] st I J = GO x d 154 Q 200 [v0, v1, v2, v3, v4] (.inl (1) :: st) I J := ge (A := (0, 200, 0, 0, 1)) rfl
set_option maxRecDepth 10000 in
theorem g_154_200 : GO x d 154 Q 200 [v0, v1, v2, v3, v4] (.inl b :: .inl a :: st) I J = GO x d 154 Q 201 [v0, v1, v2, v3, v4] (.inl (a + b) :: st) I J := ge (A := (8, 201, 0, 0, 0)) rfl
set_option maxRecDepth 10000 in
theorem g_154_201 : GO x d 154 Q 201 [v0, some (.inl a), v2, v3, v4] st I J = GO x d 154 Q 202 [v0, some (.inl a), v2, v3, v4] (.inl a :: st) I J := ge (A := (1, 202, 1, 0, 0)) rfl
set_option maxRecDepth 10000 in
theorem g_154_202 : GO x d 154 Q 202 [v0, v1, v2, v3, v4] (.inl b :: .inl a :: st) I J = (inR a ∧ inR b ∧ if a = b then GO x d 154 Q 205 [v0, v1, v2, v3, v4] st I J else GO x d 154 Q 253 [v0, v1, v2, v3, v4] st I J) := (ge (A := (34, 205, 253, 1, 0)) rfl).trans (gicn (p := a = b) inferInstance)
set_option maxRecDepth 10000 in
theorem g_154_205 : GO x d 154 Q 205 [some (.inr (.inr w)), v1, v2, v3, v4] st I J = GO x d 154 Q 206 [some (.inr (.inr w)), v1, v2, v3, v4] (.inr (.inr w) :: st) I J := ge (A := (2, 206, 0, 0, 0)) rfl
set_option maxRecDepth 10000 in
theorem g_154_206 : GO x d 154 Q 206 [some (.inr (.inr w)), v1, v2, v3, v4] st I J = GO x d 154 Q 207 [some (.inr (.inr w)), v1, v2, v3, v4] (.inr (.inr w) :: st) I J := ge (A := (2, 207, 0, 0, 0)) rfl
set_option maxRecDepth 10000 in
theorem g_154_207 : GO x d 154 Q 207 [v0, v1, v2, v3, v4] (.inr (.inr (.inl r)) :: st) I J = (okF r 10 2 ∧ GO x d 154 Q 210 [v0, v1, v2, v3, v4] (.inr (.inr (.inl (rfN r 2))) :: st) I J) := (ge (A := (39, 210, 10, 2, 0)) rfl).trans (gref (f := fun q => GO x d 154 Q 210 [v0, v1, v2, v3, v4] (.inr (.inr (.inl q)) :: st) I J))
set_option maxRecDepth 10000 in
theorem g_154_210 : GO x d 154 Q 210 [v0, v1, v2, v3, v4] st I J = GO x d 154 Q 212 [v0, v1, v2, v3, v4] (.inl (29) :: st) I J := ge (A := (0, 212, 0, 0, 29)) rfl
set_option maxRecDepth 10000 in
theorem h_154_212 : GO x d 154 Q 212 [v0, v1, v2, v3, v4] (.inl a :: .inr (.inr (.inr q)) :: st) I J = (q < 4 ∧ 0 ≤ a ∧ a < (roA x q).1 ∧ GO x d 154 Q 213 [v0, v1, v2, v3, v4] (.inl ((roA x q).2 a.toNat) :: st) I J) := ge (A := (44, 213, 0, 0, 0)) rfl
set_option maxRecDepth 10000 in
theorem g_154_212 : GO x d 154 Q 212 [v0, v1, v2, v3, v4] (.inl a :: .inr (.inr (.inl r)) :: st) I J = (okA r 20 ∧ 0 ≤ a ∧ a < lnN r ∧ GO x d 154 Q 213 [v0, v1, v2, v3, v4] (.inl (I r a) :: st) I J) := ge (A := (44, 213, 0, 0, 0)) rfl
set_option maxRecDepth 10000 in
theorem g_154_213 : GO x d 154 Q 213 [v0, v1, v2, v3, v4] (.inl a :: .inr (.inr (.inl r)) :: st) I J = (okO r 10 ∧ GO x d 154 Q 216 [v0, v1, v2, v3, v4] st (up I r 24 a) J) := ge (A := (40, 216, 10, 24, 0)) rfl
set_option maxRecDepth 10000 in
theorem g_154_216 : GO x d 154 Q 216 [v0, v1, v2, v3, v4] st I J = GO x d 154 Q 217 [v0, v1, v2, v3, v4] (.inl (0) :: st) I J := ge (A := (0, 217, 0, 0, 0)) rfl
set_option maxRecDepth 10000 in
theorem g_154_217 : GO x d 154 Q 217 [v0, v1, v2, v3, v4] (.inl a :: st) I J = (nlO (some v3) = true ∧ GO x d 154 Q 219 [v0, v1, v2, v3, some (.inl a)] st I J) := (ge (A := (4, 219, 4, 0, 0)) rfl).trans (gst (Nat.le_of_ble_eq_true rfl) _)
set_option maxRecDepth 10000 in
theorem g_154_219 : GO x d 154 Q 219 [v0, v1, v2, v3, some (.inl a)] st I J = GO x d 154 Q 221 [v0, v1, v2, v3, some (.inl a)] (.inl a :: st) I J := ge (A := (1, 221, 4, 0, 0)) rfl
set_option maxRecDepth 10000 in
theorem g_154_221 : GO x d 154 Q 221 [v0, some (.inl a), v2, v3, v4] st I J = GO x d 154 Q 222 [v0, some (.inl a), v2, v3, v4] (.inl a :: st) I J := ge (A := (1, 222, 1, 0, 0)) rfl
set_option maxRecDepth 10000 in
theorem g_154_222 : GO x d 154 Q 222 [v0, v1, v2, v3, v4] (.inl b :: .inl a :: st) I J = (inR a ∧ inR b ∧ if a < b then GO x d 154 Q 225 [v0, v1, v2, v3, v4] st I J else GO x d 154 Q 245 [v0, v1, v2, v3, v4] st I J) := (ge (A := (34, 225, 245, 3, 0)) rfl).trans (ggec)
set_option maxRecDepth 10000 in
theorem g_154_225 : GO x d 154 Q 225 [some (.inr (.inr w)), v1, v2, v3, v4] st I J = GO x d 154 Q 226 [some (.inr (.inr w)), v1, v2, v3, v4] (.inr (.inr w) :: st) I J := ge (A := (2, 226, 0, 0, 0)) rfl
set_option maxRecDepth 10000 in
theorem g_154_226 : GO x d 154 Q 226 [v0, v1, v2, v3, v4] (.inr (.inr (.inl r)) :: st) I J = (okF r 10 23 ∧ GO x d 154 Q 229 [v0, v1, v2, v3, v4] (.inr (.inr (.inl (rfN r 23))) :: st) I J) := (ge (A := (39, 229, 10, 23, 0)) rfl).trans (gref (f := fun q => GO x d 154 Q 229 [v0, v1, v2, v3, v4] (.inr (.inr (.inl q)) :: st) I J))
set_option maxRecDepth 10000 in
theorem g_154_229 : GO x d 154 Q 229 [v0, v1, v2, v3, some (.inl a)] st I J = GO x d 154 Q 231 [v0, v1, v2, v3, some (.inl a)] (.inl a :: st) I J := ge (A := (1, 231, 4, 0, 0)) rfl
set_option maxRecDepth 10000 in
theorem g_154_231 : GO x d 154 Q 231 [some (.inr (.inr w)), v1, v2, v3, v4] st I J = GO x d 154 Q 232 [some (.inr (.inr w)), v1, v2, v3, v4] (.inr (.inr w) :: st) I J := ge (A := (2, 232, 0, 0, 0)) rfl
set_option maxRecDepth 10000 in
theorem g_154_232 : GO x d 154 Q 232 [v0, v1, v2, v3, v4] (.inr (.inr (.inl r)) :: st) I J = (okF r 10 22 ∧ GO x d 154 Q 235 [v0, v1, v2, v3, v4] (.inr (.inr (.inl (rfN r 22))) :: st) I J) := (ge (A := (39, 235, 10, 22, 0)) rfl).trans (gref (f := fun q => GO x d 154 Q 235 [v0, v1, v2, v3, v4] (.inr (.inr (.inl q)) :: st) I J))
set_option maxRecDepth 10000 in
theorem g_154_235 : GO x d 154 Q 235 [v0, v1, v2, v3, some (.inl a)] st I J = GO x d 154 Q 237 [v0, v1, v2, v3, some (.inl a)] (.inl a :: st) I J := ge (A := (1, 237, 4, 0, 0)) rfl
set_option maxRecDepth 10000 in
theorem h_154_237 : GO x d 154 Q 237 [v0, v1, v2, v3, v4] (.inl a :: .inr (.inr (.inr q)) :: st) I J = (q < 4 ∧ 0 ≤ a ∧ a < (roA x q).1 ∧ GO x d 154 Q 238 [v0, v1, v2, v3, v4] (.inl ((roA x q).2 a.toNat) :: st) I J) := ge (A := (44, 238, 0, 0, 0)) rfl
set_option maxRecDepth 10000 in
theorem g_154_237 : GO x d 154 Q 237 [v0, v1, v2, v3, v4] (.inl a :: .inr (.inr (.inl r)) :: st) I J = (okA r 20 ∧ 0 ≤ a ∧ a < lnN r ∧ GO x d 154 Q 238 [v0, v1, v2, v3, v4] (.inl (I r a) :: st) I J) := ge (A := (44, 238, 0, 0, 0)) rfl
set_option maxRecDepth 10000 in
theorem g_154_238 : GO x d 154 Q 238 [v0, v1, v2, v3, v4] (.inl b :: .inl a :: .inr (.inr (.inl r)) :: st) I J = (okA r 20 ∧ 0 ≤ a ∧ a < lnN r ∧ GO x d 154 Q 239 [v0, v1, v2, v3, v4] st (up I r a b) J) := ge (A := (45, 239, 0, 0, 0)) rfl
set_option maxRecDepth 10000 in
theorem g_154_239 : GO x d 154 Q 239 [v0, v1, v2, v3, some (.inl a)] st I J = (nlO (some v3) = true ∧ GO x d 154 Q 242 [v0, v1, v2, v3, some (.inl (a + (1)))] st I J) := ge (A := (7, 242, 4, 0, 1)) rfl
set_option maxRecDepth 10000 in
theorem g_154_242 : GO x d 154 Q 242 [v0, v1, v2, v3, v4] st I J = GO x d 154 Q 219 [v0, v1, v2, v3, v4] st I J := ge (A := (35, 245, 219, 0, 0)) rfl
set_option maxRecDepth 10000 in
theorem g_154_245 : GO x d 154 Q 245 [some (.inr (.inr w)), v1, v2, v3, v4] st I J = GO x d 154 Q 246 [some (.inr (.inr w)), v1, v2, v3, v4] (.inr (.inr w) :: st) I J := ge (A := (2, 246, 0, 0, 0)) rfl
set_option maxRecDepth 10000 in
theorem g_154_246 : GO x d 154 Q 246 [v0, v1, some (.inl a), v3, v4] st I J = GO x d 154 Q 247 [v0, v1, some (.inl a), v3, v4] (.inl a :: st) I J := ge (A := (1, 247, 2, 0, 0)) rfl
set_option maxRecDepth 10000 in
theorem g_154_247 : GO x d 154 Q 247 [v0, v1, v2, v3, v4] [.inl i0, .inr (.inr (.inl r))] I J = (okO r 10 ∧ EX x d 151 [.inr (.inr (.inl r)), .inl i0] I J (fun r1 I1 J1 => GO x d 154 Q 250 [v0, v1, v2, v3, v4] (r1.toList ++ []) I1 J1)) := (ge (A := (53, 250, 151, 1, 0)) rfl).trans (gtrue (Nat.le_of_ble_eq_true rfl))
set_option maxRecDepth 10000 in
theorem g_154_250 : GO x d 154 Q 250 [v0, v1, v2, v3, v4] st I J = GO x d 154 Q 280 [v0, v1, v2, v3, v4] st I J := ge (A := (35, 253, 280, 0, 0)) rfl
set_option maxRecDepth 10000 in
theorem g_154_253 : GO x d 154 Q 253 [v0, v1, v2, some (.inl a), v4] st I J = GO x d 154 Q 254 [v0, v1, v2, some (.inl a), v4] (.inl a :: st) I J := ge (A := (1, 254, 3, 0, 0)) rfl
set_option maxRecDepth 10000 in
theorem g_154_254 : GO x d 154 Q 254 [v0, v1, v2, v3, v4] (.inl a :: st) I J = (inR a ∧ if a = 0 then GO x d 154 Q 275 [v0, v1, v2, v3, v4] st I J else GO x d 154 Q 257 [v0, v1, v2, v3, v4] st I J) := (ge (A := (33, 257, 275, 0, 0)) rfl).trans (gif (p := a = 0) inferInstance)
set_option maxRecDepth 10000 in
theorem g_154_257 : GO x d 154 Q 257 [v0, v1, some (.inl a), v3, v4] st I J = (nlO (some v1) = true ∧ GO x d 154 Q 260 [v0, v1, some (.inl (a + (1))), v3, v4] st I J) := ge (A := (7, 260, 2, 0, 1)) rfl
set_option maxRecDepth 10000 in
theorem g_154_260 : GO x d 154 Q 260 [some (.inr (.inr w)), v1, v2, v3, v4] st I J = GO x d 154 Q 261 [some (.inr (.inr w)), v1, v2, v3, v4] (.inr (.inr w) :: st) I J := ge (A := (2, 261, 0, 0, 0)) rfl
set_option maxRecDepth 10000 in
theorem g_154_261 : GO x d 154 Q 261 [v0, v1, some (.inl a), v3, v4] st I J = GO x d 154 Q 262 [v0, v1, some (.inl a), v3, v4] (.inl a :: st) I J := ge (A := (1, 262, 2, 0, 0)) rfl
set_option maxRecDepth 10000 in
theorem g_154_262 : GO x d 154 Q 262 [v0, v1, v2, v3, v4] [.inl i0, .inr (.inr (.inl r))] I J = (okO r 10 ∧ EX x d 150 [.inr (.inr (.inl r)), .inl i0] I J (fun r1 I1 J1 => GO x d 154 Q 265 [v0, v1, v2, v3, v4] (r1.toList ++ []) I1 J1)) := (ge (A := (53, 265, 150, 1, 0)) rfl).trans (gtrue (Nat.le_of_ble_eq_true rfl))
set_option maxRecDepth 10000 in
theorem g_154_265 : GO x d 154 Q 265 [some (.inr (.inr w)), v1, v2, v3, v4] st I J = GO x d 154 Q 266 [some (.inr (.inr w)), v1, v2, v3, v4] (.inr (.inr w) :: st) I J := ge (A := (2, 266, 0, 0, 0)) rfl
set_option maxRecDepth 10000 in
theorem g_154_266 : GO x d 154 Q 266 [v0, v1, v2, v3, v4] (.inr (.inr (.inl r)) :: st) I J = (okF r 10 22 ∧ GO x d 154 Q 269 [v0, v1, v2, v3, v4] (.inr (.inr (.inl (rfN r 22))) :: st) I J) := (ge (A := (39, 269, 10, 22, 0)) rfl).trans (gref (f := fun q => GO x d 154 Q 269 [v0, v1, v2, v3, v4] (.inr (.inr (.inl q)) :: st) I J))
set_option maxRecDepth 10000 in
theorem g_154_269 : GO x d 154 Q 269 [v0, v1, some (.inl a), v3, v4] st I J = GO x d 154 Q 270 [v0, v1, some (.inl a), v3, v4] (.inl a :: st) I J := ge (A := (1, 270, 2, 0, 0)) rfl
set_option maxRecDepth 10000 in
theorem g_154_270 : GO x d 154 Q 270 [v0, v1, v2, v3, v4] st I J = GO x d 154 Q 271 [v0, v1, v2, v3, v4] (.inl (-1) :: st) I J := ge (A := (0, 271, 0, 0, -1)) rfl
set_option maxRecDepth 10000 in
theorem g_154_271 : GO x d 154 Q 271 [v0, v1, v2, v3, v4] (.inl b :: .inl a :: .inr (.inr (.inl r)) :: st) I J = (okA r 20 ∧ 0 ≤ a ∧ a < lnN r ∧ GO x d 154 Q 272 [v0, v1, v2, v3, v4] st (up I r a b) J) := ge (A := (45, 272, 0, 0, 0)) rfl
set_option maxRecDepth 10000 in
theorem g_154_272 : GO x d 154 Q 272 [v0, v1, v2, v3, v4] st I J = GO x d 154 Q 280 [v0, v1, v2, v3, v4] st I J := ge (A := (35, 275, 280, 0, 0)) rfl
set_option maxRecDepth 10000 in
theorem g_154_275 : GO x d 154 Q 275 [some (.inr (.inr w)), v1, v2, v3, v4] st I J = GO x d 154 Q 276 [some (.inr (.inr w)), v1, v2, v3, v4] (.inr (.inr w) :: st) I J := ge (A := (2, 276, 0, 0, 0)) rfl
set_option maxRecDepth 10000 in
theorem g_154_276 : GO x d 154 Q 276 [v0, v1, some (.inl a), v3, v4] st I J = GO x d 154 Q 277 [v0, v1, some (.inl a), v3, v4] (.inl a :: st) I J := ge (A := (1, 277, 2, 0, 0)) rfl
set_option maxRecDepth 10000 in
theorem g_154_277 : GO x d 154 Q 277 [v0, v1, v2, v3, v4] [.inl i0, .inr (.inr (.inl r))] I J = (okO r 10 ∧ EX x d 151 [.inr (.inr (.inl r)), .inl i0] I J (fun r1 I1 J1 => GO x d 154 Q 280 [v0, v1, v2, v3, v4] (r1.toList ++ []) I1 J1)) := (ge (A := (53, 280, 151, 1, 0)) rfl).trans (gtrue (Nat.le_of_ble_eq_true rfl))
set_option maxRecDepth 10000 in
theorem g_154_280 : GO x d 154 Q 280 [v0, v1, v2, v3, v4] st I J = GO x d 154 Q 47 [v0, v1, v2, v3, v4] st I J := ge (A := (35, 283, 47, 0, 0)) rfl
set_option maxRecDepth 10000 in
theorem g_154_283 : GO x d 154 Q 283 [v0, some (.inl a), v2, v3, v4] st I J = GO x d 154 Q 284 [v0, some (.inl a), v2, v3, v4] (.inl a :: st) I J := ge (A := (1, 284, 1, 0, 0)) rfl
set_option maxRecDepth 10000 in
theorem g_154_284 : GO x d 154 Q 284 [v0, v1, v2, v3, v4] [.inl a] I J = Q (some (.inl a)) I J := ge (A := (55, 285, 0, 0, 0)) rfl
set_option maxRecDepth 10000 in
theorem e_154 : EX x (d + 1) 154 [.inr (.inr w0)] I J Q = GO x d 154 Q 0 [some (.inr (.inr w0)), none, none, none, none] [] I J := ex_eq (Nat.le_of_ble_eq_true rfl) rfl (Nat.le_of_ble_eq_true rfl) rfl
set_option maxRecDepth 10000 in
theorem g_155_0 : GO x d 155 Q 0 [some (.inr (.inr w)), v1, v2] st I J = GO x d 155 Q 1 [some (.inr (.inr w)), v1, v2] (.inr (.inr w) :: st) I J := ge (A := (2, 1, 0, 0, 0)) rfl
set_option maxRecDepth 10000 in
theorem g_155_1 : GO x d 155 Q 1 [v0, v1, v2] [.inr (.inr (.inl r))] I J = (okO r 10 ∧ EX x d 110 [.inr (.inr (.inl r))] I J (fun r1 I1 J1 => GO x d 155 Q 4 [v0, v1, v2] (r1.toList ++ []) I1 J1)) := (ge (A := (53, 4, 110, 0, 0)) rfl).trans (gtrue (Nat.le_of_ble_eq_true rfl))
set_option maxRecDepth 10000 in
theorem g_155_4 : GO x d 155 Q 4 [v0, v1, v2] (.inl a :: st) I J = (inR a ∧ if a = 0 then GO x d 155 Q 7 [v0, v1, v2] st I J else GO x d 155 Q 10 [v0, v1, v2] st I J) := (ge (A := (33, 7, 10, 1, 0)) rfl).trans (gifn (p := a = 0) inferInstance)
set_option maxRecDepth 10000 in
theorem g_155_7 : GO x d 155 Q 7 [v0, v1, v2] st I J = GO x d 155 Q 9 [v0, v1, v2] (.inl (-1000002) :: st) I J := ge (A := (0, 9, 0, 0, -1000002)) rfl
set_option maxRecDepth 10000 in
theorem g_155_9 : GO x d 155 Q 9 [v0, v1, v2] [.inl a] I J = Q (some (.inl a)) I J := ge (A := (55, 10, 0, 0, 0)) rfl
set_option maxRecDepth 10000 in
theorem g_155_10 : GO x d 155 Q 10 [v0, some (.inl a), v2] st I J = GO x d 155 Q 11 [v0, some (.inl a), v2] (.inl a :: st) I J := ge (A := (1, 11, 1, 0, 0)) rfl
set_option maxRecDepth 10000 in
theorem g_155_11 : GO x d 155 Q 11 [v0, v1, v2] st I J = GO x d 155 Q 12 [v0, v1, v2] (.inl (-1) :: st) I J := ge (A := (0, 12, 0, 0, -1)) rfl
set_option maxRecDepth 10000 in
theorem g_155_12 : GO x d 155 Q 12 [v0, v1, v2] st I J = GO x d 155 Q 13 [v0, v1, v2] (.inl (4) :: st) I J := ge (A := (0, 13, 0, 0, 4)) rfl
set_option maxRecDepth 10000 in
theorem g_155_13 : GO x d 155 Q 13 [v0, v1, v2] [.inl i0, .inl i1, .inl i2] I J = EX x d 109 [.inl i2, .inl i1, .inl i0] I J (fun r1 I1 J1 => GO x d 155 Q 16 [v0, v1, v2] (r1.toList ++ []) I1 J1) := (ge (A := (52, 16, 109, 3, 0)) rfl).trans (gtrue2 (Nat.le_of_ble_eq_true rfl) (Nat.le_of_ble_eq_true rfl))
set_option maxRecDepth 10000 in
theorem g_155_16 : GO x d 155 Q 16 [v0, v1, v2] (.inl a :: st) I J = (inR a ∧ if a = 0 then GO x d 155 Q 19 [v0, v1, v2] st I J else GO x d 155 Q 22 [v0, v1, v2] st I J) := (ge (A := (33, 19, 22, 1, 0)) rfl).trans (gifn (p := a = 0) inferInstance)
set_option maxRecDepth 10000 in
theorem g_155_19 : GO x d 155 Q 19 [v0, v1, v2] st I J = GO x d 155 Q 21 [v0, v1, v2] (.inl (-1000001) :: st) I J := ge (A := (0, 21, 0, 0, -1000001)) rfl
set_option maxRecDepth 10000 in
theorem g_155_21 : GO x d 155 Q 21 [v0, v1, v2] [.inl a] I J = Q (some (.inl a)) I J := ge (A := (55, 22, 0, 0, 0)) rfl
set_option maxRecDepth 10000 in
theorem g_155_22 : GO x d 155 Q 22 [some (.inr (.inr w)), v1, v2] st I J = GO x d 155 Q 23 [some (.inr (.inr w)), v1, v2] (.inr (.inr w) :: st) I J := ge (A := (2, 23, 0, 0, 0)) rfl
set_option maxRecDepth 10000 in
theorem g_155_23 : GO x d 155 Q 23 [v0, v1, v2] [.inr (.inr (.inl r))] I J = (okO r 10 ∧ EX x d 154 [.inr (.inr (.inl r))] I J (fun r1 I1 J1 => GO x d 155 Q 26 [v0, v1, v2] (r1.toList ++ []) I1 J1)) := (ge (A := (53, 26, 154, 0, 0)) rfl).trans (gtrue (Nat.le_of_ble_eq_true rfl))
set_option maxRecDepth 10000 in
theorem g_155_26 : GO x d 155 Q 26 [v0, v1, v2] (.inl a :: st) I J = (nlO (some v1) = true ∧ GO x d 155 Q 27 [v0, v1, some (.inl a)] st I J) := (ge (A := (4, 27, 2, 0, 0)) rfl).trans (gst (Nat.le_of_ble_eq_true rfl) _)
set_option maxRecDepth 10000 in
theorem g_155_27 : GO x d 155 Q 27 [v0, some (.inl a), v2] st I J = GO x d 155 Q 28 [v0, some (.inl a), v2] (.inl a :: st) I J := ge (A := (1, 28, 1, 0, 0)) rfl
set_option maxRecDepth 10000 in
theorem g_155_28 : GO x d 155 Q 28 [v0, v1, v2] st I J = GO x d 155 Q 29 [v0, v1, v2] (.inl (-1) :: st) I J := ge (A := (0, 29, 0, 0, -1)) rfl
set_option maxRecDepth 10000 in
theorem g_155_29 : GO x d 155 Q 29 [v0, v1, v2] (.inl b :: .inl a :: st) I J = (inR a ∧ inR b ∧ if a = b then GO x d 155 Q 41 [v0, v1, v2] st I J else GO x d 155 Q 32 [v0, v1, v2] st I J) := (ge (A := (34, 32, 41, 0, 0)) rfl).trans (gic (p := a = b) inferInstance)
set_option maxRecDepth 10000 in
theorem g_155_32 : GO x d 155 Q 32 [some (.inr (.inr w)), v1, v2] st I J = GO x d 155 Q 33 [some (.inr (.inr w)), v1, v2] (.inr (.inr w) :: st) I J := ge (A := (2, 33, 0, 0, 0)) rfl
set_option maxRecDepth 10000 in
theorem g_155_33 : GO x d 155 Q 33 [v0, v1, v2] (.inr (.inr (.inl r)) :: st) I J = (okO r 10 ∧ GO x d 155 Q 36 [v0, v1, v2] (.inl (I r 24) :: st) I J) := ge (A := (37, 36, 10, 24, 0)) rfl
set_option maxRecDepth 10000 in
theorem g_155_36 : GO x d 155 Q 36 [v0, v1, v2] st I J = GO x d 155 Q 38 [v0, v1, v2] (.inl (-1000000) :: st) I J := ge (A := (0, 38, 0, 0, -1000000)) rfl
set_option maxRecDepth 10000 in
theorem g_155_38 : GO x d 155 Q 38 [v0, v1, v2] (.inl b :: .inl a :: st) I J = (inR a ∧ inR b ∧ if a = b then GO x d 155 Q 41 [v0, v1, v2] st I J else GO x d 155 Q 48 [v0, v1, v2] st I J) := (ge (A := (34, 41, 48, 1, 0)) rfl).trans (gicn (p := a = b) inferInstance)
set_option maxRecDepth 10000 in
theorem g_155_41 : GO x d 155 Q 41 [some (.inr (.inr w)), v1, v2] st I J = GO x d 155 Q 42 [some (.inr (.inr w)), v1, v2] (.inr (.inr w) :: st) I J := ge (A := (2, 42, 0, 0, 0)) rfl
set_option maxRecDepth 10000 in
theorem g_155_42 : GO x d 155 Q 42 [v0, v1, v2] (.inr (.inr (.inl r)) :: st) I J = (okO r 10 ∧ GO x d 155 Q 45 [v0, v1, v2] (.inl (I r 24) :: st) I J) := ge (A := (37, 45, 10, 24, 0)) rfl
set_option maxRecDepth 10000 in
theorem g_155_45 : GO x d 155 Q 45 [v0, v1, v2] st I J = GO x d 155 Q 64 [v0, v1, v2] st I J := ge (A := (35, 48, 64, 0, 0)) rfl
set_option maxRecDepth 10000 in
theorem g_155_48 : GO x d 155 Q 48 [v0, some (.inl a), v2] st I J = GO x d 155 Q 49 [v0, some (.inl a), v2] (.inl a :: st) I J := ge (A := (1, 49, 1, 0, 0)) rfl
set_option maxRecDepth 10000 in
theorem g_155_49 : GO x d 155 Q 49 [v0, v1, some (.inl a)] st I J = GO x d 155 Q 50 [v0, v1, some (.inl a)] (.inl a :: st) I J := ge (A := (1, 50, 2, 0, 0)) rfl
set_option maxRecDepth 10000 in
theorem g_155_50 : GO x d 155 Q 50 [v0, v1, v2] (.inl b :: .inl a :: st) I J = (inR a ∧ inR b ∧ if a < b then GO x d 155 Q 53 [v0, v1, v2] st I J else GO x d 155 Q 62 [v0, v1, v2] st I J) := (ge (A := (34, 53, 62, 3, 0)) rfl).trans (ggec)
set_option maxRecDepth 10000 in
theorem g_155_53 : GO x d 155 Q 53 [some (.inr (.inr w)), v1, v2] st I J = GO x d 155 Q 54 [some (.inr (.inr w)), v1, v2] (.inr (.inr w) :: st) I J := ge (A := (2, 54, 0, 0, 0)) rfl
set_option maxRecDepth 10000 in
theorem g_155_54 : GO x d 155 Q 54 [v0, v1, v2] (.inr (.inr (.inl r)) :: st) I J = (okF r 10 23 ∧ GO x d 155 Q 57 [v0, v1, v2] (.inr (.inr (.inl (rfN r 23))) :: st) I J) := (ge (A := (39, 57, 10, 23, 0)) rfl).trans (gref (f := fun q => GO x d 155 Q 57 [v0, v1, v2] (.inr (.inr (.inl q)) :: st) I J))
set_option maxRecDepth 10000 in
theorem g_155_57 : GO x d 155 Q 57 [v0, some (.inl a), v2] st I J = GO x d 155 Q 58 [v0, some (.inl a), v2] (.inl a :: st) I J := ge (A := (1, 58, 1, 0, 0)) rfl
set_option maxRecDepth 10000 in
theorem h_155_58 : GO x d 155 Q 58 [v0, v1, v2] (.inl a :: .inr (.inr (.inr q)) :: st) I J = (q < 4 ∧ 0 ≤ a ∧ a < (roA x q).1 ∧ GO x d 155 Q 59 [v0, v1, v2] (.inl ((roA x q).2 a.toNat) :: st) I J) := ge (A := (44, 59, 0, 0, 0)) rfl
set_option maxRecDepth 10000 in
theorem g_155_58 : GO x d 155 Q 58 [v0, v1, v2] (.inl a :: .inr (.inr (.inl r)) :: st) I J = (okA r 20 ∧ 0 ≤ a ∧ a < lnN r ∧ GO x d 155 Q 59 [v0, v1, v2] (.inl (I r a) :: st) I J) := ge (A := (44, 59, 0, 0, 0)) rfl
set_option maxRecDepth 10000 in
theorem g_155_59 : GO x d 155 Q 59 [v0, v1, v2] st I J = GO x d 155 Q 64 [v0, v1, v2] st I J := ge (A := (35, 62, 64, 0, 0)) rfl
set_option maxRecDepth 10000 in
theorem g_155_62 : GO x d 155 Q 62 [v0, v1, v2] st I J = GO x d 155 Q 64 [v0, v1, v2] (.inl (-1000000) :: st) I J := ge (A := (0, 64, 0, 0, -1000000)) rfl
set_option maxRecDepth 10000 in
theorem g_155_64 : GO x d 155 Q 64 [v0, v1, v2] [.inl a] I J = Q (some (.inl a)) I J := ge (A := (55, 65, 0, 0, 0)) rfl
set_option maxRecDepth 10000 in
theorem e_155 : EX x (d + 1) 155 [.inr (.inr w0), .inl i0] I J Q = GO x d 155 Q 0 [some (.inr (.inr w0)), some (.inl i0), none] [] I J := ex_eq (Nat.le_of_ble_eq_true rfl) rfl (Nat.le_of_ble_eq_true rfl) rfl
set_option maxRecDepth 10000 in
theorem g_156_0 : GO x d 156 Q 0 [v0, v1, v2, v3, v4, v5, v6, v7] st I J = GO x d 156 Q 1 [v0, v1, v2, v3, v4, v5, v6, v7] (.inl (0) :: st) I J := ge (A := (0, 1, 0, 0, 0)) rfl
set_option maxRecDepth 10000 in
theorem g_156_1 : GO x d 156 Q 1 [v0, v1, v2, v3, v4, v5, v6, v7] (.inl a :: st) I J = (nlO (some v0) = true ∧ GO x d 156 Q 2 [v0, some (.inl a), v2, v3, v4, v5, v6, v7] st I J) := (ge (A := (4, 2, 1, 0, 0)) rfl).trans (gst (Nat.le_of_ble_eq_true rfl) _)
set_option maxRecDepth 10000 in
theorem g_156_2 : GO x d 156 Q 2 [v0, v1, v2, v3, v4, v5, v6, v7] st I J = GO x d 156 Q 5 [v0, v1, v2, v3, v4, v5, v6, v7] (.inl (255) :: st) I J := ge (A := (0, 5, 0, 0, 255)) rfl
set_option maxRecDepth 10000 in
theorem g_156_5 : GO x d 156 Q 5 [v0, v1, v2, v3, v4, v5, v6, v7] (.inl a :: st) I J = (nlO (some v1) = true ∧ GO x d 156 Q 6 [v0, v1, some (.inl a), v3, v4, v5, v6, v7] st I J) := (ge (A := (4, 6, 2, 0, 0)) rfl).trans (gst (Nat.le_of_ble_eq_true rfl) _)
set_option maxRecDepth 10000 in
theorem g_156_6 : GO x d 156 Q 6 [v0, v1, some (.inl a), v3, v4, v5, v6, v7] st I J = GO x d 156 Q 7 [v0, v1, some (.inl a), v3, v4, v5, v6, v7] (.inl a :: st) I J := ge (A := (1, 7, 2, 0, 0)) rfl
set_option maxRecDepth 10000 in
theorem g_156_7 : GO x d 156 Q 7 [v0, v1, v2, v3, v4, v5, v6, v7] (.inl a :: st) I J = (inR a ∧ if a < 0 then GO x d 156 Q 163 [v0, v1, v2, v3, v4, v5, v6, v7] st I J else GO x d 156 Q 10 [v0, v1, v2, v3, v4, v5, v6, v7] st I J) := (ge (A := (33, 10, 163, 2, 0)) rfl).trans (gif (p := a < 0) inferInstance)
set_option maxRecDepth 10000 in
theorem g_156_10 : GO x d 156 Q 10 [v0, v1, v2, v3, v4, v5, v6, v7] st I J = GO x d 156 Q 11 [v0, v1, v2, v3, v4, v5, v6, v7] (.inl (0) :: st) I J := ge (A := (0, 11, 0, 0, 0)) rfl
set_option maxRecDepth 10000 in
theorem g_156_11 : GO x d 156 Q 11 [v0, v1, v2, v3, v4, v5, v6, v7] (.inl a :: st) I J = (nlO (some v2) = true ∧ GO x d 156 Q 12 [v0, v1, v2, some (.inl a), v4, v5, v6, v7] st I J) := (ge (A := (4, 12, 3, 0, 0)) rfl).trans (gst (Nat.le_of_ble_eq_true rfl) _)
set_option maxRecDepth 10000 in
theorem g_156_12 : GO x d 156 Q 12 [v0, v1, v2, some (.inl a), v4, v5, v6, v7] st I J = GO x d 156 Q 13 [v0, v1, v2, some (.inl a), v4, v5, v6, v7] (.inl a :: st) I J := ge (A := (1, 13, 3, 0, 0)) rfl
set_option maxRecDepth 10000 in
theorem g_156_13 : GO x d 156 Q 13 [v0, v1, v2, v3, v4, v5, v6, v7] st I J = GO x d 156 Q 15 [v0, v1, v2, v3, v4, v5, v6, v7] (.inl (8) :: st) I J := ge (A := (0, 15, 0, 0, 8)) rfl
set_option maxRecDepth 10000 in
theorem g_156_15 : GO x d 156 Q 15 [v0, v1, v2, v3, v4, v5, v6, v7] (.inl b :: .inl a :: st) I J = (inR a ∧ inR b ∧ if a < b then GO x d 156 Q 18 [v0, v1, v2, v3, v4, v5, v6, v7] st I J else GO x d 156 Q 157 [v0, v1, v2, v3, v4, v5, v6, v7] st I J) := (ge (A := (34, 18, 157, 3, 0)) rfl).trans (ggec)
set_option maxRecDepth 10000 in
theorem g_156_18 : GO x d 156 Q 18 [v0, v1, v2, v3, v4, v5, v6, v7] st I J = GO x d 156 Q 19 [v0, v1, v2, v3, v4, v5, v6, v7] (.inl (0) :: st) I J := ge (A := (0, 19, 0, 0, 0)) rfl
set_option maxRecDepth 10000 in
theorem g_156_19 : GO x d 156 Q 19 [v0, v1, v2, v3, v4, v5, v6, v7] (.inl a :: st) I J = (nlO (some v3) = true ∧ GO x d 156 Q 21 [v0, v1, v2, v3, some (.inl a), v5, v6, v7] st I J) := (ge (A := (4, 21, 4, 0, 0)) rfl).trans (gst (Nat.le_of_ble_eq_true rfl) _)
set_option maxRecDepth 10000 in
theorem g_156_21 : GO x d 156 Q 21 [v0, v1, v2, v3, v4, v5, v6, v7] st I J = GO x d 156 Q 22 [v0, v1, v2, v3, v4, v5, v6, v7] (.inl (0) :: st) I J := ge (A := (0, 22, 0, 0, 0)) rfl
set_option maxRecDepth 10000 in
theorem g_156_22 : GO x d 156 Q 22 [v0, v1, v2, v3, v4, v5, v6, v7] (.inl a :: st) I J = (nlO (some v4) = true ∧ GO x d 156 Q 24 [v0, v1, v2, v3, v4, some (.inl a), v6, v7] st I J) := (ge (A := (4, 24, 5, 0, 0)) rfl).trans (gst (Nat.le_of_ble_eq_true rfl) _)
set_option maxRecDepth 10000 in
theorem g_156_24 : GO x d 156 Q 24 [v0, v1, v2, v3, v4, some (.inl a), v6, v7] st I J = GO x d 156 Q 26 [v0, v1, v2, v3, v4, some (.inl a), v6, v7] (.inl a :: st) I J := ge (A := (1, 26, 5, 0, 0)) rfl
set_option maxRecDepth 10000 in
theorem g_156_26 : GO x d 156 Q 26 [some (.inr (.inr w)), v1, v2, v3, v4, v5, v6, v7] st I J = GO x d 156 Q 27 [some (.inr (.inr w)), v1, v2, v3, v4, v5, v6, v7] (.inr (.inr w) :: st) I J := ge (A := (2, 27, 0, 0, 0)) rfl
set_option maxRecDepth 10000 in
theorem g_156_27 : GO x d 156 Q 27 [v0, v1, v2, v3, v4, v5, v6, v7] (.inr (.inr (.inl r)) :: st) I J = (okF r 10 2 ∧ GO x d 156 Q 30 [v0, v1, v2, v3, v4, v5, v6, v7] (.inr (.inr (.inl (rfN r 2))) :: st) I J) := (ge (A := (39, 30, 10, 2, 0)) rfl).trans (gref (f := fun q => GO x d 156 Q 30 [v0, v1, v2, v3, v4, v5, v6, v7] (.inr (.inr (.inl q)) :: st) I J))
set_option maxRecDepth 10000 in
theorem g_156_30 : GO x d 156 Q 30 [v0, v1, v2, v3, v4, v5, v6, v7] st I J = GO x d 156 Q 31 [v0, v1, v2, v3, v4, v5, v6, v7] (.inl (1) :: st) I J := ge (A := (0, 31, 0, 0, 1)) rfl
set_option maxRecDepth 10000 in
theorem h_156_31 : GO x d 156 Q 31 [v0, v1, v2, v3, v4, v5, v6, v7] (.inl a :: .inr (.inr (.inr q)) :: st) I J = (q < 4 ∧ 0 ≤ a ∧ a < (roA x q).1 ∧ GO x d 156 Q 32 [v0, v1, v2, v3, v4, v5, v6, v7] (.inl ((roA x q).2 a.toNat) :: st) I J) := ge (A := (44, 32, 0, 0, 0)) rfl
set_option maxRecDepth 10000 in
theorem g_156_31 : GO x d 156 Q 31 [v0, v1, v2, v3, v4, v5, v6, v7] (.inl a :: .inr (.inr (.inl r)) :: st) I J = (okA r 20 ∧ 0 ≤ a ∧ a < lnN r ∧ GO x d 156 Q 32 [v0, v1, v2, v3, v4, v5, v6, v7] (.inl (I r a) :: st) I J) := ge (A := (44, 32, 0, 0, 0)) rfl
set_option maxRecDepth 10000 in
theorem g_156_32 : GO x d 156 Q 32 [v0, v1, v2, v3, v4, v5, v6, v7] (.inl b :: .inl a :: st) I J = (inR a ∧ inR b ∧ if a < b then GO x d 156 Q 35 [v0, v1, v2, v3, v4, v5, v6, v7] st I J else GO x d 156 Q 138 [v0, v1, v2, v3, v4, v5, v6, v7] st I J) := (ge (A := (34, 35, 138, 3, 0)) rfl).trans (ggec)
set_option maxRecDepth 10000 in
theorem g_156_35 : GO x d 156 Q 35 [some (.inr (.inr w)), v1, v2, v3, v4, v5, v6, v7] st I J = GO x d 156 Q 36 [some (.inr (.inr w)), v1, v2, v3, v4, v5, v6, v7] (.inr (.inr w) :: st) I J := ge (A := (2, 36, 0, 0, 0)) rfl
set_option maxRecDepth 10000 in
theorem g_156_36 : GO x d 156 Q 36 [v0, v1, v2, some (.inl a), v4, v5, v6, v7] st I J = GO x d 156 Q 37 [v0, v1, v2, some (.inl a), v4, v5, v6, v7] (.inl a :: st) I J := ge (A := (1, 37, 3, 0, 0)) rfl
set_option maxRecDepth 10000 in
theorem g_156_37 : GO x d 156 Q 37 [v0, v1, v2, v3, v4, v5, v6, v7] [.inl i0, .inr (.inr (.inl r))] I J = (okO r 10 ∧ EX x d 111 [.inr (.inr (.inl r)), .inl i0] I J (fun r1 I1 J1 => GO x d 156 Q 40 [v0, v1, v2, v3, v4, v5, v6, v7] (r1.toList ++ []) I1 J1)) := (ge (A := (53, 40, 111, 1, 0)) rfl).trans (gtrue (Nat.le_of_ble_eq_true rfl))
set_option maxRecDepth 10000 in
theorem g_156_40 : GO x d 156 Q 40 [v0, v1, v2, v3, v4, v5, v6, v7] (.inl a :: st) I J = (inR a ∧ if a = 0 then GO x d 156 Q 138 [v0, v1, v2, v3, v4, v5, v6, v7] st I J else GO x d 156 Q 43 [v0, v1, v2, v3, v4, v5, v6, v7] st I J) := (ge (A := (33, 43, 138, 0, 0)) rfl).trans (gif (p := a = 0) inferInstance)
set_option maxRecDepth 10000 in
theorem g_156_43 : GO x d 156 Q 43 [v0, v1, some (.inl a), v3, v4, v5, v6, v7] st I J = GO x d 156 Q 44 [v0, v1, some (.inl a), v3, v4, v5, v6, v7] (.inl a :: st) I J := ge (A := (1, 44, 2, 0, 0)) rfl
set_option maxRecDepth 10000 in
theorem g_156_44 : GO x d 156 Q 44 [v0, v1, v2, v3, v4, some (.inl a), v6, v7] st I J = GO x d 156 Q 46 [v0, v1, v2, v3, v4, some (.inl a), v6, v7] (.inl a :: st) I J := ge (A := (1, 46, 5, 0, 0)) rfl
set_option maxRecDepth 10000 in
theorem g_156_46 : GO x d 156 Q 46 [v0, v1, v2, v3, v4, v5, v6, v7] (.inl b :: .inl a :: st) I J = GO x d 156 Q 47 [v0, v1, v2, v3, v4, v5, v6, v7] (.inl (shrI a b) :: st) I J := ge (A := (15, 47, 0, 0, 0)) rfl
set_option maxRecDepth 10000 in
theorem g_156_47 : GO x d 156 Q 47 [v0, v1, v2, v3, v4, v5, v6, v7] st I J = GO x d 156 Q 48 [v0, v1, v2, v3, v4, v5, v6, v7] (.inl (1) :: st) I J := ge (A := (0, 48, 0, 0, 1)) rfl
set_option maxRecDepth 10000 in
theorem g_156_48 : GO x d 156 Q 48 [v0, v1, v2, v3, v4, v5, v6, v7] (.inl b :: .inl a :: st) I J = GO x d 156 Q 49 [v0, v1, v2, v3, v4, v5, v6, v7] (.inl (andI a b) :: st) I J := ge (A := (11, 49, 0, 0, 0)) rfl
set_option maxRecDepth 10000 in
theorem g_156_49 : GO x d 156 Q 49 [v0, v1, v2, v3, v4, v5, v6, v7] (.inl a :: st) I J = (inR a ∧ if a = 0 then GO x d 156 Q 52 [v0, v1, v2, v3, v4, v5, v6, v7] st I J else GO x d 156 Q 83 [v0, v1, v2, v3, v4, v5, v6, v7] st I J) := (ge (A := (33, 52, 83, 1, 0)) rfl).trans (gifn (p := a = 0) inferInstance)
set_option maxRecDepth 10000 in
theorem g_156_52 : GO x d 156 Q 52 [some (.inr (.inr w)), v1, v2, v3, v4, v5, v6, v7] st I J = GO x d 156 Q 53 [some (.inr (.inr w)), v1, v2, v3, v4, v5, v6, v7] (.inr (.inr w) :: st) I J := ge (A := (2, 53, 0, 0, 0)) rfl
set_option maxRecDepth 10000 in
theorem g_156_53 : GO x d 156 Q 53 [v0, v1, v2, v3, v4, some (.inl a), v6, v7] st I J = GO x d 156 Q 55 [v0, v1, v2, v3, v4, some (.inl a), v6, v7] (.inl a :: st) I J := ge (A := (1, 55, 5, 0, 0)) rfl
set_option maxRecDepth 10000 in
theorem g_156_55 : GO x d 156 Q 55 [v0, v1, v2, v3, v4, v5, v6, v7] [.inl i0, .inr (.inr (.inl r))] I J = (okO r 10 ∧ EX x d 133 [.inr (.inr (.inl r)), .inl i0] I J (fun r1 I1 J1 => GO x d 156 Q 58 [v0, v1, v2, v3, v4, v5, v6, v7] (r1.toList ++ []) I1 J1)) := (ge (A := (53, 58, 133, 1, 0)) rfl).trans (gtrue (Nat.le_of_ble_eq_true rfl))
set_option maxRecDepth 10000 in
theorem g_156_58 : GO x d 156 Q 58 [v0, v1, v2, v3, v4, v5, v6, v7] (.inl a :: st) I J = (inR a ∧ if a = 0 then GO x d 156 Q 61 [v0, v1, v2, v3, v4, v5, v6, v7] st I J else GO x d 156 Q 83 [v0, v1, v2, v3, v4, v5, v6, v7] st I J) := (ge (A := (33, 61, 83, 1, 0)) rfl).trans (gifn (p := a = 0) inferInstance)
set_option maxRecDepth 10000 in
theorem g_156_61 : GO x d 156 Q 61 [some (.inr (.inr w)), v1, v2, v3, v4, v5, v6, v7] st I J = GO x d 156 Q 62 [some (.inr (.inr w)), v1, v2, v3, v4, v5, v6, v7] (.inr (.inr w) :: st) I J := ge (A := (2, 62, 0, 0, 0)) rfl
set_option maxRecDepth 10000 in
theorem g_156_62 : GO x d 156 Q 62 [v0, v1, v2, v3, v4, some (.inl a), v6, v7] st I J = GO x d 156 Q 64 [v0, v1, v2, v3, v4, some (.inl a), v6, v7] (.inl a :: st) I J := ge (A := (1, 64, 5, 0, 0)) rfl
set_option maxRecDepth 10000 in
theorem g_156_64 : GO x d 156 Q 64 [some (.inr (.inr w)), v1, v2, v3, v4, v5, v6, v7] st I J = GO x d 156 Q 65 [some (.inr (.inr w)), v1, v2, v3, v4, v5, v6, v7] (.inr (.inr w) :: st) I J := ge (A := (2, 65, 0, 0, 0)) rfl
set_option maxRecDepth 10000 in
theorem g_156_65 : GO x d 156 Q 65 [v0, v1, v2, v3, v4, v5, v6, v7] (.inr (.inr (.inl r)) :: st) I J = (okF r 10 2 ∧ GO x d 156 Q 68 [v0, v1, v2, v3, v4, v5, v6, v7] (.inr (.inr (.inl (rfN r 2))) :: st) I J) := (ge (A := (39, 68, 10, 2, 0)) rfl).trans (gref (f := fun q => GO x d 156 Q 68 [v0, v1, v2, v3, v4, v5, v6, v7] (.inr (.inr (.inl q)) :: st) I J))
set_option maxRecDepth 10000 in
theorem g_156_68 : GO x d 156 Q 68 [v0, v1, v2, v3, v4, v5, v6, v7] st I J = GO x d 156 Q 70 [v0, v1, v2, v3, v4, v5, v6, v7] (.inl (16) :: st) I J := ge (A := (0, 70, 0, 0, 16)) rfl
set_option maxRecDepth 10000 in
theorem g_156_70 : GO x d 156 Q 70 [v0, v1, v2, some (.inl a), v4, v5, v6, v7] st I J = GO x d 156 Q 71 [v0, v1, v2, some (.inl a), v4, v5, v6, v7] (.inl a :: st) I J := ge (A := (1, 71, 3, 0, 0)) rfl
set_option maxRecDepth 10000 in
theorem g_156_71 : GO x d 156 Q 71 [v0, v1, v2, v3, v4, v5, v6, v7] (.inl b :: .inl a :: st) I J = GO x d 156 Q 72 [v0, v1, v2, v3, v4, v5, v6, v7] (.inl (a + b) :: st) I J := ge (A := (8, 72, 0, 0, 0)) rfl
set_option maxRecDepth 10000 in
theorem h_156_72 : GO x d 156 Q 72 [v0, v1, v2, v3, v4, v5, v6, v7] (.inl a :: .inr (.inr (.inr q)) :: st) I J = (q < 4 ∧ 0 ≤ a ∧ a < (roA x q).1 ∧ GO x d 156 Q 73 [v0, v1, v2, v3, v4, v5, v6, v7] (.inl ((roA x q).2 a.toNat) :: st) I J) := ge (A := (44, 73, 0, 0, 0)) rfl
set_option maxRecDepth 10000 in
theorem g_156_72 : GO x d 156 Q 72 [v0, v1, v2, v3, v4, v5, v6, v7] (.inl a :: .inr (.inr (.inl r)) :: st) I J = (okA r 20 ∧ 0 ≤ a ∧ a < lnN r ∧ GO x d 156 Q 73 [v0, v1, v2, v3, v4, v5, v6, v7] (.inl (I r a) :: st) I J) := ge (A := (44, 73, 0, 0, 0)) rfl
set_option maxRecDepth 10000 in
theorem g_156_73 : GO x d 156 Q 73 [v0, v1, v2, v3, v4, v5, v6, v7] [.inl i0, .inl i1, .inr (.inr (.inl r))] I J = (okO r 10 ∧ EX x d 134 [.inr (.inr (.inl r)), .inl i1, .inl i0] I J (fun r1 I1 J1 => GO x d 156 Q 76 [v0, v1, v2, v3, v4, v5, v6, v7] (r1.toList ++ []) I1 J1)) := (ge (A := (53, 76, 134, 2, 0)) rfl).trans (gtrue (Nat.le_of_ble_eq_true rfl))
set_option maxRecDepth 10000 in
theorem g_156_76 : GO x d 156 Q 76 [v0, v1, v2, v3, v4, v5, v6, v7] (.inl a :: st) I J = (inR a ∧ if a = 0 then GO x d 156 Q 83 [v0, v1, v2, v3, v4, v5, v6, v7] st I J else GO x d 156 Q 79 [v0, v1, v2, v3, v4, v5, v6, v7] st I J) := (ge (A := (33, 79, 83, 0, 0)) rfl).trans (gif (p := a = 0) inferInstance)
set_option maxRecDepth 10000 in
theorem g_156_79 : GO x d 156 Q 79 [v0, v1, v2, v3, v4, v5, v6, v7] st I J = GO x d 156 Q 80 [v0, v1, v2, v3, v4, v5, v6, v7] (.inl (1) :: st) I J := ge (A := (0, 80, 0, 0, 1)) rfl
set_option maxRecDepth 10000 in
theorem g_156_80 : GO x d 156 Q 80 [v0, v1, v2, v3, v4, v5, v6, v7] st I J = GO x d 156 Q 84 [v0, v1, v2, v3, v4, v5, v6, v7] st I J := ge (A := (35, 83, 84, 0, 0)) rfl
set_option maxRecDepth 10000 in
theorem g_156_83 : GO x d 156 Q 83 [v0, v1, v2, v3, v4, v5, v6, v7] st I J = GO x d 156 Q 84 [v0, v1, v2, v3, v4, v5, v6, v7] (.inl (0) :: st) I J := ge (A := (0, 84, 0, 0, 0)) rfl
set_option maxRecDepth 10000 in
theorem g_156_84 : GO x d 156 Q 84 [v0, v1, v2, v3, v4, v5, v6, v7] (.inl a :: st) I J = (nlO (some v5) = true ∧ GO x d 156 Q 86 [v0, v1, v2, v3, v4, v5, some (.inl a), v7] st I J) := (ge (A := (4, 86, 6, 0, 0)) rfl).trans (gst (Nat.le_of_ble_eq_true rfl) _)
set_option maxRecDepth 10000 in
theorem g_156_86 : GO x d 156 Q 86 [v0, v1, v2, v3, v4, v5, some (.inl a), v7] st I J = GO x d 156 Q 88 [v0, v1, v2, v3, v4, v5, some (.inl a), v7] (.inl a :: st) I J := ge (A := (1, 88, 6, 0, 0)) rfl
set_option maxRecDepth 10000 in
theorem g_156_88 : GO x d 156 Q 88 [v0, v1, v2, v3, v4, v5, v6, v7] (.inl a :: st) I J = (inR a ∧ if a = 0 then GO x d 156 Q 113 [v0, v1, v2, v3, v4, v5, v6, v7] st I J else GO x d 156 Q 91 [v0, v1, v2, v3, v4, v5, v6, v7] st I J) := (ge (A := (33, 91, 113, 0, 0)) rfl).trans (gif (p := a = 0) inferInstance)
set_option maxRecDepth 10000 in
theorem g_156_91 : GO x d 156 Q 91 [v0, v1, v2, v3, v4, v5, v6, v7] st I J = GO x d 156 Q 92 [v0, v1, v2, v3, v4, v5, v6, v7] (.inl (1) :: st) I J := ge (A := (0, 92, 0, 0, 1)) rfl
set_option maxRecDepth 10000 in
theorem g_156_92 : GO x d 156 Q 92 [some (.inr (.inr w)), v1, v2, v3, v4, v5, v6, v7] st I J = GO x d 156 Q 93 [some (.inr (.inr w)), v1, v2, v3, v4, v5, v6, v7] (.inr (.inr w) :: st) I J := ge (A := (2, 93, 0, 0, 0)) rfl
set_option maxRecDepth 10000 in
theorem g_156_93 : GO x d 156 Q 93 [v0, v1, v2, v3, v4, v5, v6, v7] (.inr (.inr (.inl r)) :: st) I J = (okF r 10 25 ∧ GO x d 156 Q 96 [v0, v1, v2, v3, v4, v5, v6, v7] (.inr (.inr (.inl (rfN r 25))) :: st) I J) := (ge (A := (39, 96, 10, 25, 0)) rfl).trans (gref (f := fun q => GO x d 156 Q 96 [v0, v1, v2, v3, v4, v5, v6, v7] (.inr (.inr (.inl q)) :: st) I J))
set_option maxRecDepth 10000 in
theorem g_156_96 : GO x d 156 Q 96 [v0, v1, v2, v3, v4, v5, v6, v7] st I J = GO x d 156 Q 98 [v0, v1, v2, v3, v4, v5, v6, v7] (.inl (8) :: st) I J := ge (A := (0, 98, 0, 0, 8)) rfl
set_option maxRecDepth 10000 in
theorem g_156_98 : GO x d 156 Q 98 [v0, v1, some (.inl a), v3, v4, v5, v6, v7] st I J = GO x d 156 Q 99 [v0, v1, some (.inl a), v3, v4, v5, v6, v7] (.inl a :: st) I J := ge (A := (1, 99, 2, 0, 0)) rfl
set_option maxRecDepth 10000 in
theorem g_156_99 : GO x d 156 Q 99 [v0, v1, v2, v3, v4, v5, v6, v7] st I J = GO x d 156 Q 100 [v0, v1, v2, v3, v4, v5, v6, v7] (.inl (1) :: st) I J := ge (A := (0, 100, 0, 0, 1)) rfl
set_option maxRecDepth 10000 in
theorem g_156_100 : GO x d 156 Q 100 [v0, v1, v2, v3, v4, some (.inl a), v6, v7] st I J = GO x d 156 Q 102 [v0, v1, v2, v3, v4, some (.inl a), v6, v7] (.inl a :: st) I J := ge (A := (1, 102, 5, 0, 0)) rfl
set_option maxRecDepth 10000 in
theorem g_156_102 : GO x d 156 Q 102 [v0, v1, v2, v3, v4, v5, v6, v7] (.inl b :: .inl a :: st) I J = GO x d 156 Q 103 [v0, v1, v2, v3, v4, v5, v6, v7] (.inl (shlI a b) :: st) I J := ge (A := (14, 103, 0, 0, 0)) rfl
set_option maxRecDepth 10000 in
theorem g_156_103 : GO x d 156 Q 103 [v0, v1, v2, v3, v4, v5, v6, v7] (.inl b :: .inl a :: st) I J = GO x d 156 Q 104 [v0, v1, v2, v3, v4, v5, v6, v7] (.inl (orI a b) :: st) I J := ge (A := (12, 104, 0, 0, 0)) rfl
set_option maxRecDepth 10000 in
theorem g_156_104 : GO x d 156 Q 104 [v0, v1, v2, v3, v4, v5, v6, v7] (.inl b :: .inl a :: st) I J = GO x d 156 Q 105 [v0, v1, v2, v3, v4, v5, v6, v7] (.inl (a * b) :: st) I J := ge (A := (10, 105, 0, 0, 0)) rfl
set_option maxRecDepth 10000 in
theorem g_156_105 : GO x d 156 Q 105 [v0, v1, v2, v3, v4, some (.inl a), v6, v7] st I J = GO x d 156 Q 107 [v0, v1, v2, v3, v4, some (.inl a), v6, v7] (.inl a :: st) I J := ge (A := (1, 107, 5, 0, 0)) rfl
set_option maxRecDepth 10000 in
theorem g_156_107 : GO x d 156 Q 107 [v0, v1, v2, v3, v4, v5, v6, v7] (.inl b :: .inl a :: st) I J = GO x d 156 Q 108 [v0, v1, v2, v3, v4, v5, v6, v7] (.inl (a + b) :: st) I J := ge (A := (8, 108, 0, 0, 0)) rfl
set_option maxRecDepth 10000 in
theorem h_156_108 : GO x d 156 Q 108 [v0, v1, v2, v3, v4, v5, v6, v7] (.inl a :: .inr (.inr (.inr q)) :: st) I J = (q < 4 ∧ 0 ≤ a ∧ a < (roA x q).1 ∧ GO x d 156 Q 109 [v0, v1, v2, v3, v4, v5, v6, v7] (.inl ((roA x q).2 a.toNat) :: st) I J) := ge (A := (44, 109, 0, 0, 0)) rfl
set_option maxRecDepth 10000 in
theorem g_156_108 : GO x d 156 Q 108 [v0, v1, v2, v3, v4, v5, v6, v7] (.inl a :: .inr (.inr (.inl r)) :: st) I J = (okA r 20 ∧ 0 ≤ a ∧ a < lnN r ∧ GO x d 156 Q 109 [v0, v1, v2, v3, v4, v5, v6, v7] (.inl (I r a) :: st) I J) := ge (A := (44, 109, 0, 0, 0)) rfl
set_option maxRecDepth 10000 in
theorem g_156_109 : GO x d 156 Q 109 [v0, v1, v2, v3, v4, v5, v6, v7] (.inl b :: .inl a :: st) I J = GO x d 156 Q 110 [v0, v1, v2, v3, v4, v5, v6, v7] (.inl (a + b) :: st) I J := ge (A := (8, 110, 0, 0, 0)) rfl
set_option maxRecDepth 10000 in
theorem g_156_110 : GO x d 156 Q 110 [v0, v1, v2, v3, v4, v5, v6, v7] st I J = GO x d 156 Q 114 [v0, v1, v2, v3, v4, v5, v6, v7] st I J := ge (A := (35, 113, 114, 0, 0)) rfl
set_option maxRecDepth 10000 in
theorem g_156_113 : GO x d 156 Q 113 [v0, v1, v2, v3, v4, v5, v6, v7] st I J = GO x d 156 Q 114 [v0, v1, v2, v3, v4, v5, v6, v7] (.inl (0) :: st) I J := ge (A := (0, 114, 0, 0, 0)) rfl
set_option maxRecDepth 10000 in
theorem g_156_114 : GO x d 156 Q 114 [v0, v1, v2, v3, v4, v5, v6, v7] (.inl a :: st) I J = (nlO (some v6) = true ∧ GO x d 156 Q 116 [v0, v1, v2, v3, v4, v5, v6, some (.inl a)] st I J) := (ge (A := (4, 116, 7, 0, 0)) rfl).trans (gst (Nat.le_of_ble_eq_true rfl) _)
set_option maxRecDepth 10000 in
theorem g_156_116 : GO x d 156 Q 116 [v0, v1, v2, v3, v4, v5, v6, some (.inl a)] st I J = GO x d 156 Q 118 [v0, v1, v2, v3, v4, v5, v6, some (.inl a)] (.inl a :: st) I J := ge (A := (1, 118, 7, 0, 0)) rfl
set_option maxRecDepth 10000 in
theorem g_156_118 : GO x d 156 Q 118 [v0, v1, v2, v3, some (.inl a), v5, v6, v7] st I J = GO x d 156 Q 120 [v0, v1, v2, v3, some (.inl a), v5, v6, v7] (.inl a :: st) I J := ge (A := (1, 120, 4, 0, 0)) rfl
set_option maxRecDepth 10000 in
theorem g_156_120 : GO x d 156 Q 120 [v0, v1, v2, v3, v4, v5, v6, v7] (.inl b :: .inl a :: st) I J = (inR a ∧ inR b ∧ if b < a then GO x d 156 Q 123 [v0, v1, v2, v3, v4, v5, v6, v7] st I J else GO x d 156 Q 128 [v0, v1, v2, v3, v4, v5, v6, v7] st I J) := (ge (A := (34, 123, 128, 5, 0)) rfl).trans (ggec)
set_option maxRecDepth 10000 in
theorem g_156_123 : GO x d 156 Q 123 [v0, v1, v2, v3, v4, v5, v6, some (.inl a)] st I J = GO x d 156 Q 125 [v0, v1, v2, v3, v4, v5, v6, some (.inl a)] (.inl a :: st) I J := ge (A := (1, 125, 7, 0, 0)) rfl
set_option maxRecDepth 10000 in
theorem g_156_125 : GO x d 156 Q 125 [v0, v1, v2, v3, v4, v5, v6, v7] st I J = GO x d 156 Q 130 [v0, v1, v2, v3, v4, v5, v6, v7] st I J := ge (A := (35, 128, 130, 0, 0)) rfl
set_option maxRecDepth 10000 in
theorem g_156_128 : GO x d 156 Q 128 [v0, v1, v2, v3, some (.inl a), v5, v6, v7] st I J = GO x d 156 Q 130 [v0, v1, v2, v3, some (.inl a), v5, v6, v7] (.inl a :: st) I J := ge (A := (1, 130, 4, 0, 0)) rfl
set_option maxRecDepth 10000 in
theorem g_156_130 : GO x d 156 Q 130 [v0, v1, v2, v3, v4, v5, v6, v7] (.inl a :: st) I J = (nlO (some v3) = true ∧ GO x d 156 Q 132 [v0, v1, v2, v3, some (.inl a), v5, v6, v7] st I J) := (ge (A := (4, 132, 4, 0, 0)) rfl).trans (gst (Nat.le_of_ble_eq_true rfl) _)
set_option maxRecDepth 10000 in
theorem g_156_132 : GO x d 156 Q 132 [v0, v1, v2, v3, v4, some (.inl a), v6, v7] st I J = (nlO (some v4) = true ∧ GO x d 156 Q 135 [v0, v1, v2, v3, v4, some (.inl (a + (1))), v6, v7] st I J) := ge (A := (7, 135, 5, 0, 1)) rfl
set_option maxRecDepth 10000 in
theorem g_156_135 : GO x d 156 Q 135 [v0, v1, v2, v3, v4, v5, v6, v7] st I J = GO x d 156 Q 24 [v0, v1, v2, v3, v4, v5, v6, v7] st I J := ge (A := (35, 138, 24, 0, 0)) rfl
set_option maxRecDepth 10000 in
theorem g_156_138 : GO x d 156 Q 138 [some (.inr (.inr w)), v1, v2, v3, v4, v5, v6, v7] st I J = GO x d 156 Q 139 [some (.inr (.inr w)), v1, v2, v3, v4, v5, v6, v7] (.inr (.inr w) :: st) I J := ge (A := (2, 139, 0, 0, 0)) rfl
set_option maxRecDepth 10000 in
theorem g_156_139 : GO x d 156 Q 139 [v0, v1, v2, v3, v4, v5, v6, v7] (.inr (.inr (.inl r)) :: st) I J = (okF r 10 25 ∧ GO x d 156 Q 142 [v0, v1, v2, v3, v4, v5, v6, v7] (.inr (.inr (.inl (rfN r 25))) :: st) I J) := (ge (A := (39, 142, 10, 25, 0)) rfl).trans (gref (f := fun q => GO x d 156 Q 142 [v0, v1, v2, v3, v4, v5, v6, v7] (.inr (.inr (.inl q)) :: st) I J))
set_option maxRecDepth 10000 in
theorem g_156_142 : GO x d 156 Q 142 [v0, v1, v2, v3, v4, v5, v6, v7] st I J = GO x d 156 Q 144 [v0, v1, v2, v3, v4, v5, v6, v7] (.inl (8) :: st) I J := ge (A := (0, 144, 0, 0, 8)) rfl
set_option maxRecDepth 10000 in
theorem g_156_144 : GO x d 156 Q 144 [v0, v1, some (.inl a), v3, v4, v5, v6, v7] st I J = GO x d 156 Q 145 [v0, v1, some (.inl a), v3, v4, v5, v6, v7] (.inl a :: st) I J := ge (A := (1, 145, 2, 0, 0)) rfl
set_option maxRecDepth 10000 in
theorem g_156_145 : GO x d 156 Q 145 [v0, v1, v2, v3, v4, v5, v6, v7] (.inl b :: .inl a :: st) I J = GO x d 156 Q 146 [v0, v1, v2, v3, v4, v5, v6, v7] (.inl (a * b) :: st) I J := ge (A := (10, 146, 0, 0, 0)) rfl
set_option maxRecDepth 10000 in
theorem g_156_146 : GO x d 156 Q 146 [v0, v1, v2, some (.inl a), v4, v5, v6, v7] st I J = GO x d 156 Q 147 [v0, v1, v2, some (.inl a), v4, v5, v6, v7] (.inl a :: st) I J := ge (A := (1, 147, 3, 0, 0)) rfl
set_option maxRecDepth 10000 in
theorem g_156_147 : GO x d 156 Q 147 [v0, v1, v2, v3, v4, v5, v6, v7] (.inl b :: .inl a :: st) I J = GO x d 156 Q 148 [v0, v1, v2, v3, v4, v5, v6, v7] (.inl (a + b) :: st) I J := ge (A := (8, 148, 0, 0, 0)) rfl
set_option maxRecDepth 10000 in
theorem g_156_148 : GO x d 156 Q 148 [v0, v1, v2, v3, some (.inl a), v5, v6, v7] st I J = GO x d 156 Q 150 [v0, v1, v2, v3, some (.inl a), v5, v6, v7] (.inl a :: st) I J := ge (A := (1, 150, 4, 0, 0)) rfl
set_option maxRecDepth 10000 in
theorem g_156_150 : GO x d 156 Q 150 [v0, v1, v2, v3, v4, v5, v6, v7] (.inl b :: .inl a :: .inr (.inr (.inl r)) :: st) I J = (okA r 20 ∧ 0 ≤ a ∧ a < lnN r ∧ GO x d 156 Q 151 [v0, v1, v2, v3, v4, v5, v6, v7] st (up I r a b) J) := ge (A := (45, 151, 0, 0, 0)) rfl
set_option maxRecDepth 10000 in
theorem g_156_151 : GO x d 156 Q 151 [v0, v1, v2, some (.inl a), v4, v5, v6, v7] st I J = (nlO (some v2) = true ∧ GO x d 156 Q 154 [v0, v1, v2, some (.inl (a + (1))), v4, v5, v6, v7] st I J) := ge (A := (7, 154, 3, 0, 1)) rfl
set_option maxRecDepth 10000 in
theorem g_156_154 : GO x d 156 Q 154 [v0, v1, v2, v3, v4, v5, v6, v7] st I J = GO x d 156 Q 12 [v0, v1, v2, v3, v4, v5, v6, v7] st I J := ge (A := (35, 157, 12, 0, 0)) rfl
set_option maxRecDepth 10000 in
theorem g_156_157 : GO x d 156 Q 157 [v0, v1, some (.inl a), v3, v4, v5, v6, v7] st I J = (nlO (some v1) = true ∧ GO x d 156 Q 160 [v0, v1, some (.inl (a + (-1))), v3, v4, v5, v6, v7] st I J) := ge (A := (7, 160, 2, 0, -1)) rfl
set_option maxRecDepth 10000 in
theorem g_156_160 : GO x d 156 Q 160 [v0, v1, v2, v3, v4, v5, v6, v7] st I J = GO x d 156 Q 6 [v0, v1, v2, v3, v4, v5, v6, v7] st I J := ge (A := (35, 163, 6, 0, 0)) rfl
set_option maxRecDepth 10000 in
theorem g_156_163 : GO x d 156 Q 163 [v0, v1, v2, v3, v4, v5, v6, v7] st I J = GO x d 156 Q 164 [v0, v1, v2, v3, v4, v5, v6, v7] (.inl (0) :: st) I J := ge (A := (0, 164, 0, 0, 0)) rfl
set_option maxRecDepth 10000 in
theorem g_156_164 : GO x d 156 Q 164 [v0, v1, v2, v3, v4, v5, v6, v7] (.inl a :: st) I J = (nlO (some v1) = true ∧ GO x d 156 Q 165 [v0, v1, some (.inl a), v3, v4, v5, v6, v7] st I J) := (ge (A := (4, 165, 2, 0, 0)) rfl).trans (gst (Nat.le_of_ble_eq_true rfl) _)
set_option maxRecDepth 10000 in
theorem g_156_165 : GO x d 156 Q 165 [v0, v1, some (.inl a), v3, v4, v5, v6, v7] st I J = GO x d 156 Q 166 [v0, v1, some (.inl a), v3, v4, v5, v6, v7] (.inl a :: st) I J := ge (A := (1, 166, 2, 0, 0)) rfl
set_option maxRecDepth 10000 in
theorem g_156_166 : GO x d 156 Q 166 [some (.inr (.inr w)), v1, v2, v3, v4, v5, v6, v7] st I J = GO x d 156 Q 167 [some (.inr (.inr w)), v1, v2, v3, v4, v5, v6, v7] (.inr (.inr w) :: st) I J := ge (A := (2, 167, 0, 0, 0)) rfl
set_option maxRecDepth 10000 in
theorem g_156_167 : GO x d 156 Q 167 [v0, v1, v2, v3, v4, v5, v6, v7] (.inr (.inr (.inl r)) :: st) I J = (okF r 10 2 ∧ GO x d 156 Q 170 [v0, v1, v2, v3, v4, v5, v6, v7] (.inr (.inr (.inl (rfN r 2))) :: st) I J) := (ge (A := (39, 170, 10, 2, 0)) rfl).trans (gref (f := fun q => GO x d 156 Q 170 [v0, v1, v2, v3, v4, v5, v6, v7] (.inr (.inr (.inl q)) :: st) I J))
set_option maxRecDepth 10000 in
theorem g_156_170 : GO x d 156 Q 170 [v0, v1, v2, v3, v4, v5, v6, v7] st I J = GO x d 156 Q 171 [v0, v1, v2, v3, v4, v5, v6, v7] (.inl (1) :: st) I J := ge (A := (0, 171, 0, 0, 1)) rfl
set_option maxRecDepth 10000 in
theorem h_156_171 : GO x d 156 Q 171 [v0, v1, v2, v3, v4, v5, v6, v7] (.inl a :: .inr (.inr (.inr q)) :: st) I J = (q < 4 ∧ 0 ≤ a ∧ a < (roA x q).1 ∧ GO x d 156 Q 172 [v0, v1, v2, v3, v4, v5, v6, v7] (.inl ((roA x q).2 a.toNat) :: st) I J) := ge (A := (44, 172, 0, 0, 0)) rfl
set_option maxRecDepth 10000 in
theorem g_156_171 : GO x d 156 Q 171 [v0, v1, v2, v3, v4, v5, v6, v7] (.inl a :: .inr (.inr (.inl r)) :: st) I J = (okA r 20 ∧ 0 ≤ a ∧ a < lnN r ∧ GO x d 156 Q 172 [v0, v1, v2, v3, v4, v5, v6, v7] (.inl (I r a) :: st) I J) := ge (A := (44, 172, 0, 0, 0)) rfl
set_option maxRecDepth 10000 in
theorem g_156_172 : GO x d 156 Q 172 [v0, v1, v2, v3, v4, v5, v6, v7] (.inl b :: .inl a :: st) I J = (inR a ∧ inR b ∧ if a < b then GO x d 156 Q 175 [v0, v1, v2, v3, v4, v5, v6, v7] st I J else GO x d 156 Q 220 [v0, v1, v2, v3, v4, v5, v6, v7] st I J) := (ge (A := (34, 175, 220, 3, 0)) rfl).trans (ggec)
set_option maxRecDepth 10000 in
theorem g_156_175 : GO x d 156 Q 175 [some (.inr (.inr w)), v1, v2, v3, v4, v5, v6, v7] st I J = GO x d 156 Q 176 [some (.inr (.inr w)), v1, v2, v3, v4, v5, v6, v7] (.inr (.inr w) :: st) I J := ge (A := (2, 176, 0, 0, 0)) rfl
set_option maxRecDepth 10000 in
theorem g_156_176 : GO x d 156 Q 176 [v0, v1, some (.inl a), v3, v4, v5, v6, v7] st I J = GO x d 156 Q 177 [v0, v1, some (.inl a), v3, v4, v5, v6, v7] (.inl a :: st) I J := ge (A := (1, 177, 2, 0, 0)) rfl
set_option maxRecDepth 10000 in
theorem g_156_177 : GO x d 156 Q 177 [v0, v1, v2, v3, v4, v5, v6, v7] [.inl i0, .inr (.inr (.inl r))] I J = (okO r 10 ∧ EX x d 135 [.inr (.inr (.inl r)), .inl i0] I J (fun r1 I1 J1 => GO x d 156 Q 180 [v0, v1, v2, v3, v4, v5, v6, v7] (r1.toList ++ []) I1 J1)) := (ge (A := (53, 180, 135, 1, 0)) rfl).trans (gtrue (Nat.le_of_ble_eq_true rfl))
set_option maxRecDepth 10000 in
theorem g_156_180 : GO x d 156 Q 180 [v0, v1, v2, v3, v4, v5, v6, v7] (.inl a :: st) I J = (inR a ∧ if a = 0 then GO x d 156 Q 201 [v0, v1, v2, v3, v4, v5, v6, v7] st I J else GO x d 156 Q 183 [v0, v1, v2, v3, v4, v5, v6, v7] st I J) := (ge (A := (33, 183, 201, 0, 0)) rfl).trans (gif (p := a = 0) inferInstance)
set_option maxRecDepth 10000 in
theorem g_156_183 : GO x d 156 Q 183 [v0, v1, v2, v3, v4, v5, v6, v7] st I J = GO x d 156 Q 184 [v0, v1, v2, v3, v4, v5, v6, v7] (.inl (1) :: st) I J := ge (A := (0, 184, 0, 0, 1)) rfl
set_option maxRecDepth 10000 in
theorem g_156_184 : GO x d 156 Q 184 [some (.inr (.inr w)), v1, v2, v3, v4, v5, v6, v7] st I J = GO x d 156 Q 185 [some (.inr (.inr w)), v1, v2, v3, v4, v5, v6, v7] (.inr (.inr w) :: st) I J := ge (A := (2, 185, 0, 0, 0)) rfl
set_option maxRecDepth 10000 in
theorem g_156_185 : GO x d 156 Q 185 [v0, v1, v2, v3, v4, v5, v6, v7] (.inr (.inr (.inl r)) :: st) I J = (okF r 10 25 ∧ GO x d 156 Q 188 [v0, v1, v2, v3, v4, v5, v6, v7] (.inr (.inr (.inl (rfN r 25))) :: st) I J) := (ge (A := (39, 188, 10, 25, 0)) rfl).trans (gref (f := fun q => GO x d 156 Q 188 [v0, v1, v2, v3, v4, v5, v6, v7] (.inr (.inr (.inl q)) :: st) I J))
set_option maxRecDepth 10000 in
theorem g_156_188 : GO x d 156 Q 188 [v0, v1, v2, v3, v4, v5, v6, v7] st I J = GO x d 156 Q 190 [v0, v1, v2, v3, v4, v5, v6, v7] (.inl (8) :: st) I J := ge (A := (0, 190, 0, 0, 8)) rfl
set_option maxRecDepth 10000 in
theorem g_156_190 : GO x d 156 Q 190 [v0, v1, v2, v3, v4, v5, v6, v7] st I J = GO x d 156 Q 191 [v0, v1, v2, v3, v4, v5, v6, v7] (.inl (1) :: st) I J := ge (A := (0, 191, 0, 0, 1)) rfl
set_option maxRecDepth 10000 in
theorem g_156_191 : GO x d 156 Q 191 [v0, v1, some (.inl a), v3, v4, v5, v6, v7] st I J = GO x d 156 Q 192 [v0, v1, some (.inl a), v3, v4, v5, v6, v7] (.inl a :: st) I J := ge (A := (1, 192, 2, 0, 0)) rfl
set_option maxRecDepth 10000 in
theorem g_156_192 : GO x d 156 Q 192 [v0, v1, v2, v3, v4, v5, v6, v7] (.inl b :: .inl a :: st) I J = GO x d 156 Q 193 [v0, v1, v2, v3, v4, v5, v6, v7] (.inl (shlI a b) :: st) I J := ge (A := (14, 193, 0, 0, 0)) rfl
set_option maxRecDepth 10000 in
theorem g_156_193 : GO x d 156 Q 193 [v0, v1, v2, v3, v4, v5, v6, v7] (.inl b :: .inl a :: st) I J = GO x d 156 Q 194 [v0, v1, v2, v3, v4, v5, v6, v7] (.inl (a * b) :: st) I J := ge (A := (10, 194, 0, 0, 0)) rfl
set_option maxRecDepth 10000 in
theorem g_156_194 : GO x d 156 Q 194 [v0, v1, some (.inl a), v3, v4, v5, v6, v7] st I J = GO x d 156 Q 195 [v0, v1, some (.inl a), v3, v4, v5, v6, v7] (.inl a :: st) I J := ge (A := (1, 195, 2, 0, 0)) rfl
set_option maxRecDepth 10000 in
theorem g_156_195 : GO x d 156 Q 195 [v0, v1, v2, v3, v4, v5, v6, v7] (.inl b :: .inl a :: st) I J = GO x d 156 Q 196 [v0, v1, v2, v3, v4, v5, v6, v7] (.inl (a + b) :: st) I J := ge (A := (8, 196, 0, 0, 0)) rfl
set_option maxRecDepth 10000 in
theorem h_156_196 : GO x d 156 Q 196 [v0, v1, v2, v3, v4, v5, v6, v7] (.inl a :: .inr (.inr (.inr q)) :: st) I J = (q < 4 ∧ 0 ≤ a ∧ a < (roA x q).1 ∧ GO x d 156 Q 197 [v0, v1, v2, v3, v4, v5, v6, v7] (.inl ((roA x q).2 a.toNat) :: st) I J) := ge (A := (44, 197, 0, 0, 0)) rfl
set_option maxRecDepth 10000 in
theorem g_156_196 : GO x d 156 Q 196 [v0, v1, v2, v3, v4, v5, v6, v7] (.inl a :: .inr (.inr (.inl r)) :: st) I J = (okA r 20 ∧ 0 ≤ a ∧ a < lnN r ∧ GO x d 156 Q 197 [v0, v1, v2, v3, v4, v5, v6, v7] (.inl (I r a) :: st) I J) := ge (A := (44, 197, 0, 0, 0)) rfl
set_option maxRecDepth 10000 in
theorem g_156_197 : GO x d 156 Q 197 [v0, v1, v2, v3, v4, v5, v6, v7] (.inl b :: .inl a :: st) I J = GO x d 156 Q 198 [v0, v1, v2, v3, v4, v5, v6, v7] (.inl (a + b) :: st) I J := ge (A := (8, 198, 0, 0, 0)) rfl
set_option maxRecDepth 10000 in
theorem g_156_198 : GO x d 156 Q 198 [v0, v1, v2, v3, v4, v5, v6, v7] st I J = GO x d 156 Q 202 [v0, v1, v2, v3, v4, v5, v6, v7] st I J := ge (A := (35, 201, 202, 0, 0)) rfl
set_option maxRecDepth 10000 in
theorem g_156_201 : GO x d 156 Q 201 [v0, v1, v2, v3, v4, v5, v6, v7] st I J = GO x d 156 Q 202 [v0, v1, v2, v3, v4, v5, v6, v7] (.inl (0) :: st) I J := ge (A := (0, 202, 0, 0, 0)) rfl
set_option maxRecDepth 10000 in
theorem g_156_202 : GO x d 156 Q 202 [v0, v1, v2, v3, v4, v5, v6, v7] (.inl a :: st) I J = (nlO (some v2) = true ∧ GO x d 156 Q 203 [v0, v1, v2, some (.inl a), v4, v5, v6, v7] st I J) := (ge (A := (4, 203, 3, 0, 0)) rfl).trans (gst (Nat.le_of_ble_eq_true rfl) _)
set_option maxRecDepth 10000 in
theorem g_156_203 : GO x d 156 Q 203 [v0, v1, v2, some (.inl a), v4, v5, v6, v7] st I J = GO x d 156 Q 204 [v0, v1, v2, some (.inl a), v4, v5, v6, v7] (.inl a :: st) I J := ge (A := (1, 204, 3, 0, 0)) rfl
set_option maxRecDepth 10000 in
theorem g_156_204 : GO x d 156 Q 204 [v0, some (.inl a), v2, v3, v4, v5, v6, v7] st I J = GO x d 156 Q 205 [v0, some (.inl a), v2, v3, v4, v5, v6, v7] (.inl a :: st) I J := ge (A := (1, 205, 1, 0, 0)) rfl
set_option maxRecDepth 10000 in
theorem g_156_205 : GO x d 156 Q 205 [v0, v1, v2, v3, v4, v5, v6, v7] (.inl b :: .inl a :: st) I J = (inR a ∧ inR b ∧ if b < a then GO x d 156 Q 208 [v0, v1, v2, v3, v4, v5, v6, v7] st I J else GO x d 156 Q 212 [v0, v1, v2, v3, v4, v5, v6, v7] st I J) := (ge (A := (34, 208, 212, 5, 0)) rfl).trans (ggec)
set_option maxRecDepth 10000 in
theorem g_156_208 : GO x d 156 Q 208 [v0, v1, v2, some (.inl a), v4, v5, v6, v7] st I J = GO x d 156 Q 209 [v0, v1, v2, some (.inl a), v4, v5, v6, v7] (.inl a :: st) I J := ge (A := (1, 209, 3, 0, 0)) rfl
set_option maxRecDepth 10000 in
theorem g_156_209 : GO x d 156 Q 209 [v0, v1, v2, v3, v4, v5, v6, v7] st I J = GO x d 156 Q 213 [v0, v1, v2, v3, v4, v5, v6, v7] st I J := ge (A := (35, 212, 213, 0, 0)) rfl
set_option maxRecDepth 10000 in
theorem g_156_212 : GO x d 156 Q 212 [v0, some (.inl a), v2, v3, v4, v5, v6, v7] st I J = GO x d 156 Q 213 [v0, some (.inl a), v2, v3, v4, v5, v6, v7] (.inl a :: st) I J := ge (A := (1, 213, 1, 0, 0)) rfl
set_option maxRecDepth 10000 in
theorem g_156_213 : GO x d 156 Q 213 [v0, v1, v2, v3, v4, v5, v6, v7] (.inl a :: st) I J = (nlO (some v0) = true ∧ GO x d 156 Q 214 [v0, some (.inl a), v2, v3, v4, v5, v6, v7] st I J) := (ge (A := (4, 214, 1, 0, 0)) rfl).trans (gst (Nat.le_of_ble_eq_true rfl) _)
set_option maxRecDepth 10000 in
theorem g_156_214 : GO x d 156 Q 214 [v0, v1, some (.inl a), v3, v4, v5, v6, v7] st I J = (nlO (some v1) = true ∧ GO x d 156 Q 217 [v0, v1, some (.inl (a + (1))), v3, v4, v5, v6, v7] st I J) := ge (A := (7, 217, 2, 0, 1)) rfl
set_option maxRecDepth 10000 in
theorem g_156_217 : GO x d 156 Q 217 [v0, v1, v2, v3, v4, v5, v6, v7] st I J = GO x d 156 Q 165 [v0, v1, v2, v3, v4, v5, v6, v7] st I J := ge (A := (35, 220, 165, 0, 0)) rfl
set_option maxRecDepth 10000 in
theorem g_156_220 : GO x d 156 Q 220 [v0, some (.inl a), v2, v3, v4, v5, v6, v7] st I J = GO x d 156 Q 221 [v0, some (.inl a), v2, v3, v4, v5, v6, v7] (.inl a :: st) I J := ge (A := (1, 221, 1, 0, 0)) rfl
set_option maxRecDepth 10000 in
theorem g_156_221 : GO x d 156 Q 221 [v0, v1, v2, v3, v4, v5, v6, v7] [.inl a] I J = Q (some (.inl a)) I J := ge (A := (55, 222, 0, 0, 0)) rfl
set_option maxRecDepth 10000 in
theorem e_156 : EX x (d + 1) 156 [.inr (.inr w0)] I J Q = GO x d 156 Q 0 [some (.inr (.inr w0)), none, none, none, none, none, none, none] [] I J := ex_eq (Nat.le_of_ble_eq_true rfl) rfl (Nat.le_of_ble_eq_true rfl) rfl
set_option maxRecDepth 10000 in
theorem g_157_0 : GO x d 157 Q 0 [some (.inr (.inr w)), v1, v2, v3, v4, v5, v6, v7, v8, v9] st I J = GO x d 157 Q 1 [some (.inr (.inr w)), v1, v2, v3, v4, v5, v6, v7, v8, v9] (.inr (.inr w) :: st) I J := ge (A := (2, 1, 0, 0, 0)) rfl
set_option maxRecDepth 10000 in
theorem g_157_1 : GO x d 157 Q 1 [v0, v1, v2, v3, v4, v5, v6, v7, v8, v9] [.inr (.inr (.inl r))] I J = (okO r 10 ∧ EX x d 110 [.inr (.inr (.inl r))] I J (fun r1 I1 J1 => GO x d 157 Q 4 [v0, v1, v2, v3, v4, v5, v6, v7, v8, v9] (r1.toList ++ []) I1 J1)) := (ge (A := (53, 4, 110, 0, 0)) rfl).trans (gtrue (Nat.le_of_ble_eq_true rfl))
set_option maxRecDepth 10000 in
theorem g_157_4 : GO x d 157 Q 4 [v0, v1, v2, v3, v4, v5, v6, v7, v8, v9] (.inl a :: st) I J = (inR a ∧ if a = 0 then GO x d 157 Q 7 [v0, v1, v2, v3, v4, v5, v6, v7, v8, v9] st I J else GO x d 157 Q 10 [v0, v1, v2, v3, v4, v5, v6, v7, v8, v9] st I J) := (ge (A := (33, 7, 10, 1, 0)) rfl).trans (gifn (p := a = 0) inferInstance)
set_option maxRecDepth 10000 in
theorem g_157_7 : GO x d 157 Q 7 [v0, v1, v2, v3, v4, v5, v6, v7, v8, v9] st I J = GO x d 157 Q 9 [v0, v1, v2, v3, v4, v5, v6, v7, v8, v9] (.inl (-1000002) :: st) I J := ge (A := (0, 9, 0, 0, -1000002)) rfl
set_option maxRecDepth 10000 in
theorem g_157_9 : GO x d 157 Q 9 [v0, v1, v2, v3, v4, v5, v6, v7, v8, v9] [.inl a] I J = Q (some (.inl a)) I J := ge (A := (55, 10, 0, 0, 0)) rfl
set_option maxRecDepth 10000 in
theorem g_157_10 : GO x d 157 Q 10 [v0, some (.inl a), v2, v3, v4, v5, v6, v7, v8, v9] st I J = GO x d 157 Q 11 [v0, some (.inl a), v2, v3, v4, v5, v6, v7, v8, v9] (.inl a :: st) I J := ge (A := (1, 11, 1, 0, 0)) rfl
set_option maxRecDepth 10000 in
theorem g_157_11 : GO x d 157 Q 11 [v0, v1, v2, v3, v4, v5, v6, v7, v8, v9] st I J = GO x d 157 Q 12 [v0, v1, v2, v3, v4, v5, v6, v7, v8, v9] (.inl (-1) :: st) I J := ge (A := (0, 12, 0, 0, -1)) rfl
set_option maxRecDepth 10000 in
theorem g_157_12 : GO x d 157 Q 12 [v0, v1, v2, v3, v4, v5, v6, v7, v8, v9] st I J = GO x d 157 Q 14 [v0, v1, v2, v3, v4, v5, v6, v7, v8, v9] (.inl (7) :: st) I J := ge (A := (0, 14, 0, 0, 7)) rfl
set_option maxRecDepth 10000 in
theorem g_157_14 : GO x d 157 Q 14 [v0, v1, v2, v3, v4, v5, v6, v7, v8, v9] [.inl i0, .inl i1, .inl i2] I J = EX x d 109 [.inl i2, .inl i1, .inl i0] I J (fun r1 I1 J1 => GO x d 157 Q 17 [v0, v1, v2, v3, v4, v5, v6, v7, v8, v9] (r1.toList ++ []) I1 J1) := (ge (A := (52, 17, 109, 3, 0)) rfl).trans (gtrue2 (Nat.le_of_ble_eq_true rfl) (Nat.le_of_ble_eq_true rfl))
set_option maxRecDepth 10000 in
theorem g_157_17 : GO x d 157 Q 17 [v0, v1, v2, v3, v4, v5, v6, v7, v8, v9] (.inl a :: st) I J = (inR a ∧ if a = 0 then GO x d 157 Q 20 [v0, v1, v2, v3, v4, v5, v6, v7, v8, v9] st I J else GO x d 157 Q 23 [v0, v1, v2, v3, v4, v5, v6, v7, v8, v9] st I J) := (ge (A := (33, 20, 23, 1, 0)) rfl).trans (gifn (p := a = 0) inferInstance)
set_option maxRecDepth 10000 in
theorem g_157_20 : GO x d 157 Q 20 [v0, v1, v2, v3, v4, v5, v6, v7, v8, v9] st I J = GO x d 157 Q 22 [v0, v1, v2, v3, v4, v5, v6, v7, v8, v9] (.inl (-1000001) :: st) I J := ge (A := (0, 22, 0, 0, -1000001)) rfl
set_option maxRecDepth 10000 in
theorem g_157_22 : GO x d 157 Q 22 [v0, v1, v2, v3, v4, v5, v6, v7, v8, v9] [.inl a] I J = Q (some (.inl a)) I J := ge (A := (55, 23, 0, 0, 0)) rfl
set_option maxRecDepth 10000 in
theorem g_157_23 : GO x d 157 Q 23 [some (.inr (.inr w)), v1, v2, v3, v4, v5, v6, v7, v8, v9] st I J = GO x d 157 Q 24 [some (.inr (.inr w)), v1, v2, v3, v4, v5, v6, v7, v8, v9] (.inr (.inr w) :: st) I J := ge (A := (2, 24, 0, 0, 0)) rfl
set_option maxRecDepth 10000 in
theorem g_157_24 : GO x d 157 Q 24 [v0, v1, v2, v3, v4, v5, v6, v7, v8, v9] [.inr (.inr (.inl r))] I J = (okO r 10 ∧ EX x d 156 [.inr (.inr (.inl r))] I J (fun r1 I1 J1 => GO x d 157 Q 27 [v0, v1, v2, v3, v4, v5, v6, v7, v8, v9] (r1.toList ++ []) I1 J1)) := (ge (A := (53, 27, 156, 0, 0)) rfl).trans (gtrue (Nat.le_of_ble_eq_true rfl))
set_option maxRecDepth 10000 in
theorem g_157_27 : GO x d 157 Q 27 [v0, v1, v2, v3, v4, v5, v6, v7, v8, v9] (.inl a :: st) I J = (nlO (some v1) = true ∧ GO x d 157 Q 28 [v0, v1, some (.inl a), v3, v4, v5, v6, v7, v8, v9] st I J) := (ge (A := (4, 28, 2, 0, 0)) rfl).trans (gst (Nat.le_of_ble_eq_true rfl) _)
set_option maxRecDepth 10000 in
theorem g_157_28 : GO x d 157 Q 28 [v0, some (.inl a), v2, v3, v4, v5, v6, v7, v8, v9] st I J = GO x d 157 Q 29 [v0, some (.inl a), v2, v3, v4, v5, v6, v7, v8, v9] (.inl a :: st) I J := ge (A := (1, 29, 1, 0, 0)) rfl
set_option maxRecDepth 10000 in
theorem g_157_29 : GO x d 157 Q 29 [v0, v1, v2, v3, v4, v5, v6, v7, v8, v9] st I J = GO x d 157 Q 30 [v0, v1, v2, v3, v4, v5, v6, v7, v8, v9] (.inl (-1) :: st) I J := ge (A := (0, 30, 0, 0, -1)) rfl
set_option maxRecDepth 10000 in
theorem g_157_30 : GO x d 157 Q 30 [v0, v1, v2, v3, v4, v5, v6, v7, v8, v9] (.inl b :: .inl a :: st) I J = (inR a ∧ inR b ∧ if a = b then GO x d 157 Q 33 [v0, v1, v2, v3, v4, v5, v6, v7, v8, v9] st I J else GO x d 157 Q 35 [v0, v1, v2, v3, v4, v5, v6, v7, v8, v9] st I J) := (ge (A := (34, 33, 35, 1, 0)) rfl).trans (gicn (p := a = b) inferInstance)
set_option maxRecDepth 10000 in
theorem g_157_33 : GO x d 157 Q 33 [v0, v1, some (.inl a), v3, v4, v5, v6, v7, v8, v9] st I J = GO x d 157 Q 34 [v0, v1, some (.inl a), v3, v4, v5, v6, v7, v8, v9] (.inl a :: st) I J := ge (A := (1, 34, 2, 0, 0)) rfl
set_option maxRecDepth 10000 in
theorem g_157_34 : GO x d 157 Q 34 [v0, v1, v2, v3, v4, v5, v6, v7, v8, v9] [.inl a] I J = Q (some (.inl a)) I J := ge (A := (55, 35, 0, 0, 0)) rfl
set_option maxRecDepth 10000 in
theorem g_157_35 : GO x d 157 Q 35 [v0, v1, v2, v3, v4, v5, v6, v7, v8, v9] st I J = GO x d 157 Q 36 [v0, v1, v2, v3, v4, v5, v6, v7, v8, v9] (.inl (0) :: st) I J := ge (A := (0, 36, 0, 0, 0)) rfl
set_option maxRecDepth 10000 in
theorem g_157_36 : GO x d 157 Q 36 [v0, v1, v2, v3, v4, v5, v6, v7, v8, v9] (.inl a :: st) I J = (nlO (some v2) = true ∧ GO x d 157 Q 37 [v0, v1, v2, some (.inl a), v4, v5, v6, v7, v8, v9] st I J) := (ge (A := (4, 37, 3, 0, 0)) rfl).trans (gst (Nat.le_of_ble_eq_true rfl) _)
set_option maxRecDepth 10000 in
theorem g_157_37 : GO x d 157 Q 37 [some (.inr (.inr w)), v1, v2, v3, v4, v5, v6, v7, v8, v9] st I J = GO x d 157 Q 38 [some (.inr (.inr w)), v1, v2, v3, v4, v5, v6, v7, v8, v9] (.inr (.inr w) :: st) I J := ge (A := (2, 38, 0, 0, 0)) rfl
set_option maxRecDepth 10000 in
theorem g_157_38 : GO x d 157 Q 38 [v0, v1, v2, v3, v4, v5, v6, v7, v8, v9] (.inr (.inr (.inl r)) :: st) I J = (okF r 10 2 ∧ GO x d 157 Q 41 [v0, v1, v2, v3, v4, v5, v6, v7, v8, v9] (.inr (.inr (.inl (rfN r 2))) :: st) I J) := (ge (A := (39, 41, 10, 2, 0)) rfl).trans (gref (f := fun q => GO x d 157 Q 41 [v0, v1, v2, v3, v4, v5, v6, v7, v8, v9] (.inr (.inr (.inl q)) :: st) I J))
set_option maxRecDepth 10000 in
theorem g_157_41 : GO x d 157 Q 41 [v0, v1, v2, v3, v4, v5, v6, v7, v8, v9] st I J = GO x d 157 Q 43 [v0, v1, v2, v3, v4, v5, v6, v7, v8, v9] (.inl (30) :: st) I J := ge (A := (0, 43, 0, 0, 30)) rfl
set_option maxRecDepth 10000 in
theorem h_157_43 : GO x d 157 Q 43 [v0, v1, v2, v3, v4, v5, v6, v7, v8, v9] (.inl a :: .inr (.inr (.inr q)) :: st) I J = (q < 4 ∧ 0 ≤ a ∧ a < (roA x q).1 ∧ GO x d 157 Q 44 [v0, v1, v2, v3, v4, v5, v6, v7, v8, v9] (.inl ((roA x q).2 a.toNat) :: st) I J) := ge (A := (44, 44, 0, 0, 0)) rfl
set_option maxRecDepth 10000 in
theorem g_157_43 : GO x d 157 Q 43 [v0, v1, v2, v3, v4, v5, v6, v7, v8, v9] (.inl a :: .inr (.inr (.inl r)) :: st) I J = (okA r 20 ∧ 0 ≤ a ∧ a < lnN r ∧ GO x d 157 Q 44 [v0, v1, v2, v3, v4, v5, v6, v7, v8, v9] (.inl (I r a) :: st) I J) := ge (A := (44, 44, 0, 0, 0)) rfl
set_option maxRecDepth 10000 in
theorem g_157_44 : GO x d 157 Q 44 [v0, v1, v2, v3, v4, v5, v6, v7, v8, v9] (.inl a :: st) I J = (nlO (some v3) = true ∧ GO x d 157 Q 46 [v0, v1, v2, v3, some (.inl a), v5, v6, v7, v8, v9] st I J) := (ge (A := (4, 46, 4, 0, 0)) rfl).trans (gst (Nat.le_of_ble_eq_true rfl) _)
set_option maxRecDepth 10000 in
theorem g_157_46 : GO x d 157 Q 46 [v0, v1, v2, v3, v4, v5, v6, v7, v8, v9] st I J = GO x d 157 Q 48 [v0, v1, v2, v3, v4, v5, v6, v7, v8, v9] (.inl (-1000000) :: st) I J := ge (A := (0, 48, 0, 0, -1000000)) rfl
set_option maxRecDepth 10000 in
theorem g_157_48 : GO x d 157 Q 48 [v0, v1, v2, v3, v4, v5, v6, v7, v8, v9] (.inl a :: st) I J = (nlO (some v4) = true ∧ GO x d 157 Q 50 [v0, v1, v2, v3, v4, some (.inl a), v6, v7, v8, v9] st I J) := (ge (A := (4, 50, 5, 0, 0)) rfl).trans (gst (Nat.le_of_ble_eq_true rfl) _)
set_option maxRecDepth 10000 in
theorem g_157_50 : GO x d 157 Q 50 [v0, v1, v2, v3, v4, v5, v6, v7, v8, v9] st I J = GO x d 157 Q 51 [v0, v1, v2, v3, v4, v5, v6, v7, v8, v9] (.inl (0) :: st) I J := ge (A := (0, 51, 0, 0, 0)) rfl
set_option maxRecDepth 10000 in
theorem g_157_51 : GO x d 157 Q 51 [v0, v1, v2, v3, v4, v5, v6, v7, v8, v9] (.inl a :: st) I J = (nlO (some v5) = true ∧ GO x d 157 Q 53 [v0, v1, v2, v3, v4, v5, some (.inl a), v7, v8, v9] st I J) := (ge (A := (4, 53, 6, 0, 0)) rfl).trans (gst (Nat.le_of_ble_eq_true rfl) _)
set_option maxRecDepth 10000 in
theorem g_157_53 : GO x d 157 Q 53 [v0, v1, v2, v3, v4, v5, some (.inl a), v7, v8, v9] st I J = GO x d 157 Q 55 [v0, v1, v2, v3, v4, v5, some (.inl a), v7, v8, v9] (.inl a :: st) I J := ge (A := (1, 55, 6, 0, 0)) rfl
set_option maxRecDepth 10000 in
theorem g_157_55 : GO x d 157 Q 55 [v0, some (.inl a), v2, v3, v4, v5, v6, v7, v8, v9] st I J = GO x d 157 Q 56 [v0, some (.inl a), v2, v3, v4, v5, v6, v7, v8, v9] (.inl a :: st) I J := ge (A := (1, 56, 1, 0, 0)) rfl
set_option maxRecDepth 10000 in
theorem g_157_56 : GO x d 157 Q 56 [v0, v1, v2, v3, v4, v5, v6, v7, v8, v9] (.inl b :: .inl a :: st) I J = (inR a ∧ inR b ∧ if b < a then GO x d 157 Q 202 [v0, v1, v2, v3, v4, v5, v6, v7, v8, v9] st I J else GO x d 157 Q 59 [v0, v1, v2, v3, v4, v5, v6, v7, v8, v9] st I J) := (ge (A := (34, 59, 202, 4, 0)) rfl).trans (gic (p := b < a) inferInstance)
set_option maxRecDepth 10000 in
theorem g_157_59 : GO x d 157 Q 59 [v0, v1, v2, v3, v4, v5, v6, v7, v8, v9] st I J = GO x d 157 Q 61 [v0, v1, v2, v3, v4, v5, v6, v7, v8, v9] (.inl (-1000000) :: st) I J := ge (A := (0, 61, 0, 0, -1000000)) rfl
set_option maxRecDepth 10000 in
theorem g_157_61 : GO x d 157 Q 61 [v0, v1, v2, v3, v4, v5, v6, v7, v8, v9] (.inl a :: st) I J = (nlO (some v6) = true ∧ GO x d 157 Q 63 [v0, v1, v2, v3, v4, v5, v6, some (.inl a), v8, v9] st I J) := (ge (A := (4, 63, 7, 0, 0)) rfl).trans (gst (Nat.le_of_ble_eq_true rfl) _)
set_option maxRecDepth 10000 in
theorem g_157_63 : GO x d 157 Q 63 [some (.inr (.inr w)), v1, v2, v3, v4, v5, v6, v7, v8, v9] st I J = GO x d 157 Q 64 [some (.inr (.inr w)), v1, v2, v3, v4, v5, v6, v7, v8, v9] (.inr (.inr w) :: st) I J := ge (A := (2, 64, 0, 0, 0)) rfl
set_option maxRecDepth 10000 in
theorem g_157_64 : GO x d 157 Q 64 [v0, v1, v2, v3, v4, v5, v6, v7, v8, v9] (.inr (.inr (.inl r)) :: st) I J = (okF r 10 2 ∧ GO x d 157 Q 67 [v0, v1, v2, v3, v4, v5, v6, v7, v8, v9] (.inr (.inr (.inl (rfN r 2))) :: st) I J) := (ge (A := (39, 67, 10, 2, 0)) rfl).trans (gref (f := fun q => GO x d 157 Q 67 [v0, v1, v2, v3, v4, v5, v6, v7, v8, v9] (.inr (.inr (.inl q)) :: st) I J))
set_option maxRecDepth 10000 in
theorem g_157_67 : GO x d 157 Q 67 [v0, v1, v2, v3, v4, v5, v6, v7, v8, v9] st I J = GO x d 157 Q 68 [v0, v1, v2, v3, v4, v5, v6, v7, v8, v9] (.inl (1) :: st) I J := ge (A := (0, 68, 0, 0, 1)) rfl
set_option maxRecDepth 10000 in
theorem h_157_68 : GO x d 157 Q 68 [v0, v1, v2, v3, v4, v5, v6, v7, v8, v9] (.inl a :: .inr (.inr (.inr q)) :: st) I J = (q < 4 ∧ 0 ≤ a ∧ a < (roA x q).1 ∧ GO x d 157 Q 69 [v0, v1, v2, v3, v4, v5, v6, v7, v8, v9] (.inl ((roA x q).2 a.toNat) :: st) I J) := ge (A := (44, 69, 0, 0, 0)) rfl
set_option maxRecDepth 10000 in
theorem g_157_68 : GO x d 157 Q 68 [v0, v1, v2, v3, v4, v5, v6, v7, v8, v9] (.inl a :: .inr (.inr (.inl r)) :: st) I J = (okA r 20 ∧ 0 ≤ a ∧ a < lnN r ∧ GO x d 157 Q 69 [v0, v1, v2, v3, v4, v5, v6, v7, v8, v9] (.inl (I r a) :: st) I J) := ge (A := (44, 69, 0, 0, 0)) rfl
set_option maxRecDepth 10000 in
theorem g_157_69 : GO x d 157 Q 69 [v0, v1, v2, v3, v4, v5, v6, v7, v8, v9] st I J = GO x d 157 Q 70 [v0, v1, v2, v3, v4, v5, v6, v7, v8, v9] (.inl (1) :: st) I J := ge (A := (0, 70, 0, 0, 1)) rfl
set_option maxRecDepth 10000 in
theorem g_157_70 : GO x d 157 Q 70 [v0, v1, v2, v3, v4, v5, v6, v7, v8, v9] (.inl b :: .inl a :: st) I J = GO x d 157 Q 71 [v0, v1, v2, v3, v4, v5, v6, v7, v8, v9] (.inl (a - b) :: st) I J := ge (A := (9, 71, 0, 0, 0)) rfl
set_option maxRecDepth 10000 in
theorem g_157_71 : GO x d 157 Q 71 [v0, v1, v2, v3, v4, v5, v6, v7, v8, v9] (.inl a :: st) I J = (nlO (some v7) = true ∧ GO x d 157 Q 73 [v0, v1, v2, v3, v4, v5, v6, v7, some (.inl a), v9] st I J) := (ge (A := (4, 73, 8, 0, 0)) rfl).trans (gst (Nat.le_of_ble_eq_true rfl) _)
set_option maxRecDepth 10000 in
theorem g_157_73 : GO x d 157 Q 73 [v0, v1, v2, v3, v4, v5, v6, v7, some (.inl a), v9] st I J = GO x d 157 Q 75 [v0, v1, v2, v3, v4, v5, v6, v7, some (.inl a), v9] (.inl a :: st) I J := ge (A := (1, 75, 8, 0, 0)) rfl
set_option maxRecDepth 10000 in
theorem g_157_75 : GO x d 157 Q 75 [v0, v1, v2, v3, v4, v5, v6, v7, v8, v9] (.inl a :: st) I J = (inR a ∧ if a < 0 then GO x d 157 Q 166 [v0, v1, v2, v3, v4, v5, v6, v7, v8, v9] st I J else GO x d 157 Q 78 [v0, v1, v2, v3, v4, v5, v6, v7, v8, v9] st I J) := (ge (A := (33, 78, 166, 2, 0)) rfl).trans (gif (p := a < 0) inferInstance)
set_option maxRecDepth 10000 in
theorem g_157_78 : GO x d 157 Q 78 [v0, v1, v2, v3, v4, v5, some (.inl a), v7, v8, v9] st I J = GO x d 157 Q 80 [v0, v1, v2, v3, v4, v5, some (.inl a), v7, v8, v9] (.inl a :: st) I J := ge (A := (1, 80, 6, 0, 0)) rfl
set_option maxRecDepth 10000 in
theorem g_157_80 : GO x d 157 Q 80 [v0, v1, some (.inl a), v3, v4, v5, v6, v7, v8, v9] st I J = GO x d 157 Q 81 [v0, v1, some (.inl a), v3, v4, v5, v6, v7, v8, v9] (.inl a :: st) I J := ge (A := (1, 81, 2, 0, 0)) rfl
set_option maxRecDepth 10000 in
theorem g_157_81 : GO x d 157 Q 81 [v0, v1, v2, v3, v4, v5, v6, v7, v8, v9] (.inl b :: .inl a :: st) I J = (inR a ∧ inR b ∧ if a < b then GO x d 157 Q 84 [v0, v1, v2, v3, v4, v5, v6, v7, v8, v9] st I J else GO x d 157 Q 143 [v0, v1, v2, v3, v4, v5, v6, v7, v8, v9] st I J) := (ge (A := (34, 84, 143, 3, 0)) rfl).trans (ggec)
set_option maxRecDepth 10000 in
theorem g_157_84 : GO x d 157 Q 84 [v0, v1, v2, some (.inl a), v4, v5, v6, v7, v8, v9] st I J = GO x d 157 Q 85 [v0, v1, v2, some (.inl a), v4, v5, v6, v7, v8, v9] (.inl a :: st) I J := ge (A := (1, 85, 3, 0, 0)) rfl
set_option maxRecDepth 10000 in
theorem g_157_85 : GO x d 157 Q 85 [v0, v1, v2, v3, v4, v5, v6, v7, some (.inl a), v9] st I J = GO x d 157 Q 87 [v0, v1, v2, v3, v4, v5, v6, v7, some (.inl a), v9] (.inl a :: st) I J := ge (A := (1, 87, 8, 0, 0)) rfl
set_option maxRecDepth 10000 in
theorem g_157_87 : GO x d 157 Q 87 [v0, v1, v2, v3, v4, v5, v6, v7, v8, v9] (.inl b :: .inl a :: st) I J = GO x d 157 Q 88 [v0, v1, v2, v3, v4, v5, v6, v7, v8, v9] (.inl (shrI a b) :: st) I J := ge (A := (15, 88, 0, 0, 0)) rfl
set_option maxRecDepth 10000 in
theorem g_157_88 : GO x d 157 Q 88 [v0, v1, v2, v3, v4, v5, v6, v7, v8, v9] st I J = GO x d 157 Q 89 [v0, v1, v2, v3, v4, v5, v6, v7, v8, v9] (.inl (1) :: st) I J := ge (A := (0, 89, 0, 0, 1)) rfl
set_option maxRecDepth 10000 in
theorem g_157_89 : GO x d 157 Q 89 [v0, v1, v2, v3, v4, v5, v6, v7, v8, v9] (.inl b :: .inl a :: st) I J = GO x d 157 Q 90 [v0, v1, v2, v3, v4, v5, v6, v7, v8, v9] (.inl (andI a b) :: st) I J := ge (A := (11, 90, 0, 0, 0)) rfl
set_option maxRecDepth 10000 in
theorem g_157_90 : GO x d 157 Q 90 [v0, v1, v2, v3, v4, v5, v6, v7, v8, v9] (.inl a :: st) I J = (inR a ∧ if a = 0 then GO x d 157 Q 93 [v0, v1, v2, v3, v4, v5, v6, v7, v8, v9] st I J else GO x d 157 Q 143 [v0, v1, v2, v3, v4, v5, v6, v7, v8, v9] st I J) := (ge (A := (33, 93, 143, 1, 0)) rfl).trans (gifn (p := a = 0) inferInstance)
set_option maxRecDepth 10000 in
theorem g_157_93 : GO x d 157 Q 93 [some (.inr (.inr w)), v1, v2, v3, v4, v5, v6, v7, v8, v9] st I J = GO x d 157 Q 94 [some (.inr (.inr w)), v1, v2, v3, v4, v5, v6, v7, v8, v9] (.inr (.inr w) :: st) I J := ge (A := (2, 94, 0, 0, 0)) rfl
set_option maxRecDepth 10000 in
theorem g_157_94 : GO x d 157 Q 94 [v0, v1, v2, v3, v4, v5, v6, v7, some (.inl a), v9] st I J = GO x d 157 Q 96 [v0, v1, v2, v3, v4, v5, v6, v7, some (.inl a), v9] (.inl a :: st) I J := ge (A := (1, 96, 8, 0, 0)) rfl
set_option maxRecDepth 10000 in
theorem g_157_96 : GO x d 157 Q 96 [v0, v1, v2, v3, v4, v5, v6, v7, v8, v9] [.inl i0, .inr (.inr (.inl r))] I J = (okO r 10 ∧ EX x d 133 [.inr (.inr (.inl r)), .inl i0] I J (fun r1 I1 J1 => GO x d 157 Q 99 [v0, v1, v2, v3, v4, v5, v6, v7, v8, v9] (r1.toList ++ []) I1 J1)) := (ge (A := (53, 99, 133, 1, 0)) rfl).trans (gtrue (Nat.le_of_ble_eq_true rfl))
set_option maxRecDepth 10000 in
theorem g_157_99 : GO x d 157 Q 99 [v0, v1, v2, v3, v4, v5, v6, v7, v8, v9] (.inl a :: st) I J = (inR a ∧ if a = 0 then GO x d 157 Q 102 [v0, v1, v2, v3, v4, v5, v6, v7, v8, v9] st I J else GO x d 157 Q 143 [v0, v1, v2, v3, v4, v5, v6, v7, v8, v9] st I J) := (ge (A := (33, 102, 143, 1, 0)) rfl).trans (gifn (p := a = 0) inferInstance)
set_option maxRecDepth 10000 in
theorem g_157_102 : GO x d 157 Q 102 [some (.inr (.inr w)), v1, v2, v3, v4, v5, v6, v7, v8, v9] st I J = GO x d 157 Q 103 [some (.inr (.inr w)), v1, v2, v3, v4, v5, v6, v7, v8, v9] (.inr (.inr w) :: st) I J := ge (A := (2, 103, 0, 0, 0)) rfl
set_option maxRecDepth 10000 in
theorem g_157_103 : GO x d 157 Q 103 [v0, v1, v2, v3, v4, v5, v6, v7, some (.inl a), v9] st I J = GO x d 157 Q 105 [v0, v1, v2, v3, v4, v5, v6, v7, some (.inl a), v9] (.inl a :: st) I J := ge (A := (1, 105, 8, 0, 0)) rfl
set_option maxRecDepth 10000 in
theorem g_157_105 : GO x d 157 Q 105 [v0, v1, v2, v3, some (.inl a), v5, v6, v7, v8, v9] st I J = GO x d 157 Q 107 [v0, v1, v2, v3, some (.inl a), v5, v6, v7, v8, v9] (.inl a :: st) I J := ge (A := (1, 107, 4, 0, 0)) rfl
set_option maxRecDepth 10000 in
theorem g_157_107 : GO x d 157 Q 107 [v0, v1, v2, v3, v4, v5, v6, v7, v8, v9] [.inl i0, .inl i1, .inr (.inr (.inl r))] I J = (okO r 10 ∧ EX x d 134 [.inr (.inr (.inl r)), .inl i1, .inl i0] I J (fun r1 I1 J1 => GO x d 157 Q 110 [v0, v1, v2, v3, v4, v5, v6, v7, v8, v9] (r1.toList ++ []) I1 J1)) := (ge (A := (53, 110, 134, 2, 0)) rfl).trans (gtrue (Nat.le_of_ble_eq_true rfl))
set_option maxRecDepth 10000 in
theorem g_157_110 : GO x d 157 Q 110 [v0, v1, v2, v3, v4, v5, v6, v7, v8, v9] (.inl a :: st) I J = (inR a ∧ if a = 0 then GO x d 157 Q 143 [v0, v1, v2, v3, v4, v5, v6, v7, v8, v9] st I J else GO x d 157 Q 113 [v0, v1, v2, v3, v4, v5, v6, v7, v8, v9] st I J) := (ge (A := (33, 113, 143, 0, 0)) rfl).trans (gif (p := a = 0) inferInstance)
set_option maxRecDepth 10000 in
theorem g_157_113 : GO x d 157 Q 113 [v0, v1, v2, v3, v4, v5, v6, v7, v8, v9] st I J = GO x d 157 Q 114 [v0, v1, v2, v3, v4, v5, v6, v7, v8, v9] (.inl (1) :: st) I J := ge (A := (0, 114, 0, 0, 1)) rfl
set_option maxRecDepth 10000 in
theorem g_157_114 : GO x d 157 Q 114 [some (.inr (.inr w)), v1, v2, v3, v4, v5, v6, v7, v8, v9] st I J = GO x d 157 Q 115 [some (.inr (.inr w)), v1, v2, v3, v4, v5, v6, v7, v8, v9] (.inr (.inr w) :: st) I J := ge (A := (2, 115, 0, 0, 0)) rfl
set_option maxRecDepth 10000 in
theorem g_157_115 : GO x d 157 Q 115 [v0, v1, v2, v3, v4, v5, v6, v7, v8, v9] (.inr (.inr (.inl r)) :: st) I J = (okF r 10 25 ∧ GO x d 157 Q 118 [v0, v1, v2, v3, v4, v5, v6, v7, v8, v9] (.inr (.inr (.inl (rfN r 25))) :: st) I J) := (ge (A := (39, 118, 10, 25, 0)) rfl).trans (gref (f := fun q => GO x d 157 Q 118 [v0, v1, v2, v3, v4, v5, v6, v7, v8, v9] (.inr (.inr (.inl q)) :: st) I J))
set_option maxRecDepth 10000 in
theorem g_157_118 : GO x d 157 Q 118 [v0, v1, v2, v3, v4, v5, v6, v7, v8, v9] st I J = GO x d 157 Q 120 [v0, v1, v2, v3, v4, v5, v6, v7, v8, v9] (.inl (8) :: st) I J := ge (A := (0, 120, 0, 0, 8)) rfl
set_option maxRecDepth 10000 in
theorem g_157_120 : GO x d 157 Q 120 [v0, v1, v2, some (.inl a), v4, v5, v6, v7, v8, v9] st I J = GO x d 157 Q 121 [v0, v1, v2, some (.inl a), v4, v5, v6, v7, v8, v9] (.inl a :: st) I J := ge (A := (1, 121, 3, 0, 0)) rfl
set_option maxRecDepth 10000 in
theorem g_157_121 : GO x d 157 Q 121 [v0, v1, v2, v3, v4, v5, v6, v7, v8, v9] st I J = GO x d 157 Q 122 [v0, v1, v2, v3, v4, v5, v6, v7, v8, v9] (.inl (1) :: st) I J := ge (A := (0, 122, 0, 0, 1)) rfl
set_option maxRecDepth 10000 in
theorem g_157_122 : GO x d 157 Q 122 [v0, v1, v2, v3, v4, v5, v6, v7, some (.inl a), v9] st I J = GO x d 157 Q 124 [v0, v1, v2, v3, v4, v5, v6, v7, some (.inl a), v9] (.inl a :: st) I J := ge (A := (1, 124, 8, 0, 0)) rfl
set_option maxRecDepth 10000 in
theorem g_157_124 : GO x d 157 Q 124 [v0, v1, v2, v3, v4, v5, v6, v7, v8, v9] (.inl b :: .inl a :: st) I J = GO x d 157 Q 125 [v0, v1, v2, v3, v4, v5, v6, v7, v8, v9] (.inl (shlI a b) :: st) I J := ge (A := (14, 125, 0, 0, 0)) rfl
set_option maxRecDepth 10000 in
theorem g_157_125 : GO x d 157 Q 125 [v0, v1, v2, v3, v4, v5, v6, v7, v8, v9] (.inl b :: .inl a :: st) I J = GO x d 157 Q 126 [v0, v1, v2, v3, v4, v5, v6, v7, v8, v9] (.inl (orI a b) :: st) I J := ge (A := (12, 126, 0, 0, 0)) rfl
set_option maxRecDepth 10000 in
theorem g_157_126 : GO x d 157 Q 126 [v0, v1, v2, v3, v4, v5, v6, v7, v8, v9] (.inl b :: .inl a :: st) I J = GO x d 157 Q 127 [v0, v1, v2, v3, v4, v5, v6, v7, v8, v9] (.inl (a * b) :: st) I J := ge (A := (10, 127, 0, 0, 0)) rfl
set_option maxRecDepth 10000 in
theorem g_157_127 : GO x d 157 Q 127 [v0, v1, v2, v3, v4, v5, v6, v7, some (.inl a), v9] st I J = GO x d 157 Q 129 [v0, v1, v2, v3, v4, v5, v6, v7, some (.inl a), v9] (.inl a :: st) I J := ge (A := (1, 129, 8, 0, 0)) rfl
set_option maxRecDepth 10000 in
theorem g_157_129 : GO x d 157 Q 129 [v0, v1, v2, v3, v4, v5, v6, v7, v8, v9] (.inl b :: .inl a :: st) I J = GO x d 157 Q 130 [v0, v1, v2, v3, v4, v5, v6, v7, v8, v9] (.inl (a + b) :: st) I J := ge (A := (8, 130, 0, 0, 0)) rfl
set_option maxRecDepth 10000 in
theorem h_157_130 : GO x d 157 Q 130 [v0, v1, v2, v3, v4, v5, v6, v7, v8, v9] (.inl a :: .inr (.inr (.inr q)) :: st) I J = (q < 4 ∧ 0 ≤ a ∧ a < (roA x q).1 ∧ GO x d 157 Q 131 [v0, v1, v2, v3, v4, v5, v6, v7, v8, v9] (.inl ((roA x q).2 a.toNat) :: st) I J) := ge (A := (44, 131, 0, 0, 0)) rfl
set_option maxRecDepth 10000 in
theorem g_157_130 : GO x d 157 Q 130 [v0, v1, v2, v3, v4, v5, v6, v7, v8, v9] (.inl a :: .inr (.inr (.inl r)) :: st) I J = (okA r 20 ∧ 0 ≤ a ∧ a < lnN r ∧ GO x d 157 Q 131 [v0, v1, v2, v3, v4, v5, v6, v7, v8, v9] (.inl (I r a) :: st) I J) := ge (A := (44, 131, 0, 0, 0)) rfl
set_option maxRecDepth 10000 in
theorem g_157_131 : GO x d 157 Q 131 [v0, v1, v2, v3, v4, v5, v6, v7, v8, v9] (.inl b :: .inl a :: st) I J = GO x d 157 Q 132 [v0, v1, v2, v3, v4, v5, v6, v7, v8, v9] (.inl (a + b) :: st) I J := ge (A := (8, 132, 0, 0, 0)) rfl
set_option maxRecDepth 10000 in
theorem g_157_132 : GO x d 157 Q 132 [v0, v1, some (.inl a), v3, v4, v5, v6, v7, v8, v9] st I J = GO x d 157 Q 133 [v0, v1, some (.inl a), v3, v4, v5, v6, v7, v8, v9] (.inl a :: st) I J := ge (A := (1, 133, 2, 0, 0)) rfl
set_option maxRecDepth 10000 in
theorem g_157_133 : GO x d 157 Q 133 [v0, v1, v2, v3, v4, v5, some (.inl a), v7, v8, v9] st I J = GO x d 157 Q 135 [v0, v1, v2, v3, v4, v5, some (.inl a), v7, v8, v9] (.inl a :: st) I J := ge (A := (1, 135, 6, 0, 0)) rfl
set_option maxRecDepth 10000 in
theorem g_157_135 : GO x d 157 Q 135 [v0, v1, v2, v3, v4, v5, v6, v7, v8, v9] (.inl b :: .inl a :: st) I J = GO x d 157 Q 136 [v0, v1, v2, v3, v4, v5, v6, v7, v8, v9] (.inl (a - b) :: st) I J := ge (A := (9, 136, 0, 0, 0)) rfl
set_option maxRecDepth 10000 in
theorem g_157_136 : GO x d 157 Q 136 [v0, v1, v2, v3, v4, v5, v6, v7, v8, v9] (.inl b :: .inl a :: st) I J = (inR a ∧ inR b ∧ if a = b then GO x d 157 Q 139 [v0, v1, v2, v3, v4, v5, v6, v7, v8, v9] st I J else GO x d 157 Q 143 [v0, v1, v2, v3, v4, v5, v6, v7, v8, v9] st I J) := (ge (A := (34, 139, 143, 1, 0)) rfl).trans (gicn (p := a = b) inferInstance)
set_option maxRecDepth 10000 in
theorem g_157_139 : GO x d 157 Q 139 [v0, v1, v2, v3, v4, v5, v6, v7, v8, v9] st I J = GO x d 157 Q 140 [v0, v1, v2, v3, v4, v5, v6, v7, v8, v9] (.inl (1) :: st) I J := ge (A := (0, 140, 0, 0, 1)) rfl
set_option maxRecDepth 10000 in
theorem g_157_140 : GO x d 157 Q 140 [v0, v1, v2, v3, v4, v5, v6, v7, v8, v9] st I J = GO x d 157 Q 144 [v0, v1, v2, v3, v4, v5, v6, v7, v8, v9] st I J := ge (A := (35, 143, 144, 0, 0)) rfl
set_option maxRecDepth 10000 in
theorem g_157_143 : GO x d 157 Q 143 [v0, v1, v2, v3, v4, v5, v6, v7, v8, v9] st I J = GO x d 157 Q 144 [v0, v1, v2, v3, v4, v5, v6, v7, v8, v9] (.inl (0) :: st) I J := ge (A := (0, 144, 0, 0, 0)) rfl
set_option maxRecDepth 10000 in
theorem g_157_144 : GO x d 157 Q 144 [v0, v1, v2, v3, v4, v5, v6, v7, v8, v9] (.inl a :: st) I J = (nlO (some v8) = true ∧ GO x d 157 Q 146 [v0, v1, v2, v3, v4, v5, v6, v7, v8, some (.inl a)] st I J) := (ge (A := (4, 146, 9, 0, 0)) rfl).trans (gst (Nat.le_of_ble_eq_true rfl) _)
set_option maxRecDepth 10000 in
theorem g_157_146 : GO x d 157 Q 146 [v0, v1, v2, v3, v4, v5, v6, v7, v8, some (.inl a)] st I J = GO x d 157 Q 148 [v0, v1, v2, v3, v4, v5, v6, v7, v8, some (.inl a)] (.inl a :: st) I J := ge (A := (1, 148, 9, 0, 0)) rfl
set_option maxRecDepth 10000 in
theorem g_157_148 : GO x d 157 Q 148 [v0, v1, v2, v3, v4, v5, v6, v7, v8, v9] (.inl a :: st) I J = (inR a ∧ if a = 0 then GO x d 157 Q 156 [v0, v1, v2, v3, v4, v5, v6, v7, v8, v9] st I J else GO x d 157 Q 151 [v0, v1, v2, v3, v4, v5, v6, v7, v8, v9] st I J) := (ge (A := (33, 151, 156, 0, 0)) rfl).trans (gif (p := a = 0) inferInstance)
set_option maxRecDepth 10000 in
theorem g_157_151 : GO x d 157 Q 151 [v0, v1, v2, v3, v4, v5, v6, v7, some (.inl a), v9] st I J = GO x d 157 Q 153 [v0, v1, v2, v3, v4, v5, v6, v7, some (.inl a), v9] (.inl a :: st) I J := ge (A := (1, 153, 8, 0, 0)) rfl
set_option maxRecDepth 10000 in
theorem g_157_153 : GO x d 157 Q 153 [v0, v1, v2, v3, v4, v5, v6, v7, v8, v9] st I J = GO x d 157 Q 158 [v0, v1, v2, v3, v4, v5, v6, v7, v8, v9] st I J := ge (A := (35, 156, 158, 0, 0)) rfl
set_option maxRecDepth 10000 in
theorem g_157_156 : GO x d 157 Q 156 [v0, v1, v2, v3, v4, v5, v6, some (.inl a), v8, v9] st I J = GO x d 157 Q 158 [v0, v1, v2, v3, v4, v5, v6, some (.inl a), v8, v9] (.inl a :: st) I J := ge (A := (1, 158, 7, 0, 0)) rfl
set_option maxRecDepth 10000 in
theorem g_157_158 : GO x d 157 Q 158 [v0, v1, v2, v3, v4, v5, v6, v7, v8, v9] (.inl a :: st) I J = (nlO (some v6) = true ∧ GO x d 157 Q 160 [v0, v1, v2, v3, v4, v5, v6, some (.inl a), v8, v9] st I J) := (ge (A := (4, 160, 7, 0, 0)) rfl).trans (gst (Nat.le_of_ble_eq_true rfl) _)
set_option maxRecDepth 10000 in
theorem g_157_160 : GO x d 157 Q 160 [v0, v1, v2, v3, v4, v5, v6, v7, some (.inl a), v9] st I J = (nlO (some v7) = true ∧ GO x d 157 Q 163 [v0, v1, v2, v3, v4, v5, v6, v7, some (.inl (a + (-1))), v9] st I J) := ge (A := (7, 163, 8, 0, -1)) rfl
set_option maxRecDepth 10000 in
theorem g_157_163 : GO x d 157 Q 163 [v0, v1, v2, v3, v4, v5, v6, v7, v8, v9] st I J = GO x d 157 Q 73 [v0, v1, v2, v3, v4, v5, v6, v7, v8, v9] st I J := ge (A := (35, 166, 73, 0, 0)) rfl
set_option maxRecDepth 10000 in
theorem g_157_166 : GO x d 157 Q 166 [v0, v1, v2, v3, v4, v5, v6, some (.inl a), v8, v9] st I J = GO x d 157 Q 168 [v0, v1, v2, v3, v4, v5, v6, some (.inl a), v8, v9] (.inl a :: st) I J := ge (A := (1, 168, 7, 0, 0)) rfl
set_option maxRecDepth 10000 in
theorem g_157_168 : GO x d 157 Q 168 [v0, v1, v2, v3, v4, v5, v6, v7, v8, v9] (.inl a :: st) I J = (nlO (some v4) = true ∧ GO x d 157 Q 170 [v0, v1, v2, v3, v4, some (.inl a), v6, v7, v8, v9] st I J) := (ge (A := (4, 170, 5, 0, 0)) rfl).trans (gst (Nat.le_of_ble_eq_true rfl) _)
set_option maxRecDepth 10000 in
theorem g_157_170 : GO x d 157 Q 170 [v0, v1, v2, v3, v4, v5, v6, some (.inl a), v8, v9] st I J = GO x d 157 Q 172 [v0, v1, v2, v3, v4, v5, v6, some (.inl a), v8, v9] (.inl a :: st) I J := ge (A := (1, 172, 7, 0, 0)) rfl
set_option maxRecDepth 10000 in
theorem g_157_172 : GO x d 157 Q 172 [v0, v1, v2, v3, v4, v5, v6, v7, v8, v9] st I J = GO x d 157 Q 174 [v0, v1, v2, v3, v4, v5, v6, v7, v8, v9] (.inl (-1000000) :: st) I J := ge (A := (0, 174, 0, 0, -1000000)) rfl
set_option maxRecDepth 10000 in
theorem g_157_174 : GO x d 157 Q 174 [v0, v1, v2, v3, v4, v5, v6, v7, v8, v9] (.inl b :: .inl a :: st) I J = (inR a ∧ inR b ∧ if a = b then GO x d 157 Q 196 [v0, v1, v2, v3, v4, v5, v6, v7, v8, v9] st I J else GO x d 157 Q 177 [v0, v1, v2, v3, v4, v5, v6, v7, v8, v9] st I J) := (ge (A := (34, 177, 196, 0, 0)) rfl).trans (gic (p := a = b) inferInstance)
set_option maxRecDepth 10000 in
theorem g_157_177 : GO x d 157 Q 177 [v0, v1, v2, some (.inl a), v4, v5, v6, v7, v8, v9] st I J = GO x d 157 Q 178 [v0, v1, v2, some (.inl a), v4, v5, v6, v7, v8, v9] (.inl a :: st) I J := ge (A := (1, 178, 3, 0, 0)) rfl
set_option maxRecDepth 10000 in
theorem g_157_178 : GO x d 157 Q 178 [v0, v1, v2, v3, v4, v5, v6, v7, v8, v9] st I J = GO x d 157 Q 179 [v0, v1, v2, v3, v4, v5, v6, v7, v8, v9] (.inl (1) :: st) I J := ge (A := (0, 179, 0, 0, 1)) rfl
set_option maxRecDepth 10000 in
theorem g_157_179 : GO x d 157 Q 179 [v0, v1, v2, v3, v4, v5, v6, some (.inl a), v8, v9] st I J = GO x d 157 Q 181 [v0, v1, v2, v3, v4, v5, v6, some (.inl a), v8, v9] (.inl a :: st) I J := ge (A := (1, 181, 7, 0, 0)) rfl
set_option maxRecDepth 10000 in
theorem g_157_181 : GO x d 157 Q 181 [v0, v1, v2, v3, v4, v5, v6, v7, v8, v9] (.inl b :: .inl a :: st) I J = GO x d 157 Q 182 [v0, v1, v2, v3, v4, v5, v6, v7, v8, v9] (.inl (shlI a b) :: st) I J := ge (A := (14, 182, 0, 0, 0)) rfl
set_option maxRecDepth 10000 in
theorem g_157_182 : GO x d 157 Q 182 [v0, v1, v2, v3, v4, v5, v6, v7, v8, v9] (.inl b :: .inl a :: st) I J = GO x d 157 Q 183 [v0, v1, v2, v3, v4, v5, v6, v7, v8, v9] (.inl (orI a b) :: st) I J := ge (A := (12, 183, 0, 0, 0)) rfl
set_option maxRecDepth 10000 in
theorem g_157_183 : GO x d 157 Q 183 [v0, v1, v2, v3, v4, v5, v6, v7, v8, v9] (.inl a :: st) I J = (nlO (some v2) = true ∧ GO x d 157 Q 184 [v0, v1, v2, some (.inl a), v4, v5, v6, v7, v8, v9] st I J) := (ge (A := (4, 184, 3, 0, 0)) rfl).trans (gst (Nat.le_of_ble_eq_true rfl) _)
set_option maxRecDepth 10000 in
theorem g_157_184 : GO x d 157 Q 184 [some (.inr (.inr w)), v1, v2, v3, v4, v5, v6, v7, v8, v9] st I J = GO x d 157 Q 185 [some (.inr (.inr w)), v1, v2, v3, v4, v5, v6, v7, v8, v9] (.inr (.inr w) :: st) I J := ge (A := (2, 185, 0, 0, 0)) rfl
set_option maxRecDepth 10000 in
theorem g_157_185 : GO x d 157 Q 185 [v0, v1, v2, v3, v4, v5, v6, v7, v8, v9] (.inr (.inr (.inl r)) :: st) I J = (okF r 10 2 ∧ GO x d 157 Q 188 [v0, v1, v2, v3, v4, v5, v6, v7, v8, v9] (.inr (.inr (.inl (rfN r 2))) :: st) I J) := (ge (A := (39, 188, 10, 2, 0)) rfl).trans (gref (f := fun q => GO x d 157 Q 188 [v0, v1, v2, v3, v4, v5, v6, v7, v8, v9] (.inr (.inr (.inl q)) :: st) I J))
set_option maxRecDepth 10000 in
theorem g_157_188 : GO x d 157 Q 188 [v0, v1, v2, v3, v4, v5, v6, v7, v8, v9] st I J = GO x d 157 Q 190 [v0, v1, v2, v3, v4, v5, v6, v7, v8, v9] (.inl (16) :: st) I J := ge (A := (0, 190, 0, 0, 16)) rfl
set_option maxRecDepth 10000 in
theorem g_157_190 : GO x d 157 Q 190 [v0, v1, v2, v3, v4, v5, v6, some (.inl a), v8, v9] st I J = GO x d 157 Q 192 [v0, v1, v2, v3, v4, v5, v6, some (.inl a), v8, v9] (.inl a :: st) I J := ge (A := (1, 192, 7, 0, 0)) rfl
set_option maxRecDepth 10000 in
theorem g_157_192 : GO x d 157 Q 192 [v0, v1, v2, v3, v4, v5, v6, v7, v8, v9] (.inl b :: .inl a :: st) I J = GO x d 157 Q 193 [v0, v1, v2, v3, v4, v5, v6, v7, v8, v9] (.inl (a + b) :: st) I J := ge (A := (8, 193, 0, 0, 0)) rfl
set_option maxRecDepth 10000 in
theorem h_157_193 : GO x d 157 Q 193 [v0, v1, v2, v3, v4, v5, v6, v7, v8, v9] (.inl a :: .inr (.inr (.inr q)) :: st) I J = (q < 4 ∧ 0 ≤ a ∧ a < (roA x q).1 ∧ GO x d 157 Q 194 [v0, v1, v2, v3, v4, v5, v6, v7, v8, v9] (.inl ((roA x q).2 a.toNat) :: st) I J) := ge (A := (44, 194, 0, 0, 0)) rfl
set_option maxRecDepth 10000 in
theorem g_157_193 : GO x d 157 Q 193 [v0, v1, v2, v3, v4, v5, v6, v7, v8, v9] (.inl a :: .inr (.inr (.inl r)) :: st) I J = (okA r 20 ∧ 0 ≤ a ∧ a < lnN r ∧ GO x d 157 Q 194 [v0, v1, v2, v3, v4, v5, v6, v7, v8, v9] (.inl (I r a) :: st) I J) := ge (A := (44, 194, 0, 0, 0)) rfl
set_option maxRecDepth 10000 in
theorem g_157_194 : GO x d 157 Q 194 [v0, v1, v2, v3, v4, v5, v6, v7, v8, v9] (.inl a :: st) I J = (nlO (some v3) = true ∧ GO x d 157 Q 196 [v0, v1, v2, v3, some (.inl a), v5, v6, v7, v8, v9] st I J) := (ge (A := (4, 196, 4, 0, 0)) rfl).trans (gst (Nat.le_of_ble_eq_true rfl) _)
set_option maxRecDepth 10000 in
theorem g_157_196 : GO x d 157 Q 196 [v0, v1, v2, v3, v4, v5, some (.inl a), v7, v8, v9] st I J = (nlO (some v5) = true ∧ GO x d 157 Q 199 [v0, v1, v2, v3, v4, v5, some (.inl (a + (1))), v7, v8, v9] st I J) := ge (A := (7, 199, 6, 0, 1)) rfl
set_option maxRecDepth 10000 in
theorem g_157_199 : GO x d 157 Q 199 [v0, v1, v2, v3, v4, v5, v6, v7, v8, v9] st I J = GO x d 157 Q 53 [v0, v1, v2, v3, v4, v5, v6, v7, v8, v9] st I J := ge (A := (35, 202, 53, 0, 0)) rfl
set_option maxRecDepth 10000 in
theorem g_157_202 : GO x d 157 Q 202 [v0, v1, v2, v3, v4, some (.inl a), v6, v7, v8, v9] st I J = GO x d 157 Q 204 [v0, v1, v2, v3, v4, some (.inl a), v6, v7, v8, v9] (.inl a :: st) I J := ge (A := (1, 204, 5, 0, 0)) rfl
set_option maxRecDepth 10000 in
theorem g_157_204 : GO x d 157 Q 204 [v0, v1, v2, v3, v4, v5, v6, v7, v8, v9] [.inl a] I J = Q (some (.inl a)) I J := ge (A := (55, 205, 0, 0, 0)) rfl
set_option maxRecDepth 10000 in
theorem e_157 : EX x (d + 1) 157 [.inr (.inr w0), .inl i0] I J Q = GO x d 157 Q 0 [some (.inr (.inr w0)), some (.inl i0), none, none, none, none, none, none, none, none] [] I J := ex_eq (Nat.le_of_ble_eq_true rfl) rfl (Nat.le_of_ble_eq_true rfl) rfl
set_option maxRecDepth 10000 in
theorem g_158_0 : GO x d 158 Q 0 [v0, v1, v2] st I J = GO x d 158 Q 1 [v0, v1, v2] (.inl (0) :: st) I J := ge (A := (0, 1, 0, 0, 0)) rfl
set_option maxRecDepth 10000 in
theorem g_158_1 : GO x d 158 Q 1 [v0, v1, v2] (.inl a :: st) I J = (nlO (some v0) = true ∧ GO x d 158 Q 2 [v0, some (.inl a), v2] st I J) := (ge (A := (4, 2, 1, 0, 0)) rfl).trans (gst (Nat.le_of_ble_eq_true rfl) _)
set_option maxRecDepth 10000 in
theorem g_158_2 : GO x d 158 Q 2 [v0, v1, v2] st I J = GO x d 158 Q 3 [v0, v1, v2] (.inl (0) :: st) I J := ge (A := (0, 3, 0, 0, 0)) rfl
set_option maxRecDepth 10000 in
theorem g_158_3 : GO x d 158 Q 3 [v0, v1, v2] (.inl a :: st) I J = (nlO (some v1) = true ∧ GO x d 158 Q 4 [v0, v1, some (.inl a)] st I J) := (ge (A := (4, 4, 2, 0, 0)) rfl).trans (gst (Nat.le_of_ble_eq_true rfl) _)
set_option maxRecDepth 10000 in
theorem g_158_4 : GO x d 158 Q 4 [v0, v1, some (.inl a)] st I J = GO x d 158 Q 5 [v0, v1, some (.inl a)] (.inl a :: st) I J := ge (A := (1, 5, 2, 0, 0)) rfl
set_option maxRecDepth 10000 in
theorem g_158_5 : GO x d 158 Q 5 [v0, v1, v2] st I J = GO x d 158 Q 7 [v0, v1, v2] (.inl (8) :: st) I J := ge (A := (0, 7, 0, 0, 8)) rfl
set_option maxRecDepth 10000 in
theorem g_158_7 : GO x d 158 Q 7 [v0, v1, v2] (.inl b :: .inl a :: st) I J = (inR a ∧ inR b ∧ if a < b then GO x d 158 Q 10 [v0, v1, v2] st I J else GO x d 158 Q 24 [v0, v1, v2] st I J) := (ge (A := (34, 10, 24, 3, 0)) rfl).trans (ggec)
set_option maxRecDepth 10000 in
theorem g_158_10 : GO x d 158 Q 10 [v0, some (.inl a), v2] st I J = GO x d 158 Q 11 [v0, some (.inl a), v2] (.inl a :: st) I J := ge (A := (1, 11, 1, 0, 0)) rfl
set_option maxRecDepth 10000 in
theorem g_158_11 : GO x d 158 Q 11 [some (.inl a), v1, v2] st I J = GO x d 158 Q 12 [some (.inl a), v1, v2] (.inl a :: st) I J := ge (A := (1, 12, 0, 0, 0)) rfl
set_option maxRecDepth 10000 in
theorem g_158_12 : GO x d 158 Q 12 [v0, v1, some (.inl a)] st I J = GO x d 158 Q 13 [v0, v1, some (.inl a)] (.inl a :: st) I J := ge (A := (1, 13, 2, 0, 0)) rfl
set_option maxRecDepth 10000 in
theorem g_158_13 : GO x d 158 Q 13 [v0, v1, v2] (.inl b :: .inl a :: st) I J = GO x d 158 Q 14 [v0, v1, v2] (.inl (shrI a b) :: st) I J := ge (A := (15, 14, 0, 0, 0)) rfl
set_option maxRecDepth 10000 in
theorem g_158_14 : GO x d 158 Q 14 [v0, v1, v2] st I J = GO x d 158 Q 15 [v0, v1, v2] (.inl (1) :: st) I J := ge (A := (0, 15, 0, 0, 1)) rfl
set_option maxRecDepth 10000 in
theorem g_158_15 : GO x d 158 Q 15 [v0, v1, v2] (.inl b :: .inl a :: st) I J = GO x d 158 Q 16 [v0, v1, v2] (.inl (andI a b) :: st) I J := ge (A := (11, 16, 0, 0, 0)) rfl
set_option maxRecDepth 10000 in
theorem g_158_16 : GO x d 158 Q 16 [v0, v1, v2] (.inl b :: .inl a :: st) I J = GO x d 158 Q 17 [v0, v1, v2] (.inl (a + b) :: st) I J := ge (A := (8, 17, 0, 0, 0)) rfl
set_option maxRecDepth 10000 in
theorem g_158_17 : GO x d 158 Q 17 [v0, v1, v2] (.inl a :: st) I J = (nlO (some v0) = true ∧ GO x d 158 Q 18 [v0, some (.inl a), v2] st I J) := (ge (A := (4, 18, 1, 0, 0)) rfl).trans (gst (Nat.le_of_ble_eq_true rfl) _)
set_option maxRecDepth 10000 in
theorem g_158_18 : GO x d 158 Q 18 [v0, v1, some (.inl a)] st I J = (nlO (some v1) = true ∧ GO x d 158 Q 21 [v0, v1, some (.inl (a + (1)))] st I J) := ge (A := (7, 21, 2, 0, 1)) rfl
set_option maxRecDepth 10000 in
theorem g_158_21 : GO x d 158 Q 21 [v0, v1, v2] st I J = GO x d 158 Q 4 [v0, v1, v2] st I J := ge (A := (35, 24, 4, 0, 0)) rfl
set_option maxRecDepth 10000 in
theorem g_158_24 : GO x d 158 Q 24 [v0, some (.inl a), v2] st I J = GO x d 158 Q 25 [v0, some (.inl a), v2] (.inl a :: st) I J := ge (A := (1, 25, 1, 0, 0)) rfl
set_option maxRecDepth 10000 in
theorem g_158_25 : GO x d 158 Q 25 [v0, v1, v2] [.inl a] I J = Q (some (.inl a)) I J := ge (A := (55, 26, 0, 0, 0)) rfl
set_option maxRecDepth 10000 in
theorem e_158 : EX x (d + 1) 158 [.inl i0] I J Q = GO x d 158 Q 0 [some (.inl i0), none, none] [] I J := ex_eq (Nat.le_of_ble_eq_true rfl) rfl (Nat.le_of_ble_eq_true rfl) rfl
end
