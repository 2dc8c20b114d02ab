section
variable {x : RO} {d : Nat} {Q : QT} {I : MI} {J : MJ} {v0 v1 v2 v3 v4 v5 v6 v7 v8 v9 v10 v11 v12 : Option AV} {st : List AV} {a b e : Int} {r q : Nat} {w w2 : Nat ⊕ Nat} {y z : Int64}
variable {i0 i1 i2 i3 i4 i5 i6 i7 i8 i9 : Int} {w0 w1 w3 w4 w5 w6 w7 w8 w9 : Nat ⊕ Nat} {l0 l1 l2 l3 l4 : Int64}
set_option maxRecDepth 10000 in
theorem g_176_0 : GO x d 176 Q 0 [some (.inr (.inr w)), v1, v2] st I J = GO x d 176 Q 1 [some (.inr (.inr w)), v1, v2] (.inr (.inr w) :: st) I J := ge (A := (2, 1, 0, 0, 0)) rfl
set_option maxRecDepth 10000 in
theorem g_176_1 : GO x d 176 Q 1 [v0, v1, v2] (.inr (.inr (.inl r)) :: st) I J = (okF r 10 2 ∧ GO x d 176 Q 4 [v0, v1, v2] (.inr (.inr (.inl (rfN r 2))) :: st) I J) := (ge (A := (39, 4, 10, 2, 0)) rfl).trans (gref (f := fun q => GO x d 176 Q 4 [v0, v1, v2] (.inr (.inr (.inl q)) :: st) I J))
set_option maxRecDepth 10000 in
theorem g_176_4 : GO x d 176 Q 4 [v0, v1, v2] st I J = GO x d 176 Q 6 [v0, v1, v2] (.inl (8) :: st) I J := ge (A := (0, 6, 0, 0, 8)) rfl
set_option maxRecDepth 10000 in
theorem g_176_6 : GO x d 176 Q 6 [v0, some (.inl a), v2] st I J = GO x d 176 Q 7 [v0, some (.inl a), v2] (.inl a :: st) I J := ge (A := (1, 7, 1, 0, 0)) rfl
set_option maxRecDepth 10000 in
theorem g_176_7 : GO x d 176 Q 7 [v0, v1, v2] (.inl b :: .inl a :: st) I J = GO x d 176 Q 8 [v0, v1, v2] (.inl (a + b) :: st) I J := ge (A := (8, 8, 0, 0, 0)) rfl
set_option maxRecDepth 10000 in
theorem h_176_8 : GO x d 176 Q 8 [v0, v1, v2] (.inl a :: .inr (.inr (.inr q)) :: st) I J = (q < 4 ∧ 0 ≤ a ∧ a < (roA x q).1 ∧ GO x d 176 Q 9 [v0, v1, v2] (.inl ((roA x q).2 a.toNat) :: st) I J) := ge (A := (44, 9, 0, 0, 0)) rfl
set_option maxRecDepth 10000 in
theorem g_176_8 : GO x d 176 Q 8 [v0, v1, v2] (.inl a :: .inr (.inr (.inl r)) :: st) I J = (okA r 20 ∧ 0 ≤ a ∧ a < lnN r ∧ GO x d 176 Q 9 [v0, v1, v2] (.inl (I r a) :: st) I J) := ge (A := (44, 9, 0, 0, 0)) rfl
set_option maxRecDepth 10000 in
theorem g_176_9 : GO x d 176 Q 9 [v0, v1, v2] (.inl a :: st) I J = (nlO (some v1) = true ∧ GO x d 176 Q 10 [v0, v1, some (.inl a)] st I J) := (ge (A := (4, 10, 2, 0, 0)) rfl).trans (gst (Nat.le_of_ble_eq_true rfl) _)
set_option maxRecDepth 10000 in
theorem g_176_10 : GO x d 176 Q 10 [v0, v1, some (.inl a)] st I J = GO x d 176 Q 11 [v0, v1, some (.inl a)] (.inl a :: st) I J := ge (A := (1, 11, 2, 0, 0)) rfl
set_option maxRecDepth 10000 in
theorem g_176_11 : GO x d 176 Q 11 [v0, v1, v2] st I J = GO x d 176 Q 12 [v0, v1, v2] (.inl (4) :: st) I J := ge (A := (0, 12, 0, 0, 4)) rfl
set_option maxRecDepth 10000 in
theorem g_176_12 : GO x d 176 Q 12 [v0, v1, v2] (.inl b :: .inl a :: st) I J = (inR a ∧ inR b ∧ if a < b then GO x d 176 Q 21 [v0, v1, v2] st I J else GO x d 176 Q 15 [v0, v1, v2] st I J) := (ge (A := (34, 15, 21, 2, 0)) rfl).trans (gic (p := a < b) inferInstance)
set_option maxRecDepth 10000 in
theorem g_176_15 : GO x d 176 Q 15 [some (.inr (.inr w)), v1, v2] st I J = GO x d 176 Q 16 [some (.inr (.inr w)), v1, v2] (.inr (.inr w) :: st) I J := ge (A := (2, 16, 0, 0, 0)) rfl
set_option maxRecDepth 10000 in
theorem g_176_16 : GO x d 176 Q 16 [v0, some (.inl a), v2] st I J = GO x d 176 Q 17 [v0, some (.inl a), v2] (.inl a :: st) I J := ge (A := (1, 17, 1, 0, 0)) rfl
set_option maxRecDepth 10000 in
theorem g_176_17 : GO x d 176 Q 17 [v0, v1, v2] [.inl i0, .inr (.inr (.inl r))] I J = (okO r 10 ∧ EX x d 175 [.inr (.inr (.inl r)), .inl i0] I J (fun r1 I1 J1 => GO x d 176 Q 20 [v0, v1, v2] (r1.toList ++ []) I1 J1)) := (ge (A := (53, 20, 175, 1, 0)) rfl).trans (gtrue (Nat.le_of_ble_eq_true rfl))
set_option maxRecDepth 10000 in
theorem g_176_20 : GO x d 176 Q 20 [v0, v1, v2] [.inl a] I J = Q (some (.inl a)) I J := ge (A := (55, 21, 0, 0, 0)) rfl
set_option maxRecDepth 10000 in
theorem g_176_21 : GO x d 176 Q 21 [v0, v1, some (.inl a)] st I J = GO x d 176 Q 22 [v0, v1, some (.inl a)] (.inl a :: st) I J := ge (A := (1, 22, 2, 0, 0)) rfl
set_option maxRecDepth 10000 in
theorem g_176_22 : GO x d 176 Q 22 [v0, v1, v2] st I J = GO x d 176 Q 23 [v0, v1, v2] (.inl (2) :: st) I J := ge (A := (0, 23, 0, 0, 2)) rfl
set_option maxRecDepth 10000 in
theorem g_176_23 : GO x d 176 Q 23 [v0, v1, v2] (.inl b :: .inl a :: st) I J = (inR a ∧ inR b ∧ if a = b then GO x d 176 Q 26 [v0, v1, v2] st I J else GO x d 176 Q 39 [v0, v1, v2] st I J) := (ge (A := (34, 26, 39, 1, 0)) rfl).trans (gicn (p := a = b) inferInstance)
set_option maxRecDepth 10000 in
theorem g_176_26 : GO x d 176 Q 26 [some (.inr (.inr w)), v1, v2] st I J = GO x d 176 Q 27 [some (.inr (.inr w)), v1, v2] (.inr (.inr w) :: st) I J := ge (A := (2, 27, 0, 0, 0)) rfl
set_option maxRecDepth 10000 in
theorem g_176_27 : GO x d 176 Q 27 [v0, v1, v2] st I J = GO x d 176 Q 29 [v0, v1, v2] (.inl (12) :: st) I J := ge (A := (0, 29, 0, 0, 12)) rfl
set_option maxRecDepth 10000 in
theorem g_176_29 : GO x d 176 Q 29 [v0, v1, v2] [.inl i0, .inr (.inr (.inl r))] I J = (okO r 10 ∧ EX x d 168 [.inr (.inr (.inl r)), .inl i0] I J (fun r1 I1 J1 => GO x d 176 Q 32 [v0, v1, v2] (r1.toList ++ []) I1 J1)) := (ge (A := (53, 32, 168, 1, 0)) rfl).trans (gtrue (Nat.le_of_ble_eq_true rfl))
set_option maxRecDepth 10000 in
theorem g_176_32 : GO x d 176 Q 32 [some (.inr (.inr w)), v1, v2] st I J = GO x d 176 Q 33 [some (.inr (.inr w)), v1, v2] (.inr (.inr w) :: st) I J := ge (A := (2, 33, 0, 0, 0)) rfl
set_option maxRecDepth 10000 in
theorem g_176_33 : GO x d 176 Q 33 [v0, some (.inl a), v2] st I J = GO x d 176 Q 34 [v0, some (.inl a), v2] (.inl a :: st) I J := ge (A := (1, 34, 1, 0, 0)) rfl
set_option maxRecDepth 10000 in
theorem g_176_34 : GO x d 176 Q 34 [v0, v1, v2] [.inl i0, .inr (.inr (.inl r))] I J = (okO r 10 ∧ EX x d 174 [.inr (.inr (.inl r)), .inl i0] I J (fun r1 I1 J1 => GO x d 176 Q 37 [v0, v1, v2] (r1.toList ++ []) I1 J1)) := (ge (A := (53, 37, 174, 1, 0)) rfl).trans (gtrue (Nat.le_of_ble_eq_true rfl))
set_option maxRecDepth 10000 in
theorem g_176_37 : GO x d 176 Q 37 [v0, v1, v2] (.inl a :: st) I J = GO x d 176 Q 38 [v0, v1, v2] (.inl (-a) :: st) I J := ge (A := (19, 38, 0, 0, 0)) rfl
set_option maxRecDepth 10000 in
theorem g_176_38 : GO x d 176 Q 38 [v0, v1, v2] [.inl a] I J = Q (some (.inl a)) I J := ge (A := (55, 39, 0, 0, 0)) rfl
set_option maxRecDepth 10000 in
theorem g_176_39 : GO x d 176 Q 39 [some (.inr (.inr w)), v1, v2] st I J = GO x d 176 Q 40 [some (.inr (.inr w)), v1, v2] (.inr (.inr w) :: st) I J := ge (A := (2, 40, 0, 0, 0)) rfl
set_option maxRecDepth 10000 in
theorem g_176_40 : GO x d 176 Q 40 [v0, some (.inl a), v2] st I J = GO x d 176 Q 41 [v0, some (.inl a), v2] (.inl a :: st) I J := ge (A := (1, 41, 1, 0, 0)) rfl
set_option maxRecDepth 10000 in
theorem g_176_41 : GO x d 176 Q 41 [v0, v1, v2] [.inl i0, .inr (.inr (.inl r))] I J = (okO r 10 ∧ EX x d 174 [.inr (.inr (.inl r)), .inl i0] I J (fun r1 I1 J1 => GO x d 176 Q 44 [v0, v1, v2] (r1.toList ++ []) I1 J1)) := (ge (A := (53, 44, 174, 1, 0)) rfl).trans (gtrue (Nat.le_of_ble_eq_true rfl))
set_option maxRecDepth 10000 in
theorem g_176_44 : GO x d 176 Q 44 [v0, v1, v2] [.inl a] I J = Q (some (.inl a)) I J := ge (A := (55, 45, 0, 0, 0)) rfl
set_option maxRecDepth 10000 in
theorem e_176 : EX x (d + 1) 176 [.inr (.inr w0), .inl i0] I J Q = GO x d 176 Q 0 [some (.inr (.inr w0)), some (.inl i0), none] [] I J := ex_eq (Nat.le_of_ble_eq_true rfl) rfl (Nat.le_of_ble_eq_true rfl) rfl
set_option maxRecDepth 10000 in
theorem g_177_0 : GO x d 177 Q 0 [some (.inr (.inr w)), v1, v2] st I J = GO x d 177 Q 1 [some (.inr (.inr w)), v1, v2] (.inr (.inr w) :: st) I J := ge (A := (2, 1, 0, 0, 0)) rfl
set_option maxRecDepth 10000 in
theorem g_177_1 : GO x d 177 Q 1 [v0, v1, v2] (.inr (.inr (.inl r)) :: st) I J = (okF r 10 2 ∧ GO x d 177 Q 4 [v0, v1, v2] (.inr (.inr (.inl (rfN r 2))) :: st) I J) := (ge (A := (39, 4, 10, 2, 0)) rfl).trans (gref (f := fun q => GO x d 177 Q 4 [v0, v1, v2] (.inr (.inr (.inl q)) :: st) I J))
set_option maxRecDepth 10000 in
theorem g_177_4 : GO x d 177 Q 4 [v0, v1, v2] st I J = GO x d 177 Q 6 [v0, v1, v2] (.inl (8) :: st) I J := ge (A := (0, 6, 0, 0, 8)) rfl
set_option maxRecDepth 10000 in
theorem g_177_6 : GO x d 177 Q 6 [v0, some (.inl a), v2] st I J = GO x d 177 Q 7 [v0, some (.inl a), v2] (.inl a :: st) I J := ge (A := (1, 7, 1, 0, 0)) rfl
set_option maxRecDepth 10000 in
theorem g_177_7 : GO x d 177 Q 7 [v0, v1, v2] (.inl b :: .inl a :: st) I J = GO x d 177 Q 8 [v0, v1, v2] (.inl (a + b) :: st) I J := ge (A := (8, 8, 0, 0, 0)) rfl
set_option maxRecDepth 10000 in
theorem h_177_8 : GO x d 177 Q 8 [v0, v1, v2] (.inl a :: .inr (.inr (.inr q)) :: st) I J = (q < 4 ∧ 0 ≤ a ∧ a < (roA x q).1 ∧ GO x d 177 Q 9 [v0, v1, v2] (.inl ((roA x q).2 a.toNat) :: st) I J) := ge (A := (44, 9, 0, 0, 0)) rfl
set_option maxRecDepth 10000 in
theorem g_177_8 : GO x d 177 Q 8 [v0, v1, v2] (.inl a :: .inr (.inr (.inl r)) :: st) I J = (okA r 20 ∧ 0 ≤ a ∧ a < lnN r ∧ GO x d 177 Q 9 [v0, v1, v2] (.inl (I r a) :: st) I J) := ge (A := (44, 9, 0, 0, 0)) rfl
set_option maxRecDepth 10000 in
theorem g_177_9 : GO x d 177 Q 9 [v0, v1, v2] st I J = GO x d 177 Q 10 [v0, v1, v2] (.inl (4) :: st) I J := ge (A := (0, 10, 0, 0, 4)) rfl
set_option maxRecDepth 10000 in
theorem g_177_10 : GO x d 177 Q 10 [v0, v1, v2] (.inl b :: .inl a :: st) I J = (inR a ∧ inR b ∧ if a < b then GO x d 177 Q 13 [v0, v1, v2] st I J else GO x d 177 Q 19 [v0, v1, v2] st I J) := (ge (A := (34, 13, 19, 3, 0)) rfl).trans (ggec)
set_option maxRecDepth 10000 in
theorem g_177_13 : GO x d 177 Q 13 [some (.inr (.inr w)), v1, v2] st I J = GO x d 177 Q 14 [some (.inr (.inr w)), v1, v2] (.inr (.inr w) :: st) I J := ge (A := (2, 14, 0, 0, 0)) rfl
set_option maxRecDepth 10000 in
theorem g_177_14 : GO x d 177 Q 14 [v0, some (.inl a), v2] st I J = GO x d 177 Q 15 [v0, some (.inl a), v2] (.inl a :: st) I J := ge (A := (1, 15, 1, 0, 0)) rfl
set_option maxRecDepth 10000 in
theorem g_177_15 : GO x d 177 Q 15 [v0, v1, v2] [.inl i0, .inr (.inr (.inl r))] I J = (okO r 10 ∧ EX x d 173 [.inr (.inr (.inl r)), .inl i0] I J (fun r1 I1 J1 => GO x d 177 Q 18 [v0, v1, v2] (r1.toList ++ []) I1 J1)) := (ge (A := (53, 18, 173, 1, 0)) rfl).trans (gtrue (Nat.le_of_ble_eq_true rfl))
set_option maxRecDepth 10000 in
theorem g_177_18 : GO x d 177 Q 18 [v0, v1, v2] [.inl a] I J = Q (some (.inl a)) I J := ge (A := (55, 19, 0, 0, 0)) rfl
set_option maxRecDepth 10000 in
theorem g_177_19 : GO x d 177 Q 19 [some (.inr (.inr w)), v1, v2] st I J = GO x d 177 Q 20 [some (.inr (.inr w)), v1, v2] (.inr (.inr w) :: st) I J := ge (A := (2, 20, 0, 0, 0)) rfl
set_option maxRecDepth 10000 in
theorem g_177_20 : GO x d 177 Q 20 [v0, v1, v2] st I J = GO x d 177 Q 22 [v0, v1, v2] (.inl (23) :: st) I J := ge (A := (0, 22, 0, 0, 23)) rfl
set_option maxRecDepth 10000 in
theorem g_177_22 : GO x d 177 Q 22 [v0, v1, v2] [.inl i0, .inr (.inr (.inl r))] I J = (okO r 10 ∧ EX x d 168 [.inr (.inr (.inl r)), .inl i0] I J (fun r1 I1 J1 => GO x d 177 Q 25 [v0, v1, v2] (r1.toList ++ []) I1 J1)) := (ge (A := (53, 25, 168, 1, 0)) rfl).trans (gtrue (Nat.le_of_ble_eq_true rfl))
set_option maxRecDepth 10000 in
theorem g_177_25 : GO x d 177 Q 25 [some (.inr (.inr w)), v1, v2] st I J = GO x d 177 Q 26 [some (.inr (.inr w)), v1, v2] (.inr (.inr w) :: st) I J := ge (A := (2, 26, 0, 0, 0)) rfl
set_option maxRecDepth 10000 in
theorem g_177_26 : GO x d 177 Q 26 [v0, some (.inl a), v2] st I J = GO x d 177 Q 27 [v0, some (.inl a), v2] (.inl a :: st) I J := ge (A := (1, 27, 1, 0, 0)) rfl
set_option maxRecDepth 10000 in
theorem g_177_27 : GO x d 177 Q 27 [v0, v1, v2] [.inl i0, .inr (.inr (.inl r))] I J = (okO r 10 ∧ EX x d 170 [.inr (.inr (.inl r)), .inl i0] I J (fun r1 I1 J1 => GO x d 177 Q 30 [v0, v1, v2] (r1.toList ++ []) I1 J1)) := (ge (A := (53, 30, 170, 1, 0)) rfl).trans (gtrue (Nat.le_of_ble_eq_true rfl))
set_option maxRecDepth 10000 in
theorem g_177_30 : GO x d 177 Q 30 [v0, v1, v2] (.inl a :: st) I J = (nlO (some v1) = true ∧ GO x d 177 Q 31 [v0, v1, some (.inl a)] st I J) := (ge (A := (4, 31, 2, 0, 0)) rfl).trans (gst (Nat.le_of_ble_eq_true rfl) _)
set_option maxRecDepth 10000 in
theorem g_177_31 : GO x d 177 Q 31 [v0, v1, some (.inl a)] st I J = GO x d 177 Q 32 [v0, v1, some (.inl a)] (.inl a :: st) I J := ge (A := (1, 32, 2, 0, 0)) rfl
set_option maxRecDepth 10000 in
theorem g_177_32 : GO x d 177 Q 32 [some (.inr (.inr w)), v1, v2] st I J = GO x d 177 Q 33 [some (.inr (.inr w)), v1, v2] (.inr (.inr w) :: st) I J := ge (A := (2, 33, 0, 0, 0)) rfl
set_option maxRecDepth 10000 in
theorem g_177_33 : GO x d 177 Q 33 [v0, some (.inl a), v2] st I J = GO x d 177 Q 34 [v0, some (.inl a), v2] (.inl a :: st) I J := ge (A := (1, 34, 1, 0, 0)) rfl
set_option maxRecDepth 10000 in
theorem g_177_34 : GO x d 177 Q 34 [v0, v1, v2] [.inl i0, .inr (.inr (.inl r)), .inl i1] I J = (okO r 10 ∧ EX x d 175 [.inr (.inr (.inl r)), .inl i0] I J (fun r1 I1 J1 => GO x d 177 Q 37 [v0, v1, v2] (r1.toList ++ [.inl i1]) I1 J1)) := (ge (A := (53, 37, 175, 1, 0)) rfl).trans (gtrue (Nat.le_of_ble_eq_true rfl))
set_option maxRecDepth 10000 in
theorem g_177_37 : GO x d 177 Q 37 [v0, v1, v2] (.inl b :: .inl a :: st) I J = GO x d 177 Q 38 [v0, v1, v2] (.inl (a - b) :: st) I J := ge (A := (9, 38, 0, 0, 0)) rfl
set_option maxRecDepth 10000 in
theorem g_177_38 : GO x d 177 Q 38 [v0, v1, v2] [.inl a] I J = Q (some (.inl a)) I J := ge (A := (55, 39, 0, 0, 0)) rfl
set_option maxRecDepth 10000 in
theorem e_177 : EX x (d + 1) 177 [.inr (.inr w0), .inl i0] I J Q = GO x d 177 Q 0 [some (.inr (.inr w0)), some (.inl i0), none] [] I J := ex_eq (Nat.le_of_ble_eq_true rfl) rfl (Nat.le_of_ble_eq_true rfl) rfl
set_option maxRecDepth 10000 in
theorem g_178_0 : GO x d 178 Q 0 [some (.inr (.inr w)), v1, v2] st I J = GO x d 178 Q 1 [some (.inr (.inr w)), v1, v2] (.inr (.inr w) :: st) I J := ge (A := (2, 1, 0, 0, 0)) rfl
set_option maxRecDepth 10000 in
theorem g_178_1 : GO x d 178 Q 1 [v0, some (.inl a), v2] st I J = GO x d 178 Q 2 [v0, some (.inl a), v2] (.inl a :: st) I J := ge (A := (1, 2, 1, 0, 0)) rfl
set_option maxRecDepth 10000 in
theorem g_178_2 : GO x d 178 Q 2 [v0, v1, v2] [.inl i0, .inr (.inr (.inl r))] I J = (okO r 10 ∧ EX x d 111 [.inr (.inr (.inl r)), .inl i0] I J (fun r1 I1 J1 => GO x d 178 Q 5 [v0, v1, v2] (r1.toList ++ []) I1 J1)) := (ge (A := (53, 5, 111, 1, 0)) rfl).trans (gtrue (Nat.le_of_ble_eq_true rfl))
set_option maxRecDepth 10000 in
theorem g_178_5 : GO x d 178 Q 5 [v0, v1, v2] (.inl a :: st) I J = (inR a ∧ if a = 0 then GO x d 178 Q 17 [v0, v1, v2] st I J else GO x d 178 Q 8 [v0, v1, v2] st I J) := (ge (A := (33, 8, 17, 0, 0)) rfl).trans (gif (p := a = 0) inferInstance)
set_option maxRecDepth 10000 in
theorem g_178_8 : GO x d 178 Q 8 [v0, v1, some (.inl a)] st I J = GO x d 178 Q 9 [v0, v1, some (.inl a)] (.inl a :: st) I J := ge (A := (1, 9, 2, 0, 0)) rfl
set_option maxRecDepth 10000 in
theorem g_178_9 : GO x d 178 Q 9 [v0, v1, v2] st I J = GO x d 178 Q 10 [v0, v1, v2] (.inl (0) :: st) I J := ge (A := (0, 10, 0, 0, 0)) rfl
set_option maxRecDepth 10000 in
theorem g_178_10 : GO x d 178 Q 10 [v0, v1, v2] st I J = GO x d 178 Q 11 [v0, v1, v2] (.inl (1) :: st) I J := ge (A := (0, 11, 0, 0, 1)) rfl
set_option maxRecDepth 10000 in
theorem g_178_11 : GO x d 178 Q 11 [v0, v1, v2] [.inl i0, .inl i1, .inl i2] I J = EX x d 109 [.inl i2, .inl i1, .inl i0] I J (fun r1 I1 J1 => GO x d 178 Q 14 [v0, v1, v2] (r1.toList ++ []) I1 J1) := (ge (A := (52, 14, 109, 3, 0)) rfl).trans (gtrue2 (Nat.le_of_ble_eq_true rfl) (Nat.le_of_ble_eq_true rfl))
set_option maxRecDepth 10000 in
theorem g_178_14 : GO x d 178 Q 14 [v0, v1, v2] (.inl a :: st) I J = (inR a ∧ if a = 0 then GO x d 178 Q 17 [v0, v1, v2] st I J else GO x d 178 Q 20 [v0, v1, v2] st I J) := (ge (A := (33, 17, 20, 1, 0)) rfl).trans (gifn (p := a = 0) inferInstance)
set_option maxRecDepth 10000 in
theorem g_178_17 : GO x d 178 Q 17 [v0, v1, v2] st I J = GO x d 178 Q 19 [v0, v1, v2] (.inl (-1000001) :: st) I J := ge (A := (0, 19, 0, 0, -1000001)) rfl
set_option maxRecDepth 10000 in
theorem g_178_19 : GO x d 178 Q 19 [v0, v1, v2] [.inl a] I J = Q (some (.inl a)) I J := ge (A := (55, 20, 0, 0, 0)) rfl
set_option maxRecDepth 10000 in
theorem g_178_20 : GO x d 178 Q 20 [some (.inr (.inr w)), v1, v2] st I J = GO x d 178 Q 21 [some (.inr (.inr w)), v1, v2] (.inr (.inr w) :: st) I J := ge (A := (2, 21, 0, 0, 0)) rfl
set_option maxRecDepth 10000 in
theorem g_178_21 : GO x d 178 Q 21 [v0, v1, v2] st I J = GO x d 178 Q 22 [v0, v1, v2] (.inl (0) :: st) I J := ge (A := (0, 22, 0, 0, 0)) rfl
set_option maxRecDepth 10000 in
theorem g_178_22 : GO x d 178 Q 22 [v0, v1, v2] (.inl a :: .inr (.inr (.inl r)) :: st) I J = (okO r 10 ∧ GO x d 178 Q 25 [v0, v1, v2] st (up I r 12 a) J) := ge (A := (40, 25, 10, 12, 0)) rfl
set_option maxRecDepth 10000 in
theorem g_178_25 : GO x d 178 Q 25 [v0, v1, some (.inl a)] st I J = GO x d 178 Q 26 [v0, v1, some (.inl a)] (.inl a :: st) I J := ge (A := (1, 26, 2, 0, 0)) rfl
set_option maxRecDepth 10000 in
theorem g_178_26 : GO x d 178 Q 26 [v0, v1, v2] (.inl a :: st) I J = (inR a ∧ if a = 0 then GO x d 178 Q 29 [v0, v1, v2] st I J else GO x d 178 Q 37 [v0, v1, v2] st I J) := (ge (A := (33, 29, 37, 1, 0)) rfl).trans (gifn (p := a = 0) inferInstance)
set_option maxRecDepth 10000 in
theorem g_178_29 : GO x d 178 Q 29 [some (.inr (.inr w)), v1, v2] st I J = GO x d 178 Q 30 [some (.inr (.inr w)), v1, v2] (.inr (.inr w) :: st) I J := ge (A := (2, 30, 0, 0, 0)) rfl
set_option maxRecDepth 10000 in
theorem g_178_30 : GO x d 178 Q 30 [v0, some (.inl a), v2] st I J = GO x d 178 Q 31 [v0, some (.inl a), v2] (.inl a :: st) I J := ge (A := (1, 31, 1, 0, 0)) rfl
set_option maxRecDepth 10000 in
theorem g_178_31 : GO x d 178 Q 31 [v0, v1, v2] [.inl i0, .inr (.inr (.inl r))] I J = (okO r 10 ∧ EX x d 176 [.inr (.inr (.inl r)), .inl i0] I J (fun r1 I1 J1 => GO x d 178 Q 34 [v0, v1, v2] (r1.toList ++ []) I1 J1)) := (ge (A := (53, 34, 176, 1, 0)) rfl).trans (gtrue (Nat.le_of_ble_eq_true rfl))
set_option maxRecDepth 10000 in
theorem g_178_34 : GO x d 178 Q 34 [v0, v1, v2] st I J = GO x d 178 Q 42 [v0, v1, v2] st I J := ge (A := (35, 37, 42, 0, 0)) rfl
set_option maxRecDepth 10000 in
theorem g_178_37 : GO x d 178 Q 37 [some (.inr (.inr w)), v1, v2] st I J = GO x d 178 Q 38 [some (.inr (.inr w)), v1, v2] (.inr (.inr w) :: st) I J := ge (A := (2, 38, 0, 0, 0)) rfl
set_option maxRecDepth 10000 in
theorem g_178_38 : GO x d 178 Q 38 [v0, some (.inl a), v2] st I J = GO x d 178 Q 39 [v0, some (.inl a), v2] (.inl a :: st) I J := ge (A := (1, 39, 1, 0, 0)) rfl
set_option maxRecDepth 10000 in
theorem g_178_39 : GO x d 178 Q 39 [v0, v1, v2] [.inl i0, .inr (.inr (.inl r))] I J = (okO r 10 ∧ EX x d 177 [.inr (.inr (.inl r)), .inl i0] I J (fun r1 I1 J1 => GO x d 178 Q 42 [v0, v1, v2] (r1.toList ++ []) I1 J1)) := (ge (A := (53, 42, 177, 1, 0)) rfl).trans (gtrue (Nat.le_of_ble_eq_true rfl))
set_option maxRecDepth 10000 in
theorem g_178_42 : GO x d 178 Q 42 [v0, v1, v2] [.inl a] I J = Q (some (.inl a)) I J := ge (A := (55, 43, 0, 0, 0)) rfl
set_option maxRecDepth 10000 in
theorem e_178 : EX x (d + 1) 178 [.inr (.inr w0), .inl i0, .inl i1] I J Q = GO x d 178 Q 0 [some (.inr (.inr w0)), some (.inl i0), some (.inl i1)] [] I J := ex_eq (Nat.le_of_ble_eq_true rfl) rfl (Nat.le_of_ble_eq_true rfl) rfl
set_option maxRecDepth 10000 in
theorem g_179_0 : GO x d 179 Q 0 [v0, some (.inl a)] st I J = GO x d 179 Q 1 [v0, some (.inl a)] (.inl a :: st) I J := ge (A := (1, 1, 1, 0, 0)) rfl
set_option maxRecDepth 10000 in
theorem g_179_1 : GO x d 179 Q 1 [v0, v1] st I J = GO x d 179 Q 2 [v0, v1] (.inl (0) :: st) I J := ge (A := (0, 2, 0, 0, 0)) rfl
set_option maxRecDepth 10000 in
theorem g_179_2 : GO x d 179 Q 2 [some (.inr (.inr w)), v1] st I J = GO x d 179 Q 3 [some (.inr (.inr w)), v1] (.inr (.inr w) :: st) I J := ge (A := (2, 3, 0, 0, 0)) rfl
set_option maxRecDepth 10000 in
theorem g_179_3 : GO x d 179 Q 3 [v0, v1] (.inr (.inr (.inl r)) :: st) I J = (okO r 10 ∧ GO x d 179 Q 6 [v0, v1] (.inl (I r 12) :: st) I J) := ge (A := (37, 6, 10, 12, 0)) rfl
set_option maxRecDepth 10000 in
theorem g_179_6 : GO x d 179 Q 6 [v0, v1] st I J = GO x d 179 Q 7 [v0, v1] (.inl (1) :: st) I J := ge (A := (0, 7, 0, 0, 1)) rfl
set_option maxRecDepth 10000 in
theorem g_179_7 : GO x d 179 Q 7 [v0, v1] (.inl b :: .inl a :: st) I J = GO x d 179 Q 8 [v0, v1] (.inl (a - b) :: st) I J := ge (A := (9, 8, 0, 0, 0)) rfl
set_option maxRecDepth 10000 in
theorem g_179_8 : GO x d 179 Q 8 [v0, v1] [.inl i0, .inl i1, .inl i2] I J = EX x d 109 [.inl i2, .inl i1, .inl i0] I J (fun r1 I1 J1 => GO x d 179 Q 11 [v0, v1] (r1.toList ++ []) I1 J1) := (ge (A := (52, 11, 109, 3, 0)) rfl).trans (gtrue2 (Nat.le_of_ble_eq_true rfl) (Nat.le_of_ble_eq_true rfl))
set_option maxRecDepth 10000 in
theorem g_179_11 : GO x d 179 Q 11 [v0, v1] (.inl a :: st) I J = (inR a ∧ if a = 0 then GO x d 179 Q 23 [v0, v1] st I J else GO x d 179 Q 14 [v0, v1] st I J) := (ge (A := (33, 14, 23, 0, 0)) rfl).trans (gif (p := a = 0) inferInstance)
set_option maxRecDepth 10000 in
theorem g_179_14 : GO x d 179 Q 14 [some (.inr (.inr w)), v1] st I J = GO x d 179 Q 15 [some (.inr (.inr w)), v1] (.inr (.inr w) :: st) I J := ge (A := (2, 15, 0, 0, 0)) rfl
set_option maxRecDepth 10000 in
theorem g_179_15 : GO x d 179 Q 15 [v0, v1] (.inr (.inr (.inl r)) :: st) I J = (okF r 10 11 ∧ GO x d 179 Q 18 [v0, v1] (.inr (.inr (.inl (rfN r 11))) :: st) I J) := (ge (A := (39, 18, 10, 11, 0)) rfl).trans (gref (f := fun q => GO x d 179 Q 18 [v0, v1] (.inr (.inr (.inl q)) :: st) I J))
set_option maxRecDepth 10000 in
theorem g_179_18 : GO x d 179 Q 18 [v0, some (.inl a)] st I J = GO x d 179 Q 19 [v0, some (.inl a)] (.inl a :: st) I J := ge (A := (1, 19, 1, 0, 0)) rfl
set_option maxRecDepth 10000 in
theorem h_179_19 : GO x d 179 Q 19 [v0, v1] (.inl a :: .inr (.inr (.inr q)) :: st) I J = (q < 4 ∧ 0 ≤ a ∧ a < (roA x q).1 ∧ GO x d 179 Q 20 [v0, v1] (.inl ((roA x q).2 a.toNat) :: st) I J) := ge (A := (44, 20, 0, 0, 0)) rfl
set_option maxRecDepth 10000 in
theorem g_179_19 : GO x d 179 Q 19 [v0, v1] (.inl a :: .inr (.inr (.inl r)) :: st) I J = (okA r 20 ∧ 0 ≤ a ∧ a < lnN r ∧ GO x d 179 Q 20 [v0, v1] (.inl (I r a) :: st) I J) := ge (A := (44, 20, 0, 0, 0)) rfl
set_option maxRecDepth 10000 in
theorem g_179_20 : GO x d 179 Q 20 [v0, v1] st I J = GO x d 179 Q 25 [v0, v1] st I J := ge (A := (35, 23, 25, 0, 0)) rfl
set_option maxRecDepth 10000 in
theorem g_179_23 : GO x d 179 Q 23 [v0, v1] st I J = GO x d 179 Q 25 [v0, v1] (.inl (-1000000) :: st) I J := ge (A := (0, 25, 0, 0, -1000000)) rfl
set_option maxRecDepth 10000 in
theorem g_179_25 : GO x d 179 Q 25 [v0, v1] [.inl a] I J = Q (some (.inl a)) I J := ge (A := (55, 26, 0, 0, 0)) rfl
set_option maxRecDepth 10000 in
theorem e_179 : EX x (d + 1) 179 [.inr (.inr w0), .inl i0] I J Q = GO x d 179 Q 0 [some (.inr (.inr w0)), some (.inl i0)] [] I J := ex_eq (Nat.le_of_ble_eq_true rfl) rfl (Nat.le_of_ble_eq_true rfl) rfl
set_option maxRecDepth 10000 in
theorem g_180_0 : GO x d 180 Q 0 [v0, v1, v2, v3] st I J = GO x d 180 Q 1 [v0, v1, v2, v3] (.inl (0) :: st) I J := ge (A := (0, 1, 0, 0, 0)) rfl
set_option maxRecDepth 10000 in
theorem g_180_1 : GO x d 180 Q 1 [v0, v1, v2, v3] (.inl a :: st) I J = (nlO (some v1) = true ∧ GO x d 180 Q 2 [v0, v1, some (.inl a), v3] st I J) := (ge (A := (4, 2, 2, 0, 0)) rfl).trans (gst (Nat.le_of_ble_eq_true rfl) _)
set_option maxRecDepth 10000 in
theorem g_180_2 : GO x d 180 Q 2 [v0, v1, v2, v3] st I J = GO x d 180 Q 3 [v0, v1, v2, v3] (.inl (0) :: st) I J := ge (A := (0, 3, 0, 0, 0)) rfl
set_option maxRecDepth 10000 in
theorem g_180_3 : GO x d 180 Q 3 [v0, v1, v2, v3] (.inl a :: st) I J = (nlO (some v2) = true ∧ GO x d 180 Q 4 [v0, v1, v2, some (.inl a)] st I J) := (ge (A := (4, 4, 3, 0, 0)) rfl).trans (gst (Nat.le_of_ble_eq_true rfl) _)
set_option maxRecDepth 10000 in
theorem g_180_4 : GO x d 180 Q 4 [v0, v1, v2, some (.inl a)] st I J = GO x d 180 Q 5 [v0, v1, v2, some (.inl a)] (.inl a :: st) I J := ge (A := (1, 5, 3, 0, 0)) rfl
set_option maxRecDepth 10000 in
theorem g_180_5 : GO x d 180 Q 5 [v0, v1, v2, v3] st I J = GO x d 180 Q 7 [v0, v1, v2, v3] (.inl (8) :: st) I J := ge (A := (0, 7, 0, 0, 8)) rfl
set_option maxRecDepth 10000 in
theorem g_180_7 : GO x d 180 Q 7 [v0, v1, v2, v3] (.inl b :: .inl a :: st) I J = (inR a ∧ inR b ∧ if a < b then GO x d 180 Q 10 [v0, v1, v2, v3] st I J else GO x d 180 Q 33 [v0, v1, v2, v3] st I J) := (ge (A := (34, 10, 33, 3, 0)) rfl).trans (ggec)
set_option maxRecDepth 10000 in
theorem g_180_10 : GO x d 180 Q 10 [v0, v1, some (.inl a), v3] st I J = GO x d 180 Q 11 [v0, v1, some (.inl a), v3] (.inl a :: st) I J := ge (A := (1, 11, 2, 0, 0)) rfl
set_option maxRecDepth 10000 in
theorem g_180_11 : GO x d 180 Q 11 [some (.inr (.inr w)), v1, v2, v3] st I J = GO x d 180 Q 12 [some (.inr (.inr w)), v1, v2, v3] (.inr (.inr w) :: st) I J := ge (A := (2, 12, 0, 0, 0)) rfl
set_option maxRecDepth 10000 in
theorem g_180_12 : GO x d 180 Q 12 [v0, v1, v2, v3] (.inr (.inr (.inl r)) :: st) I J = (okF r 10 8 ∧ GO x d 180 Q 15 [v0, v1, v2, v3] (.inr (.inr (.inl (rfN r 8))) :: st) I J) := (ge (A := (39, 15, 10, 8, 0)) rfl).trans (gref (f := fun q => GO x d 180 Q 15 [v0, v1, v2, v3] (.inr (.inr (.inl q)) :: st) I J))
set_option maxRecDepth 10000 in
theorem g_180_15 : GO x d 180 Q 15 [v0, v1, v2, some (.inl a)] st I J = GO x d 180 Q 16 [v0, v1, v2, some (.inl a)] (.inl a :: st) I J := ge (A := (1, 16, 3, 0, 0)) rfl
set_option maxRecDepth 10000 in
theorem h_180_16 : GO x d 180 Q 16 [v0, v1, v2, v3] (.inl a :: .inr (.inr (.inr q)) :: st) I J = (q < 4 ∧ 0 ≤ a ∧ a < (roA x q).1 ∧ GO x d 180 Q 17 [v0, v1, v2, v3] (.inl ((roA x q).2 a.toNat) :: st) I J) := ge (A := (44, 17, 0, 0, 0)) rfl
set_option maxRecDepth 10000 in
theorem g_180_16 : GO x d 180 Q 16 [v0, v1, v2, v3] (.inl a :: .inr (.inr (.inl r)) :: st) I J = (okA r 20 ∧ 0 ≤ a ∧ a < lnN r ∧ GO x d 180 Q 17 [v0, v1, v2, v3] (.inl (I r a) :: st) I J) := ge (A := (44, 17, 0, 0, 0)) rfl
set_option maxRecDepth 10000 in
theorem g_180_17 : GO x d 180 Q 17 [v0, v1, v2, v3] (.inl a :: st) I J = (inR a ∧ if 0 < a then GO x d 180 Q 20 [v0, v1, v2, v3] st I J else GO x d 180 Q 24 [v0, v1, v2, v3] st I J) := (ge (A := (33, 20, 24, 5, 0)) rfl).trans (gge)
set_option maxRecDepth 10000 in
theorem g_180_20 : GO x d 180 Q 20 [v0, v1, v2, v3] st I J = GO x d 180 Q 21 [v0, v1, v2, v3] (.inl (1) :: st) I J := ge (A := (0, 21, 0, 0, 1)) rfl
set_option maxRecDepth 10000 in
theorem g_180_21 : GO x d 180 Q 21 [v0, v1, v2, v3] st I J = GO x d 180 Q 25 [v0, v1, v2, v3] st I J := ge (A := (35, 24, 25, 0, 0)) rfl
set_option maxRecDepth 10000 in
theorem g_180_24 : GO x d 180 Q 24 [v0, v1, v2, v3] st I J = GO x d 180 Q 25 [v0, v1, v2, v3] (.inl (0) :: st) I J := ge (A := (0, 25, 0, 0, 0)) rfl
set_option maxRecDepth 10000 in
theorem g_180_25 : GO x d 180 Q 25 [v0, v1, v2, v3] (.inl b :: .inl a :: st) I J = GO x d 180 Q 26 [v0, v1, v2, v3] (.inl (a + b) :: st) I J := ge (A := (8, 26, 0, 0, 0)) rfl
set_option maxRecDepth 10000 in
theorem g_180_26 : GO x d 180 Q 26 [v0, v1, v2, v3] (.inl a :: st) I J = (nlO (some v1) = true ∧ GO x d 180 Q 27 [v0, v1, some (.inl a), v3] st I J) := (ge (A := (4, 27, 2, 0, 0)) rfl).trans (gst (Nat.le_of_ble_eq_true rfl) _)
set_option maxRecDepth 10000 in
theorem g_180_27 : GO x d 180 Q 27 [v0, v1, v2, some (.inl a)] st I J = (nlO (some v2) = true ∧ GO x d 180 Q 30 [v0, v1, v2, some (.inl (a + (1)))] st I J) := ge (A := (7, 30, 3, 0, 1)) rfl
set_option maxRecDepth 10000 in
theorem g_180_30 : GO x d 180 Q 30 [v0, v1, v2, v3] st I J = GO x d 180 Q 4 [v0, v1, v2, v3] st I J := ge (A := (35, 33, 4, 0, 0)) rfl
set_option maxRecDepth 10000 in
theorem g_180_33 : GO x d 180 Q 33 [v0, some (.inl a), v2, v3] st I J = GO x d 180 Q 34 [v0, some (.inl a), v2, v3] (.inl a :: st) I J := ge (A := (1, 34, 1, 0, 0)) rfl
set_option maxRecDepth 10000 in
theorem g_180_34 : GO x d 180 Q 34 [v0, v1, v2, v3] (.inl a :: st) I J = (inR a ∧ if a = 0 then GO x d 180 Q 84 [v0, v1, v2, v3] st I J else if a = 1 then GO x d 180 Q 86 [v0, v1, v2, v3] st I J else if a = 2 then GO x d 180 Q 93 [v0, v1, v2, v3] st I J else if a = 3 then GO x d 180 Q 100 [v0, v1, v2, v3] st I J else if a = 4 then GO x d 180 Q 108 [v0, v1, v2, v3] st I J else if a = 5 then GO x d 180 Q 116 [v0, v1, v2, v3] st I J else if a = 6 then GO x d 180 Q 124 [v0, v1, v2, v3] st I J else if a = 7 then GO x d 180 Q 136 [v0, v1, v2, v3] st I J else if a = 8 then GO x d 180 Q 141 [v0, v1, v2, v3] st I J else GO x d 180 Q 146 [v0, v1, v2, v3] st I J) := (ge (A := (36, 84, 5, 0, 0)) rfl).trans (congrArg (And _) (propext (tswF_of (f := fun t => GO x d 180 Q t [v0, v1, v2, v3] st I J) [84, 86, 93, 100, 108, 116, 124, 136, 141] 0)))
set_option maxRecDepth 10000 in
theorem g_180_84 : GO x d 180 Q 84 [v0, v1, some (.inl a), v3] st I J = GO x d 180 Q 85 [v0, v1, some (.inl a), v3] (.inl a :: st) I J := ge (A := (1, 85, 2, 0, 0)) rfl
set_option maxRecDepth 10000 in
theorem g_180_85 : GO x d 180 Q 85 [v0, v1, v2, v3] [.inl a] I J = Q (some (.inl a)) I J := ge (A := (55, 86, 0, 0, 0)) rfl
set_option maxRecDepth 10000 in
theorem g_180_86 : GO x d 180 Q 86 [some (.inr (.inr w)), v1, v2, v3] st I J = GO x d 180 Q 87 [some (.inr (.inr w)), v1, v2, v3] (.inr (.inr w) :: st) I J := ge (A := (2, 87, 0, 0, 0)) rfl
set_option maxRecDepth 10000 in
theorem g_180_87 : GO x d 180 Q 87 [v0, v1, v2, v3] (.inr (.inr (.inl r)) :: st) I J = (okF r 10 2 ∧ GO x d 180 Q 90 [v0, v1, v2, v3] (.inr (.inr (.inl (rfN r 2))) :: st) I J) := (ge (A := (39, 90, 10, 2, 0)) rfl).trans (gref (f := fun q => GO x d 180 Q 90 [v0, v1, v2, v3] (.inr (.inr (.inl q)) :: st) I J))
set_option maxRecDepth 10000 in
theorem g_180_90 : GO x d 180 Q 90 [v0, v1, v2, v3] st I J = GO x d 180 Q 91 [v0, v1, v2, v3] (.inl (1) :: st) I J := ge (A := (0, 91, 0, 0, 1)) rfl
set_option maxRecDepth 10000 in
theorem h_180_91 : GO x d 180 Q 91 [v0, v1, v2, v3] (.inl a :: .inr (.inr (.inr q)) :: st) I J = (q < 4 ∧ 0 ≤ a ∧ a < (roA x q).1 ∧ GO x d 180 Q 92 [v0, v1, v2, v3] (.inl ((roA x q).2 a.toNat) :: st) I J) := ge (A := (44, 92, 0, 0, 0)) rfl
set_option maxRecDepth 10000 in
theorem g_180_91 : GO x d 180 Q 91 [v0, v1, v2, v3] (.inl a :: .inr (.inr (.inl r)) :: st) I J = (okA r 20 ∧ 0 ≤ a ∧ a < lnN r ∧ GO x d 180 Q 92 [v0, v1, v2, v3] (.inl (I r a) :: st) I J) := ge (A := (44, 92, 0, 0, 0)) rfl
set_option maxRecDepth 10000 in
theorem g_180_92 : GO x d 180 Q 92 [v0, v1, v2, v3] [.inl a] I J = Q (some (.inl a)) I J := ge (A := (55, 93, 0, 0, 0)) rfl
set_option maxRecDepth 10000 in
theorem g_180_93 : GO x d 180 Q 93 [some (.inr (.inr w)), v1, v2, v3] st I J = GO x d 180 Q 94 [some (.inr (.inr w)), v1, v2, v3] (.inr (.inr w) :: st) I J := ge (A := (2, 94, 0, 0, 0)) rfl
set_option maxRecDepth 10000 in
theorem g_180_94 : GO x d 180 Q 94 [v0, v1, v2, v3] (.inr (.inr (.inl r)) :: st) I J = (okF r 10 2 ∧ GO x d 180 Q 97 [v0, v1, v2, v3] (.inr (.inr (.inl (rfN r 2))) :: st) I J) := (ge (A := (39, 97, 10, 2, 0)) rfl).trans (gref (f := fun q => GO x d 180 Q 97 [v0, v1, v2, v3] (.inr (.inr (.inl q)) :: st) I J))
set_option maxRecDepth 10000 in
theorem g_180_97 : GO x d 180 Q 97 [v0, v1, v2, v3] st I J = GO x d 180 Q 98 [v0, v1, v2, v3] (.inl (2) :: st) I J := ge (A := (0, 98, 0, 0, 2)) rfl
set_option maxRecDepth 10000 in
theorem h_180_98 : GO x d 180 Q 98 [v0, v1, v2, v3] (.inl a :: .inr (.inr (.inr q)) :: st) I J = (q < 4 ∧ 0 ≤ a ∧ a < (roA x q).1 ∧ GO x d 180 Q 99 [v0, v1, v2, v3] (.inl ((roA x q).2 a.toNat) :: st) I J) := ge (A := (44, 99, 0, 0, 0)) rfl
set_option maxRecDepth 10000 in
theorem g_180_98 : GO x d 180 Q 98 [v0, v1, v2, v3] (.inl a :: .inr (.inr (.inl r)) :: st) I J = (okA r 20 ∧ 0 ≤ a ∧ a < lnN r ∧ GO x d 180 Q 99 [v0, v1, v2, v3] (.inl (I r a) :: st) I J) := ge (A := (44, 99, 0, 0, 0)) rfl
set_option maxRecDepth 10000 in
theorem g_180_99 : GO x d 180 Q 99 [v0, v1, v2, v3] [.inl a] I J = Q (some (.inl a)) I J := ge (A := (55, 100, 0, 0, 0)) rfl
set_option maxRecDepth 10000 in
theorem g_180_100 : GO x d 180 Q 100 [some (.inr (.inr w)), v1, v2, v3] st I J = GO x d 180 Q 101 [some (.inr (.inr w)), v1, v2, v3] (.inr (.inr w) :: st) I J := ge (A := (2, 101, 0, 0, 0)) rfl
set_option maxRecDepth 10000 in
theorem g_180_101 : GO x d 180 Q 101 [v0, v1, v2, v3] (.inr (.inr (.inl r)) :: st) I J = (okF r 10 2 ∧ GO x d 180 Q 104 [v0, v1, v2, v3] (.inr (.inr (.inl (rfN r 2))) :: st) I J) := (ge (A := (39, 104, 10, 2, 0)) rfl).trans (gref (f := fun q => GO x d 180 Q 104 [v0, v1, v2, v3] (.inr (.inr (.inl q)) :: st) I J))
set_option maxRecDepth 10000 in
theorem g_180_104 : GO x d 180 Q 104 [v0, v1, v2, v3] st I J = GO x d 180 Q 106 [v0, v1, v2, v3] (.inl (29) :: st) I J := ge (A := (0, 106, 0, 0, 29)) rfl
set_option maxRecDepth 10000 in
theorem h_180_106 : GO x d 180 Q 106 [v0, v1, v2, v3] (.inl a :: .inr (.inr (.inr q)) :: st) I J = (q < 4 ∧ 0 ≤ a ∧ a < (roA x q).1 ∧ GO x d 180 Q 107 [v0, v1, v2, v3] (.inl ((roA x q).2 a.toNat) :: st) I J) := ge (A := (44, 107, 0, 0, 0)) rfl
set_option maxRecDepth 10000 in
theorem g_180_106 : GO x d 180 Q 106 [v0, v1, v2, v3] (.inl a :: .inr (.inr (.inl r)) :: st) I J = (okA r 20 ∧ 0 ≤ a ∧ a < lnN r ∧ GO x d 180 Q 107 [v0, v1, v2, v3] (.inl (I r a) :: st) I J) := ge (A := (44, 107, 0, 0, 0)) rfl
set_option maxRecDepth 10000 in
theorem g_180_107 : GO x d 180 Q 107 [v0, v1, v2, v3] [.inl a] I J = Q (some (.inl a)) I J := ge (A := (55, 108, 0, 0, 0)) rfl
set_option maxRecDepth 10000 in
theorem g_180_108 : GO x d 180 Q 108 [some (.inr (.inr w)), v1, v2, v3] st I J = GO x d 180 Q 109 [some (.inr (.inr w)), v1, v2, v3] (.inr (.inr w) :: st) I J := ge (A := (2, 109, 0, 0, 0)) rfl
set_option maxRecDepth 10000 in
theorem g_180_109 : GO x d 180 Q 109 [v0, v1, v2, v3] (.inr (.inr (.inl r)) :: st) I J = (okF r 10 2 ∧ GO x d 180 Q 112 [v0, v1, v2, v3] (.inr (.inr (.inl (rfN r 2))) :: st) I J) := (ge (A := (39, 112, 10, 2, 0)) rfl).trans (gref (f := fun q => GO x d 180 Q 112 [v0, v1, v2, v3] (.inr (.inr (.inl q)) :: st) I J))
set_option maxRecDepth 10000 in
theorem g_180_112 : GO x d 180 Q 112 [v0, v1, v2, v3] st I J = GO x d 180 Q 114 [v0, v1, v2, v3] (.inl (30) :: st) I J := ge (A := (0, 114, 0, 0, 30)) rfl
set_option maxRecDepth 10000 in
theorem h_180_114 : GO x d 180 Q 114 [v0, v1, v2, v3] (.inl a :: .inr (.inr (.inr q)) :: st) I J = (q < 4 ∧ 0 ≤ a ∧ a < (roA x q).1 ∧ GO x d 180 Q 115 [v0, v1, v2, v3] (.inl ((roA x q).2 a.toNat) :: st) I J) := ge (A := (44, 115, 0, 0, 0)) rfl
set_option maxRecDepth 10000 in
theorem g_180_114 : GO x d 180 Q 114 [v0, v1, v2, v3] (.inl a :: .inr (.inr (.inl r)) :: st) I J = (okA r 20 ∧ 0 ≤ a ∧ a < lnN r ∧ GO x d 180 Q 115 [v0, v1, v2, v3] (.inl (I r a) :: st) I J) := ge (A := (44, 115, 0, 0, 0)) rfl
set_option maxRecDepth 10000 in
theorem g_180_115 : GO x d 180 Q 115 [v0, v1, v2, v3] [.inl a] I J = Q (some (.inl a)) I J := ge (A := (55, 116, 0, 0, 0)) rfl
set_option maxRecDepth 10000 in
theorem g_180_116 : GO x d 180 Q 116 [some (.inr (.inr w)), v1, v2, v3] st I J = GO x d 180 Q 117 [some (.inr (.inr w)), v1, v2, v3] (.inr (.inr w) :: st) I J := ge (A := (2, 117, 0, 0, 0)) rfl
set_option maxRecDepth 10000 in
theorem g_180_117 : GO x d 180 Q 117 [v0, v1, v2, v3] (.inr (.inr (.inl r)) :: st) I J = (okF r 10 2 ∧ GO x d 180 Q 120 [v0, v1, v2, v3] (.inr (.inr (.inl (rfN r 2))) :: st) I J) := (ge (A := (39, 120, 10, 2, 0)) rfl).trans (gref (f := fun q => GO x d 180 Q 120 [v0, v1, v2, v3] (.inr (.inr (.inl q)) :: st) I J))
set_option maxRecDepth 10000 in
theorem g_180_120 : GO x d 180 Q 120 [v0, v1, v2, v3] st I J = GO x d 180 Q 122 [v0, v1, v2, v3] (.inl (31) :: st) I J := ge (A := (0, 122, 0, 0, 31)) rfl
set_option maxRecDepth 10000 in
theorem h_180_122 : GO x d 180 Q 122 [v0, v1, v2, v3] (.inl a :: .inr (.inr (.inr q)) :: st) I J = (q < 4 ∧ 0 ≤ a ∧ a < (roA x q).1 ∧ GO x d 180 Q 123 [v0, v1, v2, v3] (.inl ((roA x q).2 a.toNat) :: st) I J) := ge (A := (44, 123, 0, 0, 0)) rfl
set_option maxRecDepth 10000 in
theorem g_180_122 : GO x d 180 Q 122 [v0, v1, v2, v3] (.inl a :: .inr (.inr (.inl r)) :: st) I J = (okA r 20 ∧ 0 ≤ a ∧ a < lnN r ∧ GO x d 180 Q 123 [v0, v1, v2, v3] (.inl (I r a) :: st) I J) := ge (A := (44, 123, 0, 0, 0)) rfl
set_option maxRecDepth 10000 in
theorem g_180_123 : GO x d 180 Q 123 [v0, v1, v2, v3] [.inl a] I J = Q (some (.inl a)) I J := ge (A := (55, 124, 0, 0, 0)) rfl
set_option maxRecDepth 10000 in
theorem g_180_124 : GO x d 180 Q 124 [some (.inr (.inr w)), v1, v2, v3] st I J = GO x d 180 Q 125 [some (.inr (.inr w)), v1, v2, v3] (.inr (.inr w) :: st) I J := ge (A := (2, 125, 0, 0, 0)) rfl
set_option maxRecDepth 10000 in
theorem g_180_125 : GO x d 180 Q 125 [v0, v1, v2, v3] (.inr (.inr (.inl r)) :: st) I J = (okF r 10 2 ∧ GO x d 180 Q 128 [v0, v1, v2, v3] (.inr (.inr (.inl (rfN r 2))) :: st) I J) := (ge (A := (39, 128, 10, 2, 0)) rfl).trans (gref (f := fun q => GO x d 180 Q 128 [v0, v1, v2, v3] (.inr (.inr (.inl q)) :: st) I J))
set_option maxRecDepth 10000 in
theorem g_180_128 : GO x d 180 Q 128 [v0, v1, v2, v3] st I J = GO x d 180 Q 129 [v0, v1, v2, v3] (.inl (2) :: st) I J := ge (A := (0, 129, 0, 0, 2)) rfl
set_option maxRecDepth 10000 in
theorem h_180_129 : GO x d 180 Q 129 [v0, v1, v2, v3] (.inl a :: .inr (.inr (.inr q)) :: st) I J = (q < 4 ∧ 0 ≤ a ∧ a < (roA x q).1 ∧ GO x d 180 Q 130 [v0, v1, v2, v3] (.inl ((roA x q).2 a.toNat) :: st) I J) := ge (A := (44, 130, 0, 0, 0)) rfl
set_option maxRecDepth 10000 in
theorem g_180_129 : GO x d 180 Q 129 [v0, v1, v2, v3] (.inl a :: .inr (.inr (.inl r)) :: st) I J = (okA r 20 ∧ 0 ≤ a ∧ a < lnN r ∧ GO x d 180 Q 130 [v0, v1, v2, v3] (.inl (I r a) :: st) I J) := ge (A := (44, 130, 0, 0, 0)) rfl
set_option maxRecDepth 10000 in
theorem g_180_130 : GO x d 180 Q 130 [some (.inr (.inr w)), v1, v2, v3] st I J = GO x d 180 Q 131 [some (.inr (.inr w)), v1, v2, v3] (.inr (.inr w) :: st) I J := ge (A := (2, 131, 0, 0, 0)) rfl
set_option maxRecDepth 10000 in
theorem g_180_131 : GO x d 180 Q 131 [v0, v1, v2, v3] [.inr (.inr (.inl r)), .inl i0] I J = (okO r 10 ∧ EX x d 152 [.inr (.inr (.inl r))] I J (fun r1 I1 J1 => GO x d 180 Q 134 [v0, v1, v2, v3] (r1.toList ++ [.inl i0]) I1 J1)) := (ge (A := (53, 134, 152, 0, 0)) rfl).trans (gtrue (Nat.le_of_ble_eq_true rfl))
set_option maxRecDepth 10000 in
theorem g_180_134 : GO x d 180 Q 134 [v0, v1, v2, v3] (.inl b :: .inl a :: st) I J = GO x d 180 Q 135 [v0, v1, v2, v3] (.inl (a - b) :: st) I J := ge (A := (9, 135, 0, 0, 0)) rfl
set_option maxRecDepth 10000 in
theorem g_180_135 : GO x d 180 Q 135 [v0, v1, v2, v3] [.inl a] I J = Q (some (.inl a)) I J := ge (A := (55, 136, 0, 0, 0)) rfl
set_option maxRecDepth 10000 in
theorem g_180_136 : GO x d 180 Q 136 [some (.inr (.inr w)), v1, v2, v3] st I J = GO x d 180 Q 137 [some (.inr (.inr w)), v1, v2, v3] (.inr (.inr w) :: st) I J := ge (A := (2, 137, 0, 0, 0)) rfl
set_option maxRecDepth 10000 in
theorem g_180_137 : GO x d 180 Q 137 [v0, v1, v2, v3] (.inr (.inr (.inl r)) :: st) I J = (okO r 10 ∧ GO x d 180 Q 140 [v0, v1, v2, v3] (.inl (I r 5) :: st) I J) := ge (A := (37, 140, 10, 5, 0)) rfl
set_option maxRecDepth 10000 in
theorem g_180_140 : GO x d 180 Q 140 [v0, v1, v2, v3] [.inl a] I J = Q (some (.inl a)) I J := ge (A := (55, 141, 0, 0, 0)) rfl
set_option maxRecDepth 10000 in
theorem g_180_141 : GO x d 180 Q 141 [some (.inr (.inr w)), v1, v2, v3] st I J = GO x d 180 Q 142 [some (.inr (.inr w)), v1, v2, v3] (.inr (.inr w) :: st) I J := ge (A := (2, 142, 0, 0, 0)) rfl
set_option maxRecDepth 10000 in
theorem g_180_142 : GO x d 180 Q 142 [v0, v1, v2, v3] (.inr (.inr (.inl r)) :: st) I J = (okO r 10 ∧ GO x d 180 Q 145 [v0, v1, v2, v3] (.inl (I r 1) :: st) I J) := ge (A := (37, 145, 10, 1, 0)) rfl
set_option maxRecDepth 10000 in
theorem g_180_145 : GO x d 180 Q 145 [v0, v1, v2, v3] [.inl a] I J = Q (some (.inl a)) I J := ge (A := (55, 146, 0, 0, 0)) rfl
set_option maxRecDepth 10000 in
theorem g_180_146 : GO x d 180 Q 146 [v0, v1, v2, v3] st I J = GO x d 180 Q 148 [v0, v1, v2, v3] (.inl (-1000001) :: st) I J := ge (A := (0, 148, 0, 0, -1000001)) rfl
set_option maxRecDepth 10000 in
theorem g_180_148 : GO x d 180 Q 148 [v0, v1, v2, v3] [.inl a] I J = Q (some (.inl a)) I J := ge (A := (55, 149, 0, 0, 0)) rfl
set_option maxRecDepth 10000 in
theorem e_180 : EX x (d + 1) 180 [.inr (.inr w0), .inl i0] I J Q = GO x d 180 Q 0 [some (.inr (.inr w0)), some (.inl i0), none, none] [] I J := ex_eq (Nat.le_of_ble_eq_true rfl) rfl (Nat.le_of_ble_eq_true rfl) rfl
set_option maxRecDepth 10000 in
theorem g_181_0 : GO x d 181 Q 0 [some (.inr (.inr w))] st I J = GO x d 181 Q 1 [some (.inr (.inr w))] (.inr (.inr w) :: st) I J := ge (A := (2, 1, 0, 0, 0)) rfl
set_option maxRecDepth 10000 in
theorem g_181_1 : GO x d 181 Q 1 [v0] (.inr (.inr (.inl r)) :: st) I J = (okO r 10 ∧ GO x d 181 Q 4 [v0] (.inl (I r 13) :: st) I J) := ge (A := (37, 4, 10, 13, 0)) rfl
set_option maxRecDepth 10000 in
theorem g_181_4 : GO x d 181 Q 4 [v0] [.inl a] I J = Q (some (.inl a)) I J := ge (A := (55, 5, 0, 0, 0)) rfl
set_option maxRecDepth 10000 in
theorem e_181 : EX x (d + 1) 181 [.inr (.inr w0)] I J Q = GO x d 181 Q 0 [some (.inr (.inr w0))] [] I J := ex_eq (Nat.le_of_ble_eq_true rfl) rfl (Nat.le_of_ble_eq_true rfl) rfl
set_option maxRecDepth 10000 in
theorem g_182_0 : GO x d 182 Q 0 [some (.inl a)] st I J = GO x d 182 Q 1 [some (.inl a)] (.inl a :: st) I J := ge (A := (1, 1, 0, 0, 0)) rfl
set_option maxRecDepth 10000 in
theorem g_182_1 : GO x d 182 Q 1 [some (.inl a)] st I J = GO x d 182 Q 2 [some (.inl a)] (.inl a :: st) I J := ge (A := (1, 2, 0, 0, 0)) rfl
set_option maxRecDepth 10000 in
theorem g_182_2 : GO x d 182 Q 2 [v0] st I J = GO x d 182 Q 3 [v0] (.inl (1) :: st) I J := ge (A := (0, 3, 0, 0, 1)) rfl
set_option maxRecDepth 10000 in
theorem g_182_3 : GO x d 182 Q 3 [v0] (.inl b :: .inl a :: st) I J = GO x d 182 Q 4 [v0] (.inl (ushrI a b) :: st) I J := ge (A := (16, 4, 0, 0, 0)) rfl
set_option maxRecDepth 10000 in
theorem g_182_4 : GO x d 182 Q 4 [v0] st I J = GO x d 182 Q 7 [v0] (.inl (1431655765) :: st) I J := ge (A := (0, 7, 0, 0, 1431655765)) rfl
set_option maxRecDepth 10000 in
theorem g_182_7 : GO x d 182 Q 7 [v0] (.inl b :: .inl a :: st) I J = GO x d 182 Q 8 [v0] (.inl (andI a b) :: st) I J := ge (A := (11, 8, 0, 0, 0)) rfl
set_option maxRecDepth 10000 in
theorem g_182_8 : GO x d 182 Q 8 [v0] (.inl b :: .inl a :: st) I J = GO x d 182 Q 9 [v0] (.inl (a - b) :: st) I J := ge (A := (9, 9, 0, 0, 0)) rfl
set_option maxRecDepth 10000 in
theorem g_182_9 : GO x d 182 Q 9 [v0] (.inl a :: st) I J = GO x d 182 Q 10 [some (.inl a)] st I J := (ge (A := (4, 10, 0, 0, 0)) rfl).trans (gtrue2 rfl (Nat.le_of_ble_eq_true rfl))
set_option maxRecDepth 10000 in
theorem g_182_10 : GO x d 182 Q 10 [some (.inl a)] st I J = GO x d 182 Q 11 [some (.inl a)] (.inl a :: st) I J := ge (A := (1, 11, 0, 0, 0)) rfl
set_option maxRecDepth 10000 in
theorem g_182_11 : GO x d 182 Q 11 [v0] st I J = GO x d 182 Q 14 [v0] (.inl (858993459) :: st) I J := ge (A := (0, 14, 0, 0, 858993459)) rfl
set_option maxRecDepth 10000 in
theorem g_182_14 : GO x d 182 Q 14 [v0] (.inl b :: .inl a :: st) I J = GO x d 182 Q 15 [v0] (.inl (andI a b) :: st) I J := ge (A := (11, 15, 0, 0, 0)) rfl
set_option maxRecDepth 10000 in
theorem g_182_15 : GO x d 182 Q 15 [some (.inl a)] st I J = GO x d 182 Q 16 [some (.inl a)] (.inl a :: st) I J := ge (A := (1, 16, 0, 0, 0)) rfl
set_option maxRecDepth 10000 in
theorem g_182_16 : GO x d 182 Q 16 [v0] st I J = GO x d 182 Q 17 [v0] (.inl (2) :: st) I J := ge (A := (0, 17, 0, 0, 2)) rfl
set_option maxRecDepth 10000 in
theorem g_182_17 : GO x d 182 Q 17 [v0] (.inl b :: .inl a :: st) I J = GO x d 182 Q 18 [v0] (.inl (ushrI a b) :: st) I J := ge (A := (16, 18, 0, 0, 0)) rfl
set_option maxRecDepth 10000 in
theorem g_182_18 : GO x d 182 Q 18 [v0] st I J = GO x d 182 Q 21 [v0] (.inl (858993459) :: st) I J := ge (A := (0, 21, 0, 0, 858993459)) rfl
set_option maxRecDepth 10000 in
theorem g_182_21 : GO x d 182 Q 21 [v0] (.inl b :: .inl a :: st) I J = GO x d 182 Q 22 [v0] (.inl (andI a b) :: st) I J := ge (A := (11, 22, 0, 0, 0)) rfl
set_option maxRecDepth 10000 in
theorem g_182_22 : GO x d 182 Q 22 [v0] (.inl b :: .inl a :: st) I J = GO x d 182 Q 23 [v0] (.inl (a + b) :: st) I J := ge (A := (8, 23, 0, 0, 0)) rfl
set_option maxRecDepth 10000 in
theorem g_182_23 : GO x d 182 Q 23 [v0] (.inl a :: st) I J = GO x d 182 Q 24 [some (.inl a)] st I J := (ge (A := (4, 24, 0, 0, 0)) rfl).trans (gtrue2 rfl (Nat.le_of_ble_eq_true rfl))
set_option maxRecDepth 10000 in
theorem g_182_24 : GO x d 182 Q 24 [some (.inl a)] st I J = GO x d 182 Q 25 [some (.inl a)] (.inl a :: st) I J := ge (A := (1, 25, 0, 0, 0)) rfl
set_option maxRecDepth 10000 in
theorem g_182_25 : GO x d 182 Q 25 [some (.inl a)] st I J = GO x d 182 Q 26 [some (.inl a)] (.inl a :: st) I J := ge (A := (1, 26, 0, 0, 0)) rfl
set_option maxRecDepth 10000 in
theorem g_182_26 : GO x d 182 Q 26 [v0] st I J = GO x d 182 Q 27 [v0] (.inl (4) :: st) I J := ge (A := (0, 27, 0, 0, 4)) rfl
set_option maxRecDepth 10000 in
theorem g_182_27 : GO x d 182 Q 27 [v0] (.inl b :: .inl a :: st) I J = GO x d 182 Q 28 [v0] (.inl (ushrI a b) :: st) I J := ge (A := (16, 28, 0, 0, 0)) rfl
set_option maxRecDepth 10000 in
theorem g_182_28 : GO x d 182 Q 28 [v0] (.inl b :: .inl a :: st) I J = GO x d 182 Q 29 [v0] (.inl (a + b) :: st) I J := ge (A := (8, 29, 0, 0, 0)) rfl
set_option maxRecDepth 10000 in
theorem g_182_29 : GO x d 182 Q 29 [v0] st I J = GO x d 182 Q 32 [v0] (.inl (252645135) :: st) I J := ge (A := (0, 32, 0, 0, 252645135)) rfl
set_option maxRecDepth 10000 in
theorem g_182_32 : GO x d 182 Q 32 [v0] (.inl b :: .inl a :: st) I J = GO x d 182 Q 33 [v0] (.inl (andI a b) :: st) I J := ge (A := (11, 33, 0, 0, 0)) rfl
set_option maxRecDepth 10000 in
theorem g_182_33 : GO x d 182 Q 33 [v0] (.inl a :: st) I J = GO x d 182 Q 34 [some (.inl a)] st I J := (ge (A := (4, 34, 0, 0, 0)) rfl).trans (gtrue2 rfl (Nat.le_of_ble_eq_true rfl))
set_option maxRecDepth 10000 in
theorem g_182_34 : GO x d 182 Q 34 [some (.inl a)] st I J = GO x d 182 Q 35 [some (.inl a)] (.inl a :: st) I J := ge (A := (1, 35, 0, 0, 0)) rfl
set_option maxRecDepth 10000 in
theorem g_182_35 : GO x d 182 Q 35 [some (.inl a)] st I J = GO x d 182 Q 36 [some (.inl a)] (.inl a :: st) I J := ge (A := (1, 36, 0, 0, 0)) rfl
set_option maxRecDepth 10000 in
theorem g_182_36 : GO x d 182 Q 36 [v0] st I J = GO x d 182 Q 38 [v0] (.inl (8) :: st) I J := ge (A := (0, 38, 0, 0, 8)) rfl
set_option maxRecDepth 10000 in
theorem g_182_38 : GO x d 182 Q 38 [v0] (.inl b :: .inl a :: st) I J = GO x d 182 Q 39 [v0] (.inl (ushrI a b) :: st) I J := ge (A := (16, 39, 0, 0, 0)) rfl
set_option maxRecDepth 10000 in
theorem g_182_39 : GO x d 182 Q 39 [v0] (.inl b :: .inl a :: st) I J = GO x d 182 Q 40 [v0] (.inl (a + b) :: st) I J := ge (A := (8, 40, 0, 0, 0)) rfl
set_option maxRecDepth 10000 in
theorem g_182_40 : GO x d 182 Q 40 [v0] (.inl a :: st) I J = GO x d 182 Q 41 [some (.inl a)] st I J := (ge (A := (4, 41, 0, 0, 0)) rfl).trans (gtrue2 rfl (Nat.le_of_ble_eq_true rfl))
set_option maxRecDepth 10000 in
theorem g_182_41 : GO x d 182 Q 41 [some (.inl a)] st I J = GO x d 182 Q 42 [some (.inl a)] (.inl a :: st) I J := ge (A := (1, 42, 0, 0, 0)) rfl
set_option maxRecDepth 10000 in
theorem g_182_42 : GO x d 182 Q 42 [some (.inl a)] st I J = GO x d 182 Q 43 [some (.inl a)] (.inl a :: st) I J := ge (A := (1, 43, 0, 0, 0)) rfl
set_option maxRecDepth 10000 in
theorem g_182_43 : GO x d 182 Q 43 [v0] st I J = GO x d 182 Q 45 [v0] (.inl (16) :: st) I J := ge (A := (0, 45, 0, 0, 16)) rfl
set_option maxRecDepth 10000 in
theorem g_182_45 : GO x d 182 Q 45 [v0] (.inl b :: .inl a :: st) I J = GO x d 182 Q 46 [v0] (.inl (ushrI a b) :: st) I J := ge (A := (16, 46, 0, 0, 0)) rfl
set_option maxRecDepth 10000 in
theorem g_182_46 : GO x d 182 Q 46 [v0] (.inl b :: .inl a :: st) I J = GO x d 182 Q 47 [v0] (.inl (a + b) :: st) I J := ge (A := (8, 47, 0, 0, 0)) rfl
set_option maxRecDepth 10000 in
theorem g_182_47 : GO x d 182 Q 47 [v0] (.inl a :: st) I J = GO x d 182 Q 48 [some (.inl a)] st I J := (ge (A := (4, 48, 0, 0, 0)) rfl).trans (gtrue2 rfl (Nat.le_of_ble_eq_true rfl))
set_option maxRecDepth 10000 in
theorem g_182_48 : GO x d 182 Q 48 [some (.inl a)] st I J = GO x d 182 Q 49 [some (.inl a)] (.inl a :: st) I J := ge (A := (1, 49, 0, 0, 0)) rfl
set_option maxRecDepth 10000 in
theorem g_182_49 : GO x d 182 Q 49 [v0] st I J = GO x d 182 Q 51 [v0] (.inl (63) :: st) I J := ge (A := (0, 51, 0, 0, 63)) rfl
set_option maxRecDepth 10000 in
theorem g_182_51 : GO x d 182 Q 51 [v0] (.inl b :: .inl a :: st) I J = GO x d 182 Q 52 [v0] (.inl (andI a b) :: st) I J := ge (A := (11, 52, 0, 0, 0)) rfl
set_option maxRecDepth 10000 in
theorem g_182_52 : GO x d 182 Q 52 [v0] [.inl a] I J = Q (some (.inl a)) I J := ge (A := (55, 53, 0, 0, 0)) rfl
set_option maxRecDepth 10000 in
theorem e_182 : EX x (d + 1) 182 [.inl i0] I J Q = GO x d 182 Q 0 [some (.inl i0)] [] I J := ex_eq (Nat.le_of_ble_eq_true rfl) rfl (Nat.le_of_ble_eq_true rfl) rfl
set_option maxRecDepth 10000 in
theorem g_183_0 : GO x d 183 Q 0 [v0, v1, v2, v3] st I J = GO x d 183 Q 1 [v0, v1, v2, v3] (.inl (0) :: st) I J := ge (A := (0, 1, 0, 0, 0)) rfl
set_option maxRecDepth 10000 in
theorem g_183_1 : GO x d 183 Q 1 [v0, v1, v2, v3] (.inl a :: st) I J = (nlO (some v1) = true ∧ GO x d 183 Q 2 [v0, v1, some (.inl a), v3] st I J) := (ge (A := (4, 2, 2, 0, 0)) rfl).trans (gst (Nat.le_of_ble_eq_true rfl) _)
set_option maxRecDepth 10000 in
theorem g_183_2 : GO x d 183 Q 2 [some (.inr (.inr w)), v1, v2, v3] st I J = GO x d 183 Q 3 [some (.inr (.inr w)), v1, v2, v3] (.inr (.inr w) :: st) I J := ge (A := (2, 3, 0, 0, 0)) rfl
set_option maxRecDepth 10000 in
theorem h_183_3 : GO x d 183 Q 3 [v0, v1, v2, v3] (.inr (.inr (.inr q)) :: st) I J = (q < 4 ∧ GO x d 183 Q 4 [v0, v1, v2, v3] (.inl (roA x q).1 :: st) I J) := ge (A := (51, 4, 0, 0, 0)) rfl
set_option maxRecDepth 10000 in
theorem g_183_3 : GO x d 183 Q 3 [v0, v1, v2, v3] (.inr (.inr (.inl r)) :: st) I J = (okL r ∧ GO x d 183 Q 4 [v0, v1, v2, v3] (.inl (lnN r) :: st) I J) := (ge (A := (51, 4, 0, 0, 0)) rfl).trans glen
set_option maxRecDepth 10000 in
theorem g_183_4 : GO x d 183 Q 4 [v0, v1, v2, v3] (.inl a :: st) I J = (nlO (some v2) = true ∧ GO x d 183 Q 5 [v0, v1, v2, some (.inl a)] st I J) := (ge (A := (4, 5, 3, 0, 0)) rfl).trans (gst (Nat.le_of_ble_eq_true rfl) _)
set_option maxRecDepth 10000 in
theorem g_183_5 : GO x d 183 Q 5 [v0, v1, some (.inl a), v3] st I J = GO x d 183 Q 6 [v0, v1, some (.inl a), v3] (.inl a :: st) I J := ge (A := (1, 6, 2, 0, 0)) rfl
set_option maxRecDepth 10000 in
theorem g_183_6 : GO x d 183 Q 6 [v0, v1, v2, some (.inl a)] st I J = GO x d 183 Q 7 [v0, v1, v2, some (.inl a)] (.inl a :: st) I J := ge (A := (1, 7, 3, 0, 0)) rfl
set_option maxRecDepth 10000 in
theorem g_183_7 : GO x d 183 Q 7 [v0, v1, v2, v3] (.inl b :: .inl a :: st) I J = (inR a ∧ inR b ∧ if a < b then GO x d 183 Q 10 [v0, v1, v2, v3] st I J else GO x d 183 Q 20 [v0, v1, v2, v3] st I J) := (ge (A := (34, 10, 20, 3, 0)) rfl).trans (ggec)
set_option maxRecDepth 10000 in
theorem g_183_10 : GO x d 183 Q 10 [some (.inr (.inr w)), v1, v2, v3] st I J = GO x d 183 Q 11 [some (.inr (.inr w)), v1, v2, v3] (.inr (.inr w) :: st) I J := ge (A := (2, 11, 0, 0, 0)) rfl
set_option maxRecDepth 10000 in
theorem g_183_11 : GO x d 183 Q 11 [v0, v1, some (.inl a), v3] st I J = GO x d 183 Q 12 [v0, v1, some (.inl a), v3] (.inl a :: st) I J := ge (A := (1, 12, 2, 0, 0)) rfl
set_option maxRecDepth 10000 in
theorem g_183_12 : GO x d 183 Q 12 [v0, some (.inl a), v2, v3] st I J = GO x d 183 Q 13 [v0, some (.inl a), v2, v3] (.inl a :: st) I J := ge (A := (1, 13, 1, 0, 0)) rfl
set_option maxRecDepth 10000 in
theorem g_183_13 : GO x d 183 Q 13 [v0, v1, v2, v3] (.inl b :: .inl a :: .inr (.inr (.inl r)) :: st) I J = (okA r 20 ∧ 0 ≤ a ∧ a < lnN r ∧ GO x d 183 Q 14 [v0, v1, v2, v3] st (up I r a b) J) := ge (A := (45, 14, 0, 0, 0)) rfl
set_option maxRecDepth 10000 in
theorem g_183_14 : GO x d 183 Q 14 [v0, v1, some (.inl a), v3] st I J = (nlO (some v1) = true ∧ GO x d 183 Q 17 [v0, v1, some (.inl (a + (1))), v3] st I J) := ge (A := (7, 17, 2, 0, 1)) rfl
set_option maxRecDepth 10000 in
theorem g_183_17 : GO x d 183 Q 17 [v0, v1, v2, v3] st I J = GO x d 183 Q 5 [v0, v1, v2, v3] st I J := ge (A := (35, 20, 5, 0, 0)) rfl
set_option maxRecDepth 10000 in
theorem g_183_20 : GO x d 183 Q 20 [v0, v1, v2, v3] [] I J = Q none I J := ge (A := (57, 21, 0, 0, 0)) rfl
set_option maxRecDepth 10000 in
theorem e_183 : EX x (d + 1) 183 [.inr (.inr w0), .inl i0] I J Q = GO x d 183 Q 0 [some (.inr (.inr w0)), some (.inl i0), none, none] [] I J := ex_eq (Nat.le_of_ble_eq_true rfl) rfl (Nat.le_of_ble_eq_true rfl) rfl
end
