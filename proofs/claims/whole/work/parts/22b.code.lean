section
variable {x : RO} {d : Nat} {Q : QT} {I : MI} {J : MJ} {v0 v1 v2 v3 v4 v5 v6 v7 v8 v9 v10 v11 v12 : Option AV} {st : List AV} {a b e : Int} {r q : Nat} {w w2 : Nat ⊕ Nat} {y z : Int64}
variable {i0 i1 i2 i3 i4 i5 i6 i7 i8 i9 : Int} {w0 w1 w3 w4 w5 w6 w7 w8 w9 : Nat ⊕ Nat} {l0 l1 l2 l3 l4 : Int64}
set_option maxRecDepth 10000 in
theorem g_30_0 : GO x d 30 Q 0 [v0, v1, v2, v3] st I J = GO x d 30 Q 1 [v0, v1, v2, v3] (.inl (0) :: st) I J := ge (A := (0, 1, 0, 0, 0)) rfl
set_option maxRecDepth 10000 in
theorem g_30_1 : GO x d 30 Q 1 [v0, v1, v2, v3] (.inl a :: st) I J = (nlO (some v2) = true ∧ GO x d 30 Q 2 [v0, v1, v2, some (.inl a)] st I J) := (ge (A := (4, 2, 3, 0, 0)) rfl).trans (gst (Nat.le_of_ble_eq_true rfl) _)
set_option maxRecDepth 10000 in
theorem g_30_2 : GO x d 30 Q 2 [v0, v1, v2, some (.inl a)] st I J = GO x d 30 Q 3 [v0, v1, v2, some (.inl a)] (.inl a :: st) I J := ge (A := (1, 3, 3, 0, 0)) rfl
set_option maxRecDepth 10000 in
theorem g_30_3 : GO x d 30 Q 3 [some (.inr (.inr w)), v1, v2, v3] st I J = GO x d 30 Q 4 [some (.inr (.inr w)), v1, v2, v3] (.inr (.inr w) :: st) I J := ge (A := (2, 4, 0, 0, 0)) rfl
set_option maxRecDepth 10000 in
theorem g_30_4 : GO x d 30 Q 4 [v0, v1, v2, v3] (.inr (.inr (.inl r)) :: st) I J = (okO r 3 ∧ GO x d 30 Q 7 [v0, v1, v2, v3] (.inl (I r 8) :: st) I J) := ge (A := (37, 7, 3, 8, 0)) rfl
set_option maxRecDepth 10000 in
theorem g_30_7 : GO x d 30 Q 7 [v0, v1, v2, v3] (.inl b :: .inl a :: st) I J = (inR a ∧ inR b ∧ if a < b then GO x d 30 Q 10 [v0, v1, v2, v3] st I J else GO x d 30 Q 37 [v0, v1, v2, v3] st I J) := (ge (A := (34, 10, 37, 3, 0)) rfl).trans (ggec)
set_option maxRecDepth 10000 in
theorem g_30_10 : GO x d 30 Q 10 [v0, v1, some (.inl a), v3] st I J = GO x d 30 Q 11 [v0, v1, some (.inl a), v3] (.inl a :: st) I J := ge (A := (1, 11, 2, 0, 0)) rfl
set_option maxRecDepth 10000 in
theorem g_30_11 : GO x d 30 Q 11 [v0, v1, v2, some (.inl a)] st I J = GO x d 30 Q 12 [v0, v1, v2, some (.inl a)] (.inl a :: st) I J := ge (A := (1, 12, 3, 0, 0)) rfl
set_option maxRecDepth 10000 in
theorem g_30_12 : GO x d 30 Q 12 [v0, v1, v2, v3] [.inl i0, .inl i1] I J = EX x d 105 [.inl i1, .inl i0] I J (fun r1 I1 J1 => GO x d 30 Q 15 [v0, v1, v2, v3] (r1.toList ++ []) I1 J1) := (ge (A := (52, 15, 105, 2, 1)) rfl).trans (gtrue2 (Nat.le_of_ble_eq_true rfl) (Nat.le_of_ble_eq_true rfl))
set_option maxRecDepth 10000 in
theorem g_30_15 : GO x d 30 Q 15 [v0, v1, v2, v3] (.inl a :: st) I J = (inR a ∧ if a = 0 then GO x d 30 Q 31 [v0, v1, v2, v3] st I J else GO x d 30 Q 18 [v0, v1, v2, v3] st I J) := (ge (A := (33, 18, 31, 0, 0)) rfl).trans (gif (p := a = 0) inferInstance)
set_option maxRecDepth 10000 in
theorem g_30_18 : GO x d 30 Q 18 [some (.inr (.inr w)), v1, v2, v3] st I J = GO x d 30 Q 19 [some (.inr (.inr w)), v1, v2, v3] (.inr (.inr w) :: st) I J := ge (A := (2, 19, 0, 0, 0)) rfl
set_option maxRecDepth 10000 in
theorem g_30_19 : GO x d 30 Q 19 [v0, v1, v2, v3] (.inr (.inr (.inl r)) :: st) I J = (okF r 3 9 ∧ GO x d 30 Q 22 [v0, v1, v2, v3] (.inr (.inr (.inl (rfN r 9))) :: st) I J) := (ge (A := (39, 22, 3, 9, 0)) rfl).trans (gref (f := fun q => GO x d 30 Q 22 [v0, v1, v2, v3] (.inr (.inr (.inl q)) :: st) I J))
set_option maxRecDepth 10000 in
theorem g_30_22 : GO x d 30 Q 22 [v0, v1, v2, some (.inl a)] st I J = GO x d 30 Q 23 [v0, v1, v2, some (.inl a)] (.inl a :: st) I J := ge (A := (1, 23, 3, 0, 0)) rfl
set_option maxRecDepth 10000 in
theorem h_30_23 : GO x d 30 Q 23 [v0, v1, v2, v3] (.inl a :: .inr (.inr (.inr q)) :: st) I J = (q < 4 ∧ 0 ≤ a ∧ a < (roA x q).1 ∧ GO x d 30 Q 24 [v0, v1, v2, v3] (.inl ((roA x q).2 a.toNat) :: st) I J) := ge (A := (44, 24, 0, 0, 0)) rfl
set_option maxRecDepth 10000 in
theorem g_30_23 : GO x d 30 Q 23 [v0, v1, v2, v3] (.inl a :: .inr (.inr (.inl r)) :: st) I J = (okA r 20 ∧ 0 ≤ a ∧ a < lnN r ∧ GO x d 30 Q 24 [v0, v1, v2, v3] (.inl (I r a) :: st) I J) := ge (A := (44, 24, 0, 0, 0)) rfl
set_option maxRecDepth 10000 in
theorem g_30_24 : GO x d 30 Q 24 [v0, some (.inl a), v2, v3] st I J = GO x d 30 Q 25 [v0, some (.inl a), v2, v3] (.inl a :: st) I J := ge (A := (1, 25, 1, 0, 0)) rfl
set_option maxRecDepth 10000 in
theorem g_30_25 : GO x d 30 Q 25 [v0, v1, v2, v3] (.inl b :: .inl a :: st) I J = GO x d 30 Q 26 [v0, v1, v2, v3] (.inl (andI a b) :: st) I J := ge (A := (11, 26, 0, 0, 0)) rfl
set_option maxRecDepth 10000 in
theorem g_30_26 : GO x d 30 Q 26 [v0, v1, v2, v3] (.inl a :: st) I J = (inR a ∧ if a = 0 then GO x d 30 Q 29 [v0, v1, v2, v3] st I J else GO x d 30 Q 31 [v0, v1, v2, v3] st I J) := (ge (A := (33, 29, 31, 1, 0)) rfl).trans (gifn (p := a = 0) inferInstance)
set_option maxRecDepth 10000 in
theorem g_30_29 : GO x d 30 Q 29 [v0, v1, v2, v3] st I J = GO x d 30 Q 30 [v0, v1, v2, v3] (.inl (0) :: st) I J := ge (A := (0, 30, 0, 0, 0)) rfl
set_option maxRecDepth 10000 in
theorem g_30_30 : GO x d 30 Q 30 [v0, v1, v2, v3] [.inl a] I J = (ret01 a ∧ Q (some (.inl a)) I J) := ge (A := (56, 31, 0, 0, 0)) rfl
set_option maxRecDepth 10000 in
theorem g_30_31 : GO x d 30 Q 31 [v0, v1, v2, some (.inl a)] st I J = (nlO (some v2) = true ∧ GO x d 30 Q 34 [v0, v1, v2, some (.inl (a + (1)))] st I J) := ge (A := (7, 34, 3, 0, 1)) rfl
set_option maxRecDepth 10000 in
theorem g_30_34 : GO x d 30 Q 34 [v0, v1, v2, v3] st I J = GO x d 30 Q 2 [v0, v1, v2, v3] st I J := ge (A := (35, 37, 2, 0, 0)) rfl
set_option maxRecDepth 10000 in
theorem g_30_37 : GO x d 30 Q 37 [v0, v1, v2, v3] st I J = GO x d 30 Q 38 [v0, v1, v2, v3] (.inl (1) :: st) I J := ge (A := (0, 38, 0, 0, 1)) rfl
set_option maxRecDepth 10000 in
theorem g_30_38 : GO x d 30 Q 38 [v0, v1, v2, v3] [.inl a] I J = (ret01 a ∧ Q (some (.inl a)) I J) := ge (A := (56, 39, 0, 0, 0)) rfl
set_option maxRecDepth 10000 in
theorem e_30 : EX x (d + 1) 30 [.inr (.inr w0), .inl i0, .inl i1] I J Q = GO x d 30 Q 0 [some (.inr (.inr w0)), some (.inl i0), some (.inl i1), none] [] I J := ex_eq (Nat.le_of_ble_eq_true rfl) rfl (Nat.le_of_ble_eq_true rfl) rfl
set_option maxRecDepth 10000 in
theorem g_31_0 : GO x d 31 Q 0 [some (.inr (.inr w)), v1, v2, v3, v4] st I J = GO x d 31 Q 1 [some (.inr (.inr w)), v1, v2, v3, v4] (.inr (.inr w) :: st) I J := ge (A := (2, 1, 0, 0, 0)) rfl
set_option maxRecDepth 10000 in
theorem g_31_1 : GO x d 31 Q 1 [v0, v1, v2, v3, v4] [.inr (.inr (.inl r))] I J = (okO r 3 ∧ EX x d 23 [.inr (.inr (.inl r))] I J (fun r1 I1 J1 => GO x d 31 Q 4 [v0, v1, v2, v3, v4] (r1.toList ++ []) I1 J1)) := (ge (A := (53, 4, 23, 0, 0)) rfl).trans (gtrue (Nat.le_of_ble_eq_true rfl))
set_option maxRecDepth 10000 in
theorem g_31_4 : GO x d 31 Q 4 [v0, v1, v2, v3, v4] st I J = GO x d 31 Q 5 [v0, v1, v2, v3, v4] (.inl (1) :: st) I J := ge (A := (0, 5, 0, 0, 1)) rfl
set_option maxRecDepth 10000 in
theorem g_31_5 : GO x d 31 Q 5 [v0, some (.inl a), v2, v3, v4] st I J = GO x d 31 Q 6 [v0, some (.inl a), v2, v3, v4] (.inl a :: st) I J := ge (A := (1, 6, 1, 0, 0)) rfl
set_option maxRecDepth 10000 in
theorem g_31_6 : GO x d 31 Q 6 [v0, v1, v2, v3, v4] (.inl b :: .inl a :: st) I J = GO x d 31 Q 7 [v0, v1, v2, v3, v4] (.inl (shlI a b) :: st) I J := ge (A := (14, 7, 0, 0, 0)) rfl
set_option maxRecDepth 10000 in
theorem g_31_7 : GO x d 31 Q 7 [v0, v1, v2, v3, v4] st I J = GO x d 31 Q 8 [v0, v1, v2, v3, v4] (.inl (-1) :: st) I J := ge (A := (0, 8, 0, 0, -1)) rfl
set_option maxRecDepth 10000 in
theorem g_31_8 : GO x d 31 Q 8 [v0, v1, v2, v3, v4] (.inl b :: .inl a :: st) I J = GO x d 31 Q 9 [v0, v1, v2, v3, v4] (.inl (xorI a b) :: st) I J := ge (A := (13, 9, 0, 0, 0)) rfl
set_option maxRecDepth 10000 in
theorem g_31_9 : GO x d 31 Q 9 [v0, v1, v2, v3, v4] (.inl b :: .inl a :: st) I J = GO x d 31 Q 10 [v0, v1, v2, v3, v4] (.inl (andI a b) :: st) I J := ge (A := (11, 10, 0, 0, 0)) rfl
set_option maxRecDepth 10000 in
theorem g_31_10 : GO x d 31 Q 10 [v0, v1, v2, v3, v4] (.inl a :: st) I J = (nlO (some v1) = true ∧ GO x d 31 Q 11 [v0, v1, some (.inl a), v3, v4] st I J) := (ge (A := (4, 11, 2, 0, 0)) rfl).trans (gst (Nat.le_of_ble_eq_true rfl) _)
set_option maxRecDepth 10000 in
theorem g_31_11 : GO x d 31 Q 11 [v0, v1, v2, v3, v4] st I J = GO x d 31 Q 12 [v0, v1, v2, v3, v4] (.inl (0) :: st) I J := ge (A := (0, 12, 0, 0, 0)) rfl
set_option maxRecDepth 10000 in
theorem g_31_12 : GO x d 31 Q 12 [v0, v1, v2, v3, v4] (.inl a :: st) I J = (nlO (some v2) = true ∧ GO x d 31 Q 13 [v0, v1, v2, some (.inl a), v4] st I J) := (ge (A := (4, 13, 3, 0, 0)) rfl).trans (gst (Nat.le_of_ble_eq_true rfl) _)
set_option maxRecDepth 10000 in
theorem g_31_13 : GO x d 31 Q 13 [v0, v1, v2, v3, v4] st I J = GO x d 31 Q 14 [v0, v1, v2, v3, v4] (.inl (0) :: st) I J := ge (A := (0, 14, 0, 0, 0)) rfl
set_option maxRecDepth 10000 in
theorem g_31_14 : GO x d 31 Q 14 [v0, v1, v2, v3, v4] (.inl a :: st) I J = (nlO (some v3) = true ∧ GO x d 31 Q 16 [v0, v1, v2, v3, some (.inl a)] st I J) := (ge (A := (4, 16, 4, 0, 0)) rfl).trans (gst (Nat.le_of_ble_eq_true rfl) _)
set_option maxRecDepth 10000 in
theorem g_31_16 : GO x d 31 Q 16 [v0, v1, v2, v3, some (.inl a)] st I J = GO x d 31 Q 18 [v0, v1, v2, v3, some (.inl a)] (.inl a :: st) I J := ge (A := (1, 18, 4, 0, 0)) rfl
set_option maxRecDepth 10000 in
theorem g_31_18 : GO x d 31 Q 18 [some (.inr (.inr w)), v1, v2, v3, v4] st I J = GO x d 31 Q 19 [some (.inr (.inr w)), v1, v2, v3, v4] (.inr (.inr w) :: st) I J := ge (A := (2, 19, 0, 0, 0)) rfl
set_option maxRecDepth 10000 in
theorem g_31_19 : GO x d 31 Q 19 [v0, v1, v2, v3, v4] (.inr (.inr (.inl r)) :: st) I J = (okO r 3 ∧ GO x d 31 Q 22 [v0, v1, v2, v3, v4] (.inl (I r 8) :: st) I J) := ge (A := (37, 22, 3, 8, 0)) rfl
set_option maxRecDepth 10000 in
theorem g_31_22 : GO x d 31 Q 22 [v0, v1, v2, v3, v4] (.inl b :: .inl a :: st) I J = (inR a ∧ inR b ∧ if a < b then GO x d 31 Q 25 [v0, v1, v2, v3, v4] st I J else GO x d 31 Q 55 [v0, v1, v2, v3, v4] st I J) := (ge (A := (34, 25, 55, 3, 0)) rfl).trans (ggec)
set_option maxRecDepth 10000 in
theorem g_31_25 : GO x d 31 Q 25 [some (.inr (.inr w)), v1, v2, v3, v4] st I J = GO x d 31 Q 26 [some (.inr (.inr w)), v1, v2, v3, v4] (.inr (.inr w) :: st) I J := ge (A := (2, 26, 0, 0, 0)) rfl
set_option maxRecDepth 10000 in
theorem g_31_26 : GO x d 31 Q 26 [v0, v1, v2, v3, some (.inl a)] st I J = GO x d 31 Q 28 [v0, v1, v2, v3, some (.inl a)] (.inl a :: st) I J := ge (A := (1, 28, 4, 0, 0)) rfl
set_option maxRecDepth 10000 in
theorem g_31_28 : GO x d 31 Q 28 [v0, v1, v2, v3, v4] [.inl i0, .inr (.inr (.inl r))] I J = (okO r 3 ∧ EX x d 18 [.inr (.inr (.inl r)), .inl i0] I J (fun r1 I1 J1 => GO x d 31 Q 31 [v0, v1, v2, v3, v4] (r1.toList ++ []) I1 J1)) := (ge (A := (53, 31, 18, 1, 0)) rfl).trans (gtrue (Nat.le_of_ble_eq_true rfl))
set_option maxRecDepth 10000 in
theorem g_31_31 : GO x d 31 Q 31 [v0, v1, v2, v3, v4] (.inl a :: st) I J = (inR a ∧ if a = 0 then GO x d 31 Q 34 [v0, v1, v2, v3, v4] st I J else GO x d 31 Q 49 [v0, v1, v2, v3, v4] st I J) := (ge (A := (33, 34, 49, 1, 0)) rfl).trans (gifn (p := a = 0) inferInstance)
set_option maxRecDepth 10000 in
theorem g_31_34 : GO x d 31 Q 34 [some (.inr (.inr w)), v1, v2, v3, v4] st I J = GO x d 31 Q 35 [some (.inr (.inr w)), v1, v2, v3, v4] (.inr (.inr w) :: st) I J := ge (A := (2, 35, 0, 0, 0)) rfl
set_option maxRecDepth 10000 in
theorem g_31_35 : GO x d 31 Q 35 [v0, v1, v2, v3, v4] (.inr (.inr (.inl r)) :: st) I J = (okF r 3 9 ∧ GO x d 31 Q 38 [v0, v1, v2, v3, v4] (.inr (.inr (.inl (rfN r 9))) :: st) I J) := (ge (A := (39, 38, 3, 9, 0)) rfl).trans (gref (f := fun q => GO x d 31 Q 38 [v0, v1, v2, v3, v4] (.inr (.inr (.inl q)) :: st) I J))
set_option maxRecDepth 10000 in
theorem g_31_38 : GO x d 31 Q 38 [v0, v1, v2, v3, some (.inl a)] st I J = GO x d 31 Q 40 [v0, v1, v2, v3, some (.inl a)] (.inl a :: st) I J := ge (A := (1, 40, 4, 0, 0)) rfl
set_option maxRecDepth 10000 in
theorem h_31_40 : GO x d 31 Q 40 [v0, v1, v2, v3, v4] (.inl a :: .inr (.inr (.inr q)) :: st) I J = (q < 4 ∧ 0 ≤ a ∧ a < (roA x q).1 ∧ GO x d 31 Q 41 [v0, v1, v2, v3, v4] (.inl ((roA x q).2 a.toNat) :: st) I J) := ge (A := (44, 41, 0, 0, 0)) rfl
set_option maxRecDepth 10000 in
theorem g_31_40 : GO x d 31 Q 40 [v0, v1, v2, v3, v4] (.inl a :: .inr (.inr (.inl r)) :: st) I J = (okA r 20 ∧ 0 ≤ a ∧ a < lnN r ∧ GO x d 31 Q 41 [v0, v1, v2, v3, v4] (.inl (I r a) :: st) I J) := ge (A := (44, 41, 0, 0, 0)) rfl
set_option maxRecDepth 10000 in
theorem g_31_41 : GO x d 31 Q 41 [v0, v1, some (.inl a), v3, v4] st I J = GO x d 31 Q 42 [v0, v1, some (.inl a), v3, v4] (.inl a :: st) I J := ge (A := (1, 42, 2, 0, 0)) rfl
set_option maxRecDepth 10000 in
theorem g_31_42 : GO x d 31 Q 42 [v0, v1, v2, v3, v4] (.inl b :: .inl a :: st) I J = GO x d 31 Q 43 [v0, v1, v2, v3, v4] (.inl (andI a b) :: st) I J := ge (A := (11, 43, 0, 0, 0)) rfl
set_option maxRecDepth 10000 in
theorem g_31_43 : GO x d 31 Q 43 [v0, v1, v2, v3, v4] (.inl a :: st) I J = (inR a ∧ if a = 0 then GO x d 31 Q 49 [v0, v1, v2, v3, v4] st I J else GO x d 31 Q 46 [v0, v1, v2, v3, v4] st I J) := (ge (A := (33, 46, 49, 0, 0)) rfl).trans (gif (p := a = 0) inferInstance)
set_option maxRecDepth 10000 in
theorem g_31_46 : GO x d 31 Q 46 [v0, v1, v2, some (.inl a), v4] st I J = (nlO (some v2) = true ∧ GO x d 31 Q 49 [v0, v1, v2, some (.inl (a + (1))), v4] st I J) := ge (A := (7, 49, 3, 0, 1)) rfl
set_option maxRecDepth 10000 in
theorem g_31_49 : GO x d 31 Q 49 [v0, v1, v2, v3, some (.inl a)] st I J = (nlO (some v3) = true ∧ GO x d 31 Q 52 [v0, v1, v2, v3, some (.inl (a + (1)))] st I J) := ge (A := (7, 52, 4, 0, 1)) rfl
set_option maxRecDepth 10000 in
theorem g_31_52 : GO x d 31 Q 52 [v0, v1, v2, v3, v4] st I J = GO x d 31 Q 16 [v0, v1, v2, v3, v4] st I J := ge (A := (35, 55, 16, 0, 0)) rfl
set_option maxRecDepth 10000 in
theorem g_31_55 : GO x d 31 Q 55 [v0, v1, v2, some (.inl a), v4] st I J = GO x d 31 Q 56 [v0, v1, v2, some (.inl a), v4] (.inl a :: st) I J := ge (A := (1, 56, 3, 0, 0)) rfl
set_option maxRecDepth 10000 in
theorem g_31_56 : GO x d 31 Q 56 [v0, v1, v2, v3, v4] [.inl a] I J = Q (some (.inl a)) I J := ge (A := (55, 57, 0, 0, 0)) rfl
set_option maxRecDepth 10000 in
theorem e_31 : EX x (d + 1) 31 [.inr (.inr w0), .inl i0] I J Q = GO x d 31 Q 0 [some (.inr (.inr w0)), some (.inl i0), none, none, none] [] I J := ex_eq (Nat.le_of_ble_eq_true rfl) rfl (Nat.le_of_ble_eq_true rfl) rfl
set_option maxRecDepth 10000 in
theorem g_32_0 : GO x d 32 Q 0 [v0, v1, v2, v3] st I J = GO x d 32 Q 1 [v0, v1, v2, v3] (.inl (1) :: st) I J := ge (A := (0, 1, 0, 0, 1)) rfl
set_option maxRecDepth 10000 in
theorem g_32_1 : GO x d 32 Q 1 [v0, v1, v2, v3] (.inl a :: st) I J = (nlO (some v1) = true ∧ GO x d 32 Q 2 [v0, v1, some (.inl a), v3] st I J) := (ge (A := (4, 2, 2, 0, 0)) rfl).trans (gst (Nat.le_of_ble_eq_true rfl) _)
set_option maxRecDepth 10000 in
theorem g_32_2 : GO x d 32 Q 2 [v0, v1, v2, v3] st I J = GO x d 32 Q 3 [v0, v1, v2, v3] (.inl (0) :: st) I J := ge (A := (0, 3, 0, 0, 0)) rfl
set_option maxRecDepth 10000 in
theorem g_32_3 : GO x d 32 Q 3 [v0, v1, v2, v3] (.inl a :: st) I J = (nlO (some v2) = true ∧ GO x d 32 Q 4 [v0, v1, v2, some (.inl a)] st I J) := (ge (A := (4, 4, 3, 0, 0)) rfl).trans (gst (Nat.le_of_ble_eq_true rfl) _)
set_option maxRecDepth 10000 in
theorem g_32_4 : GO x d 32 Q 4 [v0, v1, v2, some (.inl a)] st I J = GO x d 32 Q 5 [v0, v1, v2, some (.inl a)] (.inl a :: st) I J := ge (A := (1, 5, 3, 0, 0)) rfl
set_option maxRecDepth 10000 in
theorem g_32_5 : GO x d 32 Q 5 [some (.inr (.inr w)), v1, v2, v3] st I J = GO x d 32 Q 6 [some (.inr (.inr w)), v1, v2, v3] (.inr (.inr w) :: st) I J := ge (A := (2, 6, 0, 0, 0)) rfl
set_option maxRecDepth 10000 in
theorem g_32_6 : GO x d 32 Q 6 [v0, v1, v2, v3] (.inr (.inr (.inl r)) :: st) I J = (okO r 3 ∧ GO x d 32 Q 9 [v0, v1, v2, v3] (.inl (I r 3) :: st) I J) := ge (A := (37, 9, 3, 3, 0)) rfl
set_option maxRecDepth 10000 in
theorem g_32_9 : GO x d 32 Q 9 [v0, v1, v2, v3] (.inl b :: .inl a :: st) I J = (inR a ∧ inR b ∧ if a < b then GO x d 32 Q 12 [v0, v1, v2, v3] st I J else GO x d 32 Q 33 [v0, v1, v2, v3] st I J) := (ge (A := (34, 12, 33, 3, 0)) rfl).trans (ggec)
set_option maxRecDepth 10000 in
theorem g_32_12 : GO x d 32 Q 12 [v0, some (.inl a), v2, v3] st I J = GO x d 32 Q 13 [v0, some (.inl a), v2, v3] (.inl a :: st) I J := ge (A := (1, 13, 1, 0, 0)) rfl
set_option maxRecDepth 10000 in
theorem g_32_13 : GO x d 32 Q 13 [v0, v1, v2, some (.inl a)] st I J = GO x d 32 Q 14 [v0, v1, v2, some (.inl a)] (.inl a :: st) I J := ge (A := (1, 14, 3, 0, 0)) rfl
set_option maxRecDepth 10000 in
theorem g_32_14 : GO x d 32 Q 14 [v0, v1, v2, v3] [.inl i0, .inl i1] I J = EX x d 105 [.inl i1, .inl i0] I J (fun r1 I1 J1 => GO x d 32 Q 17 [v0, v1, v2, v3] (r1.toList ++ []) I1 J1) := (ge (A := (52, 17, 105, 2, 1)) rfl).trans (gtrue2 (Nat.le_of_ble_eq_true rfl) (Nat.le_of_ble_eq_true rfl))
set_option maxRecDepth 10000 in
theorem g_32_17 : GO x d 32 Q 17 [v0, v1, v2, v3] (.inl a :: st) I J = (inR a ∧ if a = 0 then GO x d 32 Q 27 [v0, v1, v2, v3] st I J else GO x d 32 Q 20 [v0, v1, v2, v3] st I J) := (ge (A := (33, 20, 27, 0, 0)) rfl).trans (gif (p := a = 0) inferInstance)
set_option maxRecDepth 10000 in
theorem g_32_20 : GO x d 32 Q 20 [some (.inr (.inr w)), v1, v2, v3] st I J = GO x d 32 Q 21 [some (.inr (.inr w)), v1, v2, v3] (.inr (.inr w) :: st) I J := ge (A := (2, 21, 0, 0, 0)) rfl
set_option maxRecDepth 10000 in
theorem g_32_21 : GO x d 32 Q 21 [v0, v1, some (.inl a), v3] st I J = GO x d 32 Q 22 [v0, v1, some (.inl a), v3] (.inl a :: st) I J := ge (A := (1, 22, 2, 0, 0)) rfl
set_option maxRecDepth 10000 in
theorem g_32_22 : GO x d 32 Q 22 [v0, v1, v2, some (.inl a)] st I J = GO x d 32 Q 23 [v0, v1, v2, some (.inl a)] (.inl a :: st) I J := ge (A := (1, 23, 3, 0, 0)) rfl
set_option maxRecDepth 10000 in
theorem g_32_23 : GO x d 32 Q 23 [v0, v1, v2, v3] [.inl i0, .inl i1, .inr (.inr (.inl r))] I J = (okO r 3 ∧ EX x d 33 [.inr (.inr (.inl r)), .inl i1, .inl i0] I J (fun r1 I1 J1 => GO x d 32 Q 26 [v0, v1, v2, v3] (r1.toList ++ []) I1 J1)) := (ge (A := (53, 26, 33, 2, 0)) rfl).trans (gtrue (Nat.le_of_ble_eq_true rfl))
set_option maxRecDepth 10000 in
theorem g_32_26 : GO x d 32 Q 26 [v0, v1, v2, v3] (.inl a :: st) I J = (nlO (some v1) = true ∧ GO x d 32 Q 27 [v0, v1, some (.inl a), v3] st I J) := (ge (A := (4, 27, 2, 0, 0)) rfl).trans (gst (Nat.le_of_ble_eq_true rfl) _)
set_option maxRecDepth 10000 in
theorem g_32_27 : GO x d 32 Q 27 [v0, v1, v2, some (.inl a)] st I J = (nlO (some v2) = true ∧ GO x d 32 Q 30 [v0, v1, v2, some (.inl (a + (1)))] st I J) := ge (A := (7, 30, 3, 0, 1)) rfl
set_option maxRecDepth 10000 in
theorem g_32_30 : GO x d 32 Q 30 [v0, v1, v2, v3] st I J = GO x d 32 Q 4 [v0, v1, v2, v3] st I J := ge (A := (35, 33, 4, 0, 0)) rfl
set_option maxRecDepth 10000 in
theorem g_32_33 : GO x d 32 Q 33 [v0, v1, some (.inl a), v3] st I J = GO x d 32 Q 34 [v0, v1, some (.inl a), v3] (.inl a :: st) I J := ge (A := (1, 34, 2, 0, 0)) rfl
set_option maxRecDepth 10000 in
theorem g_32_34 : GO x d 32 Q 34 [v0, v1, v2, v3] [.inl a] I J = Q (some (.inl a)) I J := ge (A := (55, 35, 0, 0, 0)) rfl
set_option maxRecDepth 10000 in
theorem e_32 : EX x (d + 1) 32 [.inr (.inr w0), .inl i0] I J Q = GO x d 32 Q 0 [some (.inr (.inr w0)), some (.inl i0), none, none] [] I J := ex_eq (Nat.le_of_ble_eq_true rfl) rfl (Nat.le_of_ble_eq_true rfl) rfl
set_option maxRecDepth 10000 in
theorem g_33_0 : GO x d 33 Q 0 [v0, v1, v2, v3, v4, v5] st I J = GO x d 33 Q 1 [v0, v1, v2, v3, v4, v5] (.inl (0) :: st) I J := ge (A := (0, 1, 0, 0, 0)) rfl
set_option maxRecDepth 10000 in
theorem g_33_1 : GO x d 33 Q 1 [v0, v1, v2, v3, v4, v5] (.inl a :: st) I J = (nlO (some v2) = true ∧ GO x d 33 Q 2 [v0, v1, v2, some (.inl a), v4, v5] st I J) := (ge (A := (4, 2, 3, 0, 0)) rfl).trans (gst (Nat.le_of_ble_eq_true rfl) _)
set_option maxRecDepth 10000 in
theorem g_33_2 : GO x d 33 Q 2 [v0, v1, v2, v3, v4, v5] st I J = GO x d 33 Q 3 [v0, v1, v2, v3, v4, v5] (.inl (0) :: st) I J := ge (A := (0, 3, 0, 0, 0)) rfl
set_option maxRecDepth 10000 in
theorem g_33_3 : GO x d 33 Q 3 [v0, v1, v2, v3, v4, v5] (.inl a :: st) I J = (nlO (some v3) = true ∧ GO x d 33 Q 5 [v0, v1, v2, v3, some (.inl a), v5] st I J) := (ge (A := (4, 5, 4, 0, 0)) rfl).trans (gst (Nat.le_of_ble_eq_true rfl) _)
set_option maxRecDepth 10000 in
theorem g_33_5 : GO x d 33 Q 5 [v0, v1, v2, v3, some (.inl a), v5] st I J = GO x d 33 Q 7 [v0, v1, v2, v3, some (.inl a), v5] (.inl a :: st) I J := ge (A := (1, 7, 4, 0, 0)) rfl
set_option maxRecDepth 10000 in
theorem g_33_7 : GO x d 33 Q 7 [v0, v1, v2, v3, v4, v5] st I J = GO x d 33 Q 8 [v0, v1, v2, v3, v4, v5] (.inl (1) :: st) I J := ge (A := (0, 8, 0, 0, 1)) rfl
set_option maxRecDepth 10000 in
theorem g_33_8 : GO x d 33 Q 8 [some (.inr (.inr w)), v1, v2, v3, v4, v5] st I J = GO x d 33 Q 9 [some (.inr (.inr w)), v1, v2, v3, v4, v5] (.inr (.inr w) :: st) I J := ge (A := (2, 9, 0, 0, 0)) rfl
set_option maxRecDepth 10000 in
theorem g_33_9 : GO x d 33 Q 9 [v0, v1, v2, v3, v4, v5] (.inr (.inr (.inl r)) :: st) I J = (okO r 3 ∧ GO x d 33 Q 12 [v0, v1, v2, v3, v4, v5] (.inl (I r 8) :: st) I J) := ge (A := (37, 12, 3, 8, 0)) rfl
set_option maxRecDepth 10000 in
theorem g_33_12 : GO x d 33 Q 12 [v0, v1, v2, v3, v4, v5] (.inl b :: .inl a :: st) I J = GO x d 33 Q 13 [v0, v1, v2, v3, v4, v5] (.inl (shlI a b) :: st) I J := ge (A := (14, 13, 0, 0, 0)) rfl
set_option maxRecDepth 10000 in
theorem g_33_13 : GO x d 33 Q 13 [v0, v1, v2, v3, v4, v5] (.inl b :: .inl a :: st) I J = (inR a ∧ inR b ∧ if a < b then GO x d 33 Q 16 [v0, v1, v2, v3, v4, v5] st I J else GO x d 33 Q 85 [v0, v1, v2, v3, v4, v5] st I J) := (ge (A := (34, 16, 85, 3, 0)) rfl).trans (ggec)
set_option maxRecDepth 10000 in
theorem g_33_16 : GO x d 33 Q 16 [v0, v1, v2, v3, v4, v5] st I J = GO x d 33 Q 17 [v0, v1, v2, v3, v4, v5] (.inl (0) :: st) I J := ge (A := (0, 17, 0, 0, 0)) rfl
set_option maxRecDepth 10000 in
theorem g_33_17 : GO x d 33 Q 17 [v0, v1, v2, v3, v4, v5] (.inl a :: st) I J = (nlO (some v4) = true ∧ GO x d 33 Q 19 [v0, v1, v2, v3, v4, some (.inl a)] st I J) := (ge (A := (4, 19, 5, 0, 0)) rfl).trans (gst (Nat.le_of_ble_eq_true rfl) _)
set_option maxRecDepth 10000 in
theorem g_33_19 : GO x d 33 Q 19 [v0, v1, v2, v3, v4, some (.inl a)] st I J = GO x d 33 Q 21 [v0, v1, v2, v3, v4, some (.inl a)] (.inl a :: st) I J := ge (A := (1, 21, 5, 0, 0)) rfl
set_option maxRecDepth 10000 in
theorem g_33_21 : GO x d 33 Q 21 [some (.inr (.inr w)), v1, v2, v3, v4, v5] st I J = GO x d 33 Q 22 [some (.inr (.inr w)), v1, v2, v3, v4, v5] (.inr (.inr w) :: st) I J := ge (A := (2, 22, 0, 0, 0)) rfl
set_option maxRecDepth 10000 in
theorem g_33_22 : GO x d 33 Q 22 [v0, v1, v2, v3, v4, v5] (.inr (.inr (.inl r)) :: st) I J = (okO r 3 ∧ GO x d 33 Q 25 [v0, v1, v2, v3, v4, v5] (.inl (I r 8) :: st) I J) := ge (A := (37, 25, 3, 8, 0)) rfl
set_option maxRecDepth 10000 in
theorem g_33_25 : GO x d 33 Q 25 [v0, v1, v2, v3, v4, v5] (.inl b :: .inl a :: st) I J = (inR a ∧ inR b ∧ if a < b then GO x d 33 Q 28 [v0, v1, v2, v3, v4, v5] st I J else GO x d 33 Q 79 [v0, v1, v2, v3, v4, v5] st I J) := (ge (A := (34, 28, 79, 3, 0)) rfl).trans (ggec)
set_option maxRecDepth 10000 in
theorem g_33_28 : GO x d 33 Q 28 [v0, some (.inl a), v2, v3, v4, v5] st I J = GO x d 33 Q 29 [v0, some (.inl a), v2, v3, v4, v5] (.inl a :: st) I J := ge (A := (1, 29, 1, 0, 0)) rfl
set_option maxRecDepth 10000 in
theorem g_33_29 : GO x d 33 Q 29 [v0, v1, v2, v3, some (.inl a), v5] st I J = GO x d 33 Q 31 [v0, v1, v2, v3, some (.inl a), v5] (.inl a :: st) I J := ge (A := (1, 31, 4, 0, 0)) rfl
set_option maxRecDepth 10000 in
theorem g_33_31 : GO x d 33 Q 31 [v0, v1, v2, v3, v4, v5] [.inl i0, .inl i1] I J = EX x d 105 [.inl i1, .inl i0] I J (fun r1 I1 J1 => GO x d 33 Q 34 [v0, v1, v2, v3, v4, v5] (r1.toList ++ []) I1 J1) := (ge (A := (52, 34, 105, 2, 1)) rfl).trans (gtrue2 (Nat.le_of_ble_eq_true rfl) (Nat.le_of_ble_eq_true rfl))
set_option maxRecDepth 10000 in
theorem g_33_34 : GO x d 33 Q 34 [v0, v1, v2, v3, v4, v5] (.inl a :: st) I J = (inR a ∧ if a = 0 then GO x d 33 Q 73 [v0, v1, v2, v3, v4, v5] st I J else GO x d 33 Q 37 [v0, v1, v2, v3, v4, v5] st I J) := (ge (A := (33, 37, 73, 0, 0)) rfl).trans (gif (p := a = 0) inferInstance)
set_option maxRecDepth 10000 in
theorem g_33_37 : GO x d 33 Q 37 [v0, v1, v2, v3, some (.inl a), v5] st I J = GO x d 33 Q 39 [v0, v1, v2, v3, some (.inl a), v5] (.inl a :: st) I J := ge (A := (1, 39, 4, 0, 0)) rfl
set_option maxRecDepth 10000 in
theorem g_33_39 : GO x d 33 Q 39 [v0, v1, v2, v3, v4, some (.inl a)] st I J = GO x d 33 Q 41 [v0, v1, v2, v3, v4, some (.inl a)] (.inl a :: st) I J := ge (A := (1, 41, 5, 0, 0)) rfl
set_option maxRecDepth 10000 in
theorem g_33_41 : GO x d 33 Q 41 [v0, v1, v2, v3, v4, v5] [.inl i0, .inl i1] I J = EX x d 105 [.inl i1, .inl i0] I J (fun r1 I1 J1 => GO x d 33 Q 44 [v0, v1, v2, v3, v4, v5] (r1.toList ++ []) I1 J1) := (ge (A := (52, 44, 105, 2, 1)) rfl).trans (gtrue2 (Nat.le_of_ble_eq_true rfl) (Nat.le_of_ble_eq_true rfl))
set_option maxRecDepth 10000 in
theorem g_33_44 : GO x d 33 Q 44 [v0, v1, v2, v3, v4, v5] (.inl a :: st) I J = (inR a ∧ if a = 0 then GO x d 33 Q 47 [v0, v1, v2, v3, v4, v5] st I J else GO x d 33 Q 73 [v0, v1, v2, v3, v4, v5] st I J) := (ge (A := (33, 47, 73, 1, 0)) rfl).trans (gifn (p := a = 0) inferInstance)
set_option maxRecDepth 10000 in
theorem g_33_47 : GO x d 33 Q 47 [some (.inr (.inr w)), v1, v2, v3, v4, v5] st I J = GO x d 33 Q 48 [some (.inr (.inr w)), v1, v2, v3, v4, v5] (.inr (.inr w) :: st) I J := ge (A := (2, 48, 0, 0, 0)) rfl
set_option maxRecDepth 10000 in
theorem g_33_48 : GO x d 33 Q 48 [v0, v1, v2, v3, v4, v5] (.inr (.inr (.inl r)) :: st) I J = (okF r 3 9 ∧ GO x d 33 Q 51 [v0, v1, v2, v3, v4, v5] (.inr (.inr (.inl (rfN r 9))) :: st) I J) := (ge (A := (39, 51, 3, 9, 0)) rfl).trans (gref (f := fun q => GO x d 33 Q 51 [v0, v1, v2, v3, v4, v5] (.inr (.inr (.inl q)) :: st) I J))
set_option maxRecDepth 10000 in
theorem g_33_51 : GO x d 33 Q 51 [v0, v1, v2, v3, v4, some (.inl a)] st I J = GO x d 33 Q 53 [v0, v1, v2, v3, v4, some (.inl a)] (.inl a :: st) I J := ge (A := (1, 53, 5, 0, 0)) rfl
set_option maxRecDepth 10000 in
theorem h_33_53 : GO x d 33 Q 53 [v0, v1, v2, v3, v4, v5] (.inl a :: .inr (.inr (.inr q)) :: st) I J = (q < 4 ∧ 0 ≤ a ∧ a < (roA x q).1 ∧ GO x d 33 Q 54 [v0, v1, v2, v3, v4, v5] (.inl ((roA x q).2 a.toNat) :: st) I J) := ge (A := (44, 54, 0, 0, 0)) rfl
set_option maxRecDepth 10000 in
theorem g_33_53 : GO x d 33 Q 53 [v0, v1, v2, v3, v4, v5] (.inl a :: .inr (.inr (.inl r)) :: st) I J = (okA r 20 ∧ 0 ≤ a ∧ a < lnN r ∧ GO x d 33 Q 54 [v0, v1, v2, v3, v4, v5] (.inl (I r a) :: st) I J) := ge (A := (44, 54, 0, 0, 0)) rfl
set_option maxRecDepth 10000 in
theorem g_33_54 : GO x d 33 Q 54 [v0, v1, some (.inl a), v3, v4, v5] st I J = GO x d 33 Q 55 [v0, v1, some (.inl a), v3, v4, v5] (.inl a :: st) I J := ge (A := (1, 55, 2, 0, 0)) rfl
set_option maxRecDepth 10000 in
theorem g_33_55 : GO x d 33 Q 55 [v0, v1, v2, v3, v4, v5] [.inl i0, .inl i1] I J = EX x d 105 [.inl i1, .inl i0] I J (fun r1 I1 J1 => GO x d 33 Q 58 [v0, v1, v2, v3, v4, v5] (r1.toList ++ []) I1 J1) := (ge (A := (52, 58, 105, 2, 1)) rfl).trans (gtrue2 (Nat.le_of_ble_eq_true rfl) (Nat.le_of_ble_eq_true rfl))
set_option maxRecDepth 10000 in
theorem g_33_58 : GO x d 33 Q 58 [v0, v1, v2, v3, v4, v5] (.inl a :: st) I J = (inR a ∧ if a = 0 then GO x d 33 Q 73 [v0, v1, v2, v3, v4, v5] st I J else GO x d 33 Q 61 [v0, v1, v2, v3, v4, v5] st I J) := (ge (A := (33, 61, 73, 0, 0)) rfl).trans (gif (p := a = 0) inferInstance)
set_option maxRecDepth 10000 in
theorem g_33_61 : GO x d 33 Q 61 [v0, v1, v2, some (.inl a), v4, v5] st I J = GO x d 33 Q 62 [v0, v1, v2, some (.inl a), v4, v5] (.inl a :: st) I J := ge (A := (1, 62, 3, 0, 0)) rfl
set_option maxRecDepth 10000 in
theorem g_33_62 : GO x d 33 Q 62 [v0, v1, v2, v3, v4, v5] st I J = GO x d 33 Q 63 [v0, v1, v2, v3, v4, v5] (.inl (1) :: st) I J := ge (A := (0, 63, 0, 0, 1)) rfl
set_option maxRecDepth 10000 in
theorem g_33_63 : GO x d 33 Q 63 [v0, v1, v2, v3, some (.inl a), v5] st I J = GO x d 33 Q 65 [v0, v1, v2, v3, some (.inl a), v5] (.inl a :: st) I J := ge (A := (1, 65, 4, 0, 0)) rfl
set_option maxRecDepth 10000 in
theorem g_33_65 : GO x d 33 Q 65 [v0, v1, v2, v3, v4, v5] st I J = GO x d 33 Q 66 [v0, v1, v2, v3, v4, v5] (.inl (1) :: st) I J := ge (A := (0, 66, 0, 0, 1)) rfl
set_option maxRecDepth 10000 in
theorem g_33_66 : GO x d 33 Q 66 [v0, v1, v2, v3, v4, some (.inl a)] st I J = GO x d 33 Q 68 [v0, v1, v2, v3, v4, some (.inl a)] (.inl a :: st) I J := ge (A := (1, 68, 5, 0, 0)) rfl
set_option maxRecDepth 10000 in
theorem g_33_68 : GO x d 33 Q 68 [v0, v1, v2, v3, v4, v5] (.inl b :: .inl a :: st) I J = GO x d 33 Q 69 [v0, v1, v2, v3, v4, v5] (.inl (shlI a b) :: st) I J := ge (A := (14, 69, 0, 0, 0)) rfl
set_option maxRecDepth 10000 in
theorem g_33_69 : GO x d 33 Q 69 [v0, v1, v2, v3, v4, v5] (.inl b :: .inl a :: st) I J = GO x d 33 Q 70 [v0, v1, v2, v3, v4, v5] (.inl (orI a b) :: st) I J := ge (A := (12, 70, 0, 0, 0)) rfl
set_option maxRecDepth 10000 in
theorem g_33_70 : GO x d 33 Q 70 [v0, v1, v2, v3, v4, v5] (.inl b :: .inl a :: st) I J = GO x d 33 Q 71 [v0, v1, v2, v3, v4, v5] (.inl (shlI a b) :: st) I J := ge (A := (14, 71, 0, 0, 0)) rfl
set_option maxRecDepth 10000 in
theorem g_33_71 : GO x d 33 Q 71 [v0, v1, v2, v3, v4, v5] (.inl b :: .inl a :: st) I J = GO x d 33 Q 72 [v0, v1, v2, v3, v4, v5] (.inl (orI a b) :: st) I J := ge (A := (12, 72, 0, 0, 0)) rfl
set_option maxRecDepth 10000 in
theorem g_33_72 : GO x d 33 Q 72 [v0, v1, v2, v3, v4, v5] (.inl a :: st) I J = (nlO (some v2) = true ∧ GO x d 33 Q 73 [v0, v1, v2, some (.inl a), v4, v5] st I J) := (ge (A := (4, 73, 3, 0, 0)) rfl).trans (gst (Nat.le_of_ble_eq_true rfl) _)
set_option maxRecDepth 10000 in
theorem g_33_73 : GO x d 33 Q 73 [v0, v1, v2, v3, v4, some (.inl a)] st I J = (nlO (some v4) = true ∧ GO x d 33 Q 76 [v0, v1, v2, v3, v4, some (.inl (a + (1)))] st I J) := ge (A := (7, 76, 5, 0, 1)) rfl
set_option maxRecDepth 10000 in
theorem g_33_76 : GO x d 33 Q 76 [v0, v1, v2, v3, v4, v5] st I J = GO x d 33 Q 19 [v0, v1, v2, v3, v4, v5] st I J := ge (A := (35, 79, 19, 0, 0)) rfl
set_option maxRecDepth 10000 in
theorem g_33_79 : GO x d 33 Q 79 [v0, v1, v2, v3, some (.inl a), v5] st I J = (nlO (some v3) = true ∧ GO x d 33 Q 82 [v0, v1, v2, v3, some (.inl (a + (1))), v5] st I J) := ge (A := (7, 82, 4, 0, 1)) rfl
set_option maxRecDepth 10000 in
theorem g_33_82 : GO x d 33 Q 82 [v0, v1, v2, v3, v4, v5] st I J = GO x d 33 Q 5 [v0, v1, v2, v3, v4, v5] st I J := ge (A := (35, 85, 5, 0, 0)) rfl
set_option maxRecDepth 10000 in
theorem g_33_85 : GO x d 33 Q 85 [v0, v1, v2, some (.inl a), v4, v5] st I J = GO x d 33 Q 86 [v0, v1, v2, some (.inl a), v4, v5] (.inl a :: st) I J := ge (A := (1, 86, 3, 0, 0)) rfl
set_option maxRecDepth 10000 in
theorem g_33_86 : GO x d 33 Q 86 [v0, v1, v2, v3, v4, v5] [.inl a] I J = Q (some (.inl a)) I J := ge (A := (55, 87, 0, 0, 0)) rfl
set_option maxRecDepth 10000 in
theorem e_33 : EX x (d + 1) 33 [.inr (.inr w0), .inl i0, .inl i1] I J Q = GO x d 33 Q 0 [some (.inr (.inr w0)), some (.inl i0), some (.inl i1), none, none, none] [] I J := ex_eq (Nat.le_of_ble_eq_true rfl) rfl (Nat.le_of_ble_eq_true rfl) rfl
set_option maxRecDepth 10000 in
theorem g_35_0 : GO x d 35 Q 0 [v0, some (.inr (.inr w))] st I J = GO x d 35 Q 1 [v0, some (.inr (.inr w))] (.inr (.inr w) :: st) I J := ge (A := (2, 1, 1, 0, 0)) rfl
set_option maxRecDepth 10000 in
theorem g_35_1 : GO x d 35 Q 1 [v0, v1] (.inr (.inr (.inl r)) :: st) I J = (okF r 3 6 ∧ GO x d 35 Q 4 [v0, v1] (.inr (.inr (.inl (rfN r 6))) :: st) I J) := (ge (A := (39, 4, 3, 6, 0)) rfl).trans (gref (f := fun q => GO x d 35 Q 4 [v0, v1] (.inr (.inr (.inl q)) :: st) I J))
set_option maxRecDepth 10000 in
theorem g_35_4 : GO x d 35 Q 4 [v0, v1] st I J = GO x d 35 Q 5 [v0, v1] (.inl (0) :: st) I J := ge (A := (0, 5, 0, 0, 0)) rfl
set_option maxRecDepth 10000 in
theorem g_35_5 : GO x d 35 Q 5 [some (.inr (.inr w)), v1] st I J = GO x d 35 Q 6 [some (.inr (.inr w)), v1] (.inr (.inr w) :: st) I J := ge (A := (2, 6, 0, 0, 0)) rfl
set_option maxRecDepth 10000 in
theorem g_35_6 : GO x d 35 Q 6 [v0, v1] (.inr (.inr (.inl r)) :: st) I J = (okF r 4 0 ∧ GO x d 35 Q 9 [v0, v1] (.inr (.inr (.inl (rfN r 0))) :: st) I J) := (ge (A := (39, 9, 4, 0, 0)) rfl).trans (gref (f := fun q => GO x d 35 Q 9 [v0, v1] (.inr (.inr (.inl q)) :: st) I J))
set_option maxRecDepth 10000 in
theorem g_35_9 : GO x d 35 Q 9 [v0, v1] st I J = GO x d 35 Q 10 [v0, v1] (.inl (0) :: st) I J := ge (A := (0, 10, 0, 0, 0)) rfl
set_option maxRecDepth 10000 in
theorem g_35_10 : GO x d 35 Q 10 [v0, v1] st I J = GO x d 35 Q 12 [v0, v1] (.inl (8) :: st) I J := ge (A := (0, 12, 0, 0, 8)) rfl
set_option maxRecDepth 10000 in
theorem g_35_12 : GO x d 35 Q 12 [v0, v1] (.inl e :: .inl b :: .inr (.inr (.inl q)) :: .inl a :: .inr (.inr (.inl r)) :: st) I J = (catS st ≤ 8 ∧ okA r 20 ∧ okA q 20 ∧ 0 ≤ e ∧ 0 ≤ a ∧ 0 ≤ b ∧ a + e ≤ lnN r ∧ b + e ≤ lnN q ∧ GO x d 35 Q 15 [v0, v1] st (cpI I q b e r a) J) := ge (A := (54, 15, 0, 0, 0)) rfl
set_option maxRecDepth 10000 in
theorem g_35_15 : GO x d 35 Q 15 [some (.inr (.inr w)), v1] st I J = GO x d 35 Q 16 [some (.inr (.inr w)), v1] (.inr (.inr w) :: st) I J := ge (A := (2, 16, 0, 0, 0)) rfl
set_option maxRecDepth 10000 in
theorem g_35_16 : GO x d 35 Q 16 [v0, v1] (.inr (.inr w) :: st) I J = GO x d 35 Q 17 [v0, v1] (.inr (.inr w) :: .inr (.inr w) :: st) I J := ge (A := (31, 17, 0, 0, 0)) rfl
set_option maxRecDepth 10000 in
theorem g_35_17 : GO x d 35 Q 17 [v0, v1] (.inr (.inr (.inl r)) :: st) I J = (okO r 4 ∧ GO x d 35 Q 20 [v0, v1] (.inr (.inl (J r 4)) :: st) I J) := ge (A := (38, 20, 4, 4, 0)) rfl
set_option maxRecDepth 10000 in
theorem g_35_20 : GO x d 35 Q 20 [v0, v1] st I J = GO x d 35 Q 21 [v0, v1] (.inr (.inl (Int64.ofInt (1))) :: st) I J := ge (A := (24, 21, 0, 0, 1)) rfl
set_option maxRecDepth 10000 in
theorem g_35_21 : GO x d 35 Q 21 [v0, v1] (.inr (.inl z) :: .inr (.inl y) :: st) I J = GO x d 35 Q 22 [v0, v1] (.inr (.inl (y + z)) :: st) I J := ge (A := (25, 22, 0, 0, 0)) rfl
set_option maxRecDepth 10000 in
theorem g_35_22 : GO x d 35 Q 22 [v0, v1] (.inr (.inl y) :: .inr (.inr (.inl r)) :: st) I J = (okO r 4 ∧ GO x d 35 Q 25 [v0, v1] st I (upL J r 4 y)) := ge (A := (42, 25, 4, 4, 0)) rfl
set_option maxRecDepth 10000 in
theorem g_35_25 : GO x d 35 Q 25 [some (.inr (.inr w)), v1] st I J = GO x d 35 Q 26 [some (.inr (.inr w)), v1] (.inr (.inr w) :: st) I J := ge (A := (2, 26, 0, 0, 0)) rfl
set_option maxRecDepth 10000 in
theorem g_35_26 : GO x d 35 Q 26 [v0, some (.inr (.inr w))] st I J = GO x d 35 Q 27 [v0, some (.inr (.inr w))] (.inr (.inr w) :: st) I J := ge (A := (2, 27, 1, 0, 0)) rfl
set_option maxRecDepth 10000 in
theorem g_35_27 : GO x d 35 Q 27 [v0, v1] (.inr (.inr (.inl r)) :: st) I J = (okO r 3 ∧ GO x d 35 Q 30 [v0, v1] (.inl (I r 11) :: st) I J) := ge (A := (37, 30, 3, 11, 0)) rfl
set_option maxRecDepth 10000 in
theorem g_35_30 : GO x d 35 Q 30 [v0, v1] (.inl a :: .inr (.inr (.inl r)) :: st) I J = (okO r 4 ∧ GO x d 35 Q 33 [v0, v1] st (up I r 5 a) J) := ge (A := (40, 33, 4, 5, 0)) rfl
set_option maxRecDepth 10000 in
theorem g_35_33 : GO x d 35 Q 33 [some (.inr (.inr w)), v1] st I J = GO x d 35 Q 34 [some (.inr (.inr w)), v1] (.inr (.inr w) :: st) I J := ge (A := (2, 34, 0, 0, 0)) rfl
set_option maxRecDepth 10000 in
theorem g_35_34 : GO x d 35 Q 34 [v0, v1] st I J = GO x d 35 Q 36 [v0, v1] (.inl (1000000) :: st) I J := ge (A := (0, 36, 0, 0, 1000000)) rfl
set_option maxRecDepth 10000 in
theorem g_35_36 : GO x d 35 Q 36 [v0, v1] (.inl a :: .inr (.inr (.inl r)) :: st) I J = (okO r 4 ∧ GO x d 35 Q 39 [v0, v1] st (up I r 6 a) J) := ge (A := (40, 39, 4, 6, 0)) rfl
set_option maxRecDepth 10000 in
theorem g_35_39 : GO x d 35 Q 39 [some (.inr (.inr w)), v1] st I J = GO x d 35 Q 40 [some (.inr (.inr w)), v1] (.inr (.inr w) :: st) I J := ge (A := (2, 40, 0, 0, 0)) rfl
set_option maxRecDepth 10000 in
theorem g_35_40 : GO x d 35 Q 40 [v0, v1] st I J = GO x d 35 Q 41 [v0, v1] (.inl (0) :: st) I J := ge (A := (0, 41, 0, 0, 0)) rfl
set_option maxRecDepth 10000 in
theorem g_35_41 : GO x d 35 Q 41 [v0, v1] (.inl a :: .inr (.inr (.inl r)) :: st) I J = (okO r 4 ∧ GO x d 35 Q 44 [v0, v1] st (up I r 7 a) J) := ge (A := (40, 44, 4, 7, 0)) rfl
set_option maxRecDepth 10000 in
theorem g_35_44 : GO x d 35 Q 44 [some (.inr (.inr w)), v1] st I J = GO x d 35 Q 45 [some (.inr (.inr w)), v1] (.inr (.inr w) :: st) I J := ge (A := (2, 45, 0, 0, 0)) rfl
set_option maxRecDepth 10000 in
theorem g_35_45 : GO x d 35 Q 45 [v0, some (.inr (.inr w))] st I J = GO x d 35 Q 46 [v0, some (.inr (.inr w))] (.inr (.inr w) :: st) I J := ge (A := (2, 46, 1, 0, 0)) rfl
set_option maxRecDepth 10000 in
theorem g_35_46 : GO x d 35 Q 46 [v0, v1] st I J = GO x d 35 Q 47 [v0, v1] (.inl (0) :: st) I J := ge (A := (0, 47, 0, 0, 0)) rfl
set_option maxRecDepth 10000 in
theorem g_35_47 : GO x d 35 Q 47 [v0, some (.inr (.inr w))] st I J = GO x d 35 Q 48 [v0, some (.inr (.inr w))] (.inr (.inr w) :: st) I J := ge (A := (2, 48, 1, 0, 0)) rfl
set_option maxRecDepth 10000 in
theorem g_35_48 : GO x d 35 Q 48 [v0, v1] [.inr (.inr (.inl r)), .inl i0, .inr (.inr w0), .inr (.inr w1)] I J = (okO r 3 ∧ EX x d 19 [.inr (.inr (.inl r))] I J (fun r1 I1 J1 => GO x d 35 Q 51 [v0, v1] (r1.toList ++ [.inl i0, .inr (.inr w0), .inr (.inr w1)]) I1 J1)) := (ge (A := (53, 51, 19, 0, 0)) rfl).trans (gtrue (Nat.le_of_ble_eq_true rfl))
set_option maxRecDepth 10000 in
theorem g_35_51 : GO x d 35 Q 51 [v0, some (.inr (.inr w))] st I J = GO x d 35 Q 52 [v0, some (.inr (.inr w))] (.inr (.inr w) :: st) I J := ge (A := (2, 52, 1, 0, 0)) rfl
set_option maxRecDepth 10000 in
theorem g_35_52 : GO x d 35 Q 52 [v0, v1] (.inr (.inr (.inl r)) :: st) I J = (okO r 3 ∧ GO x d 35 Q 55 [v0, v1] (.inl (I r 11) :: st) I J) := ge (A := (37, 55, 3, 11, 0)) rfl
set_option maxRecDepth 10000 in
theorem g_35_55 : GO x d 35 Q 55 [v0, some (.inr (.inr w))] st I J = GO x d 35 Q 56 [v0, some (.inr (.inr w))] (.inr (.inr w) :: st) I J := ge (A := (2, 56, 1, 0, 0)) rfl
set_option maxRecDepth 10000 in
theorem g_35_56 : GO x d 35 Q 56 [v0, v1] (.inr (.inr (.inl r)) :: st) I J = (okO r 3 ∧ GO x d 35 Q 59 [v0, v1] (.inl (I r 12) :: st) I J) := ge (A := (37, 59, 3, 12, 0)) rfl
set_option maxRecDepth 10000 in
theorem g_35_59 : GO x d 35 Q 59 [v0, some (.inr (.inr w))] st I J = GO x d 35 Q 60 [v0, some (.inr (.inr w))] (.inr (.inr w) :: st) I J := ge (A := (2, 60, 1, 0, 0)) rfl
set_option maxRecDepth 10000 in
theorem g_35_60 : GO x d 35 Q 60 [v0, v1] (.inr (.inr (.inl r)) :: st) I J = (okO r 3 ∧ GO x d 35 Q 63 [v0, v1] (.inl (I r 13) :: st) I J) := ge (A := (37, 63, 3, 13, 0)) rfl
set_option maxRecDepth 10000 in
theorem g_35_63 : GO x d 35 Q 63 [v0, v1] [.inl i0, .inl i1, .inl i2, .inl i3, .inl i4, .inr (.inr w0), .inr (.inr w1)] I J = EX x d 38 [.inr (.inr w1), .inr (.inr w0), .inl i4, .inl i3, .inl i2, .inl i1, .inl i0] I J (fun r1 I1 J1 => GO x d 35 Q 66 [v0, v1] (r1.toList ++ []) I1 J1) := (ge (A := (52, 66, 38, 7, 0)) rfl).trans (gtrue2 (Nat.le_of_ble_eq_true rfl) (Nat.le_of_ble_eq_true rfl))
set_option maxRecDepth 10000 in
theorem g_35_66 : GO x d 35 Q 66 [v0, v1] [] I J = Q none I J := ge (A := (57, 67, 0, 0, 0)) rfl
set_option maxRecDepth 10000 in
theorem e_35 : EX x (d + 1) 35 [.inr (.inr w0), .inr (.inr w1)] I J Q = GO x d 35 Q 0 [some (.inr (.inr w0)), some (.inr (.inr w1))] [] I J := ex_eq (Nat.le_of_ble_eq_true rfl) rfl (Nat.le_of_ble_eq_true rfl) rfl
set_option maxRecDepth 10000 in
theorem g_36_0 : GO x d 36 Q 0 [some (.inr (.inr w))] st I J = GO x d 36 Q 1 [some (.inr (.inr w))] (.inr (.inr w) :: st) I J := ge (A := (2, 1, 0, 0, 0)) rfl
set_option maxRecDepth 10000 in
theorem g_36_1 : GO x d 36 Q 1 [v0] (.inr (.inr (.inl r)) :: st) I J = (okO r 4 ∧ GO x d 36 Q 4 [v0] (.inl (I r 6) :: st) I J) := ge (A := (37, 4, 4, 6, 0)) rfl
set_option maxRecDepth 10000 in
theorem g_36_4 : GO x d 36 Q 4 [v0] st I J = GO x d 36 Q 6 [v0] (.inl (1000000) :: st) I J := ge (A := (0, 6, 0, 0, 1000000)) rfl
set_option maxRecDepth 10000 in
theorem g_36_6 : GO x d 36 Q 6 [v0] (.inl b :: .inl a :: st) I J = (inR a ∧ inR b ∧ if a = b then GO x d 36 Q 9 [v0] st I J else GO x d 36 Q 14 [v0] st I J) := (ge (A := (34, 9, 14, 1, 0)) rfl).trans (gicn (p := a = b) inferInstance)
set_option maxRecDepth 10000 in
theorem g_36_9 : GO x d 36 Q 9 [v0] st I J = GO x d 36 Q 11 [v0] (.inl (-1000000) :: st) I J := ge (A := (0, 11, 0, 0, -1000000)) rfl
set_option maxRecDepth 10000 in
theorem g_36_11 : GO x d 36 Q 11 [v0] st I J = GO x d 36 Q 18 [v0] st I J := ge (A := (35, 14, 18, 0, 0)) rfl
set_option maxRecDepth 10000 in
theorem g_36_14 : GO x d 36 Q 14 [some (.inr (.inr w))] st I J = GO x d 36 Q 15 [some (.inr (.inr w))] (.inr (.inr w) :: st) I J := ge (A := (2, 15, 0, 0, 0)) rfl
set_option maxRecDepth 10000 in
theorem g_36_15 : GO x d 36 Q 15 [v0] (.inr (.inr (.inl r)) :: st) I J = (okO r 4 ∧ GO x d 36 Q 18 [v0] (.inl (I r 6) :: st) I J) := ge (A := (37, 18, 4, 6, 0)) rfl
set_option maxRecDepth 10000 in
theorem g_36_18 : GO x d 36 Q 18 [v0] [.inl a] I J = Q (some (.inl a)) I J := ge (A := (55, 19, 0, 0, 0)) rfl
set_option maxRecDepth 10000 in
theorem e_36 : EX x (d + 1) 36 [.inr (.inr w0)] I J Q = GO x d 36 Q 0 [some (.inr (.inr w0))] [] I J := ex_eq (Nat.le_of_ble_eq_true rfl) rfl (Nat.le_of_ble_eq_true rfl) rfl
set_option maxRecDepth 10000 in
theorem g_37_0 : GO x d 37 Q 0 [v0, some (.inl a)] st I J = GO x d 37 Q 1 [v0, some (.inl a)] (.inl a :: st) I J := ge (A := (1, 1, 1, 0, 0)) rfl
set_option maxRecDepth 10000 in
theorem g_37_1 : GO x d 37 Q 1 [v0, v1] (.inl a :: st) I J = (inR a ∧ if a < 0 then GO x d 37 Q 26 [v0, v1] st I J else GO x d 37 Q 4 [v0, v1] st I J) := (ge (A := (33, 4, 26, 2, 0)) rfl).trans (gif (p := a < 0) inferInstance)
set_option maxRecDepth 10000 in
theorem g_37_4 : GO x d 37 Q 4 [v0, some (.inl a)] st I J = GO x d 37 Q 5 [v0, some (.inl a)] (.inl a :: st) I J := ge (A := (1, 5, 1, 0, 0)) rfl
set_option maxRecDepth 10000 in
theorem g_37_5 : GO x d 37 Q 5 [some (.inr (.inr w)), v1] st I J = GO x d 37 Q 6 [some (.inr (.inr w)), v1] (.inr (.inr w) :: st) I J := ge (A := (2, 6, 0, 0, 0)) rfl
set_option maxRecDepth 10000 in
theorem g_37_6 : GO x d 37 Q 6 [v0, v1] (.inr (.inr (.inl r)) :: st) I J = (okO r 4 ∧ GO x d 37 Q 9 [v0, v1] (.inl (I r 7) :: st) I J) := ge (A := (37, 9, 4, 7, 0)) rfl
set_option maxRecDepth 10000 in
theorem g_37_9 : GO x d 37 Q 9 [v0, v1] (.inl b :: .inl a :: st) I J = (inR a ∧ inR b ∧ if a < b then GO x d 37 Q 12 [v0, v1] st I J else GO x d 37 Q 26 [v0, v1] st I J) := (ge (A := (34, 12, 26, 3, 0)) rfl).trans (ggec)
set_option maxRecDepth 10000 in
theorem g_37_12 : GO x d 37 Q 12 [v0, some (.inl a)] st I J = GO x d 37 Q 13 [v0, some (.inl a)] (.inl a :: st) I J := ge (A := (1, 13, 1, 0, 0)) rfl
set_option maxRecDepth 10000 in
theorem g_37_13 : GO x d 37 Q 13 [v0, v1] st I J = GO x d 37 Q 14 [v0, v1] (.inl (5) :: st) I J := ge (A := (0, 14, 0, 0, 5)) rfl
set_option maxRecDepth 10000 in
theorem g_37_14 : GO x d 37 Q 14 [v0, v1] (.inl b :: .inl a :: st) I J = (inR a ∧ inR b ∧ if a < b then GO x d 37 Q 17 [v0, v1] st I J else GO x d 37 Q 26 [v0, v1] st I J) := (ge (A := (34, 17, 26, 3, 0)) rfl).trans (ggec)
set_option maxRecDepth 10000 in
theorem g_37_17 : GO x d 37 Q 17 [some (.inr (.inr w)), v1] st I J = GO x d 37 Q 18 [some (.inr (.inr w)), v1] (.inr (.inr w) :: st) I J := ge (A := (2, 18, 0, 0, 0)) rfl
set_option maxRecDepth 10000 in
theorem g_37_18 : GO x d 37 Q 18 [v0, v1] (.inr (.inr (.inl r)) :: st) I J = (okF r 4 2 ∧ GO x d 37 Q 21 [v0, v1] (.inr (.inr (.inl (rfN r 2))) :: st) I J) := (ge (A := (39, 21, 4, 2, 0)) rfl).trans (gref (f := fun q => GO x d 37 Q 21 [v0, v1] (.inr (.inr (.inl q)) :: st) I J))
set_option maxRecDepth 10000 in
theorem g_37_21 : GO x d 37 Q 21 [v0, some (.inl a)] st I J = GO x d 37 Q 22 [v0, some (.inl a)] (.inl a :: st) I J := ge (A := (1, 22, 1, 0, 0)) rfl
set_option maxRecDepth 10000 in
theorem h_37_22 : GO x d 37 Q 22 [v0, v1] (.inl a :: .inr (.inr (.inr q)) :: st) I J = (q < 4 ∧ 0 ≤ a ∧ a < (roA x q).1 ∧ GO x d 37 Q 23 [v0, v1] (.inl ((roA x q).2 a.toNat) :: st) I J) := ge (A := (44, 23, 0, 0, 0)) rfl
set_option maxRecDepth 10000 in
theorem g_37_22 : GO x d 37 Q 22 [v0, v1] (.inl a :: .inr (.inr (.inl r)) :: st) I J = (okA r 20 ∧ 0 ≤ a ∧ a < lnN r ∧ GO x d 37 Q 23 [v0, v1] (.inl (I r a) :: st) I J) := ge (A := (44, 23, 0, 0, 0)) rfl
set_option maxRecDepth 10000 in
theorem g_37_23 : GO x d 37 Q 23 [v0, v1] st I J = GO x d 37 Q 28 [v0, v1] st I J := ge (A := (35, 26, 28, 0, 0)) rfl
set_option maxRecDepth 10000 in
theorem g_37_26 : GO x d 37 Q 26 [v0, v1] st I J = GO x d 37 Q 28 [v0, v1] (.inl (-1000000) :: st) I J := ge (A := (0, 28, 0, 0, -1000000)) rfl
set_option maxRecDepth 10000 in
theorem g_37_28 : GO x d 37 Q 28 [v0, v1] [.inl a] I J = Q (some (.inl a)) I J := ge (A := (55, 29, 0, 0, 0)) rfl
set_option maxRecDepth 10000 in
theorem e_37 : EX x (d + 1) 37 [.inr (.inr w0), .inl i0] I J Q = GO x d 37 Q 0 [some (.inr (.inr w0)), some (.inl i0)] [] I J := ex_eq (Nat.le_of_ble_eq_true rfl) rfl (Nat.le_of_ble_eq_true rfl) rfl
set_option maxRecDepth 10000 in
theorem g_38_0 : GO x d 38 Q 0 [v0, some (.inr (.inr w)), v2, v3, v4, v5, v6, v7, v8, v9, v10, v11, v12] st I J = GO x d 38 Q 1 [v0, some (.inr (.inr w)), v2, v3, v4, v5, v6, v7, v8, v9, v10, v11, v12] (.inr (.inr w) :: st) I J := ge (A := (2, 1, 1, 0, 0)) rfl
set_option maxRecDepth 10000 in
theorem g_38_1 : GO x d 38 Q 1 [v0, v1, v2, v3, v4, v5, v6, v7, v8, v9, v10, v11, v12] (.inr (.inr (.inl r)) :: st) I J = (okO r 3 ∧ GO x d 38 Q 4 [v0, v1, v2, v3, v4, v5, v6, v7, v8, v9, v10, v11, v12] (.inl (I r 8) :: st) I J) := ge (A := (37, 4, 3, 8, 0)) rfl
set_option maxRecDepth 10000 in
theorem g_38_4 : GO x d 38 Q 4 [v0, v1, v2, some (.inl a), v4, v5, v6, v7, v8, v9, v10, v11, v12] st I J = GO x d 38 Q 5 [v0, v1, v2, some (.inl a), v4, v5, v6, v7, v8, v9, v10, v11, v12] (.inl a :: st) I J := ge (A := (1, 5, 3, 0, 0)) rfl
set_option maxRecDepth 10000 in
theorem g_38_5 : GO x d 38 Q 5 [v0, v1, v2, v3, v4, v5, v6, v7, v8, v9, v10, v11, v12] [.inl i0, .inl i1] I J = EX x d 182 [.inl i0] I J (fun r1 I1 J1 => GO x d 38 Q 8 [v0, v1, v2, v3, v4, v5, v6, v7, v8, v9, v10, v11, v12] (r1.toList ++ [.inl i1]) I1 J1) := (ge (A := (52, 8, 182, 1, 0)) rfl).trans (gtrue2 (Nat.le_of_ble_eq_true rfl) (Nat.le_of_ble_eq_true rfl))
set_option maxRecDepth 10000 in
theorem g_38_8 : GO x d 38 Q 8 [v0, v1, v2, v3, v4, v5, v6, v7, v8, v9, v10, v11, v12] (.inl b :: .inl a :: st) I J = GO x d 38 Q 9 [v0, v1, v2, v3, v4, v5, v6, v7, v8, v9, v10, v11, v12] (.inl (a - b) :: st) I J := ge (A := (9, 9, 0, 0, 0)) rfl
set_option maxRecDepth 10000 in
theorem g_38_9 : GO x d 38 Q 9 [v0, v1, v2, v3, v4, v5, v6, v7, v8, v9, v10, v11, v12] (.inl a :: st) I J = (nlO (some v6) = true ∧ GO x d 38 Q 11 [v0, v1, v2, v3, v4, v5, v6, some (.inl a), v8, v9, v10, v11, v12] st I J) := (ge (A := (4, 11, 7, 0, 0)) rfl).trans (gst (Nat.le_of_ble_eq_true rfl) _)
set_option maxRecDepth 10000 in
theorem g_38_11 : GO x d 38 Q 11 [v0, v1, v2, v3, some (.inl a), v5, v6, v7, v8, v9, v10, v11, v12] st I J = GO x d 38 Q 13 [v0, v1, v2, v3, some (.inl a), v5, v6, v7, v8, v9, v10, v11, v12] (.inl a :: st) I J := ge (A := (1, 13, 4, 0, 0)) rfl
set_option maxRecDepth 10000 in
theorem g_38_13 : GO x d 38 Q 13 [v0, v1, v2, v3, v4, v5, v6, some (.inl a), v8, v9, v10, v11, v12] st I J = GO x d 38 Q 15 [v0, v1, v2, v3, v4, v5, v6, some (.inl a), v8, v9, v10, v11, v12] (.inl a :: st) I J := ge (A := (1, 15, 7, 0, 0)) rfl
set_option maxRecDepth 10000 in
theorem g_38_15 : GO x d 38 Q 15 [v0, v1, v2, v3, v4, v5, v6, v7, v8, v9, v10, v11, v12] (.inl b :: .inl a :: st) I J = GO x d 38 Q 16 [v0, v1, v2, v3, v4, v5, v6, v7, v8, v9, v10, v11, v12] (.inl (a + b) :: st) I J := ge (A := (8, 16, 0, 0, 0)) rfl
set_option maxRecDepth 10000 in
theorem g_38_16 : GO x d 38 Q 16 [some (.inr (.inr w)), v1, v2, v3, v4, v5, v6, v7, v8, v9, v10, v11, v12] st I J = GO x d 38 Q 17 [some (.inr (.inr w)), v1, v2, v3, v4, v5, v6, v7, v8, v9, v10, v11, v12] (.inr (.inr w) :: st) I J := ge (A := (2, 17, 0, 0, 0)) rfl
set_option maxRecDepth 10000 in
theorem g_38_17 : GO x d 38 Q 17 [v0, v1, v2, v3, v4, v5, v6, v7, v8, v9, v10, v11, v12] (.inr (.inr (.inl r)) :: st) I J = (okO r 4 ∧ GO x d 38 Q 20 [v0, v1, v2, v3, v4, v5, v6, v7, v8, v9, v10, v11, v12] (.inl (I r 6) :: st) I J) := ge (A := (37, 20, 4, 6, 0)) rfl
set_option maxRecDepth 10000 in
theorem g_38_20 : GO x d 38 Q 20 [v0, v1, v2, v3, v4, v5, v6, v7, v8, v9, v10, v11, v12] (.inl b :: .inl a :: st) I J = (inR a ∧ inR b ∧ if a < b then GO x d 38 Q 24 [v0, v1, v2, v3, v4, v5, v6, v7, v8, v9, v10, v11, v12] st I J else GO x d 38 Q 23 [v0, v1, v2, v3, v4, v5, v6, v7, v8, v9, v10, v11, v12] st I J) := (ge (A := (34, 23, 24, 2, 0)) rfl).trans (gic (p := a < b) inferInstance)
set_option maxRecDepth 10000 in
theorem g_38_23 : GO x d 38 Q 23 [v0, v1, v2, v3, v4, v5, v6, v7, v8, v9, v10, v11, v12] [] I J = Q none I J := ge (A := (57, 24, 0, 0, 0)) rfl
set_option maxRecDepth 10000 in
theorem g_38_24 : GO x d 38 Q 24 [v0, v1, v2, v3, v4, v5, v6, some (.inl a), v8, v9, v10, v11, v12] st I J = GO x d 38 Q 26 [v0, v1, v2, v3, v4, v5, v6, some (.inl a), v8, v9, v10, v11, v12] (.inl a :: st) I J := ge (A := (1, 26, 7, 0, 0)) rfl
set_option maxRecDepth 10000 in
theorem g_38_26 : GO x d 38 Q 26 [v0, v1, v2, v3, v4, v5, v6, v7, v8, v9, v10, v11, v12] (.inl a :: st) I J = (inR a ∧ if a = 0 then GO x d 38 Q 34 [v0, v1, v2, v3, v4, v5, v6, v7, v8, v9, v10, v11, v12] st I J else GO x d 38 Q 29 [v0, v1, v2, v3, v4, v5, v6, v7, v8, v9, v10, v11, v12] st I J) := (ge (A := (33, 29, 34, 0, 0)) rfl).trans (gif (p := a = 0) inferInstance)
set_option maxRecDepth 10000 in
theorem g_38_29 : GO x d 38 Q 29 [v0, v1, some (.inl a), v3, v4, v5, v6, v7, v8, v9, v10, v11, v12] st I J = GO x d 38 Q 30 [v0, v1, some (.inl a), v3, v4, v5, v6, v7, v8, v9, v10, v11, v12] (.inl a :: st) I J := ge (A := (1, 30, 2, 0, 0)) rfl
set_option maxRecDepth 10000 in
theorem g_38_30 : GO x d 38 Q 30 [v0, v1, v2, v3, v4, v5, v6, v7, v8, v9, v10, v11, v12] st I J = GO x d 38 Q 31 [v0, v1, v2, v3, v4, v5, v6, v7, v8, v9, v10, v11, v12] (.inl (5) :: st) I J := ge (A := (0, 31, 0, 0, 5)) rfl
set_option maxRecDepth 10000 in
theorem g_38_31 : GO x d 38 Q 31 [v0, v1, v2, v3, v4, v5, v6, v7, v8, v9, v10, v11, v12] (.inl b :: .inl a :: st) I J = (inR a ∧ inR b ∧ if a < b then GO x d 38 Q 42 [v0, v1, v2, v3, v4, v5, v6, v7, v8, v9, v10, v11, v12] st I J else GO x d 38 Q 34 [v0, v1, v2, v3, v4, v5, v6, v7, v8, v9, v10, v11, v12] st I J) := (ge (A := (34, 34, 42, 2, 0)) rfl).trans (gic (p := a < b) inferInstance)
set_option maxRecDepth 10000 in
theorem g_38_34 : GO x d 38 Q 34 [some (.inr (.inr w)), v1, v2, v3, v4, v5, v6, v7, v8, v9, v10, v11, v12] st I J = GO x d 38 Q 35 [some (.inr (.inr w)), v1, v2, v3, v4, v5, v6, v7, v8, v9, v10, v11, v12] (.inr (.inr w) :: st) I J := ge (A := (2, 35, 0, 0, 0)) rfl
set_option maxRecDepth 10000 in
theorem g_38_35 : GO x d 38 Q 35 [v0, v1, some (.inl a), v3, v4, v5, v6, v7, v8, v9, v10, v11, v12] st I J = GO x d 38 Q 36 [v0, v1, some (.inl a), v3, v4, v5, v6, v7, v8, v9, v10, v11, v12] (.inl a :: st) I J := ge (A := (1, 36, 2, 0, 0)) rfl
set_option maxRecDepth 10000 in
theorem g_38_36 : GO x d 38 Q 36 [v0, v1, v2, v3, some (.inl a), v5, v6, v7, v8, v9, v10, v11, v12] st I J = GO x d 38 Q 38 [v0, v1, v2, v3, some (.inl a), v5, v6, v7, v8, v9, v10, v11, v12] (.inl a :: st) I J := ge (A := (1, 38, 4, 0, 0)) rfl
set_option maxRecDepth 10000 in
theorem g_38_38 : GO x d 38 Q 38 [v0, v1, v2, v3, v4, v5, v6, v7, v8, v9, v10, v11, v12] [.inl i0, .inl i1, .inr (.inr (.inl r))] I J = (okO r 4 ∧ EX x d 39 [.inr (.inr (.inl r)), .inl i1, .inl i0] I J (fun r1 I1 J1 => GO x d 38 Q 41 [v0, v1, v2, v3, v4, v5, v6, v7, v8, v9, v10, v11, v12] (r1.toList ++ []) I1 J1)) := (ge (A := (53, 41, 39, 2, 0)) rfl).trans (gtrue (Nat.le_of_ble_eq_true rfl))
set_option maxRecDepth 10000 in
theorem g_38_41 : GO x d 38 Q 41 [v0, v1, v2, v3, v4, v5, v6, v7, v8, v9, v10, v11, v12] [] I J = Q none I J := ge (A := (57, 42, 0, 0, 0)) rfl
set_option maxRecDepth 10000 in
theorem g_38_42 : GO x d 38 Q 42 [some (.inr (.inr w)), v1, v2, v3, v4, v5, v6, v7, v8, v9, v10, v11, v12] st I J = GO x d 38 Q 43 [some (.inr (.inr w)), v1, v2, v3, v4, v5, v6, v7, v8, v9, v10, v11, v12] (.inr (.inr w) :: st) I J := ge (A := (2, 43, 0, 0, 0)) rfl
set_option maxRecDepth 10000 in
theorem g_38_43 : GO x d 38 Q 43 [v0, some (.inr (.inr w)), v2, v3, v4, v5, v6, v7, v8, v9, v10, v11, v12] st I J = GO x d 38 Q 44 [v0, some (.inr (.inr w)), v2, v3, v4, v5, v6, v7, v8, v9, v10, v11, v12] (.inr (.inr w) :: st) I J := ge (A := (2, 44, 1, 0, 0)) rfl
set_option maxRecDepth 10000 in
theorem g_38_44 : GO x d 38 Q 44 [v0, v1, v2, some (.inl a), v4, v5, v6, v7, v8, v9, v10, v11, v12] st I J = GO x d 38 Q 45 [v0, v1, v2, some (.inl a), v4, v5, v6, v7, v8, v9, v10, v11, v12] (.inl a :: st) I J := ge (A := (1, 45, 3, 0, 0)) rfl
set_option maxRecDepth 10000 in
theorem g_38_45 : GO x d 38 Q 45 [v0, v1, v2, v3, some (.inl a), v5, v6, v7, v8, v9, v10, v11, v12] st I J = GO x d 38 Q 47 [v0, v1, v2, v3, some (.inl a), v5, v6, v7, v8, v9, v10, v11, v12] (.inl a :: st) I J := ge (A := (1, 47, 4, 0, 0)) rfl
set_option maxRecDepth 10000 in
theorem g_38_47 : GO x d 38 Q 47 [v0, v1, v2, v3, v4, some (.inl a), v6, v7, v8, v9, v10, v11, v12] st I J = GO x d 38 Q 49 [v0, v1, v2, v3, v4, some (.inl a), v6, v7, v8, v9, v10, v11, v12] (.inl a :: st) I J := ge (A := (1, 49, 5, 0, 0)) rfl
set_option maxRecDepth 10000 in
theorem g_38_49 : GO x d 38 Q 49 [v0, v1, v2, v3, v4, v5, some (.inl a), v7, v8, v9, v10, v11, v12] st I J = GO x d 38 Q 51 [v0, v1, v2, v3, v4, v5, some (.inl a), v7, v8, v9, v10, v11, v12] (.inl a :: st) I J := ge (A := (1, 51, 6, 0, 0)) rfl
set_option maxRecDepth 10000 in
theorem g_38_51 : GO x d 38 Q 51 [v0, v1, v2, v3, v4, v5, v6, v7, v8, v9, v10, v11, v12] [.inl i0, .inl i1, .inl i2, .inl i3, .inr (.inr w0), .inr (.inr (.inl r))] I J = (okO r 4 ∧ EX x d 41 [.inr (.inr (.inl r)), .inr (.inr w0), .inl i3, .inl i2, .inl i1, .inl i0] I J (fun r1 I1 J1 => GO x d 38 Q 54 [v0, v1, v2, v3, v4, v5, v6, v7, v8, v9, v10, v11, v12] (r1.toList ++ []) I1 J1)) := (ge (A := (53, 54, 41, 5, 0)) rfl).trans (gtrue (Nat.le_of_ble_eq_true rfl))
set_option maxRecDepth 10000 in
theorem g_38_54 : GO x d 38 Q 54 [v0, v1, v2, v3, v4, v5, v6, v7, v8, v9, v10, v11, v12] (.inl a :: st) I J = (inR a ∧ if a = 0 then GO x d 38 Q 58 [v0, v1, v2, v3, v4, v5, v6, v7, v8, v9, v10, v11, v12] st I J else GO x d 38 Q 57 [v0, v1, v2, v3, v4, v5, v6, v7, v8, v9, v10, v11, v12] st I J) := (ge (A := (33, 57, 58, 0, 0)) rfl).trans (gif (p := a = 0) inferInstance)
set_option maxRecDepth 10000 in
theorem g_38_57 : GO x d 38 Q 57 [v0, v1, v2, v3, v4, v5, v6, v7, v8, v9, v10, v11, v12] [] I J = Q none I J := ge (A := (57, 58, 0, 0, 0)) rfl
set_option maxRecDepth 10000 in
theorem g_38_58 : GO x d 38 Q 58 [v0, some (.inr (.inr w)), v2, v3, v4, v5, v6, v7, v8, v9, v10, v11, v12] st I J = GO x d 38 Q 59 [v0, some (.inr (.inr w)), v2, v3, v4, v5, v6, v7, v8, v9, v10, v11, v12] (.inr (.inr w) :: st) I J := ge (A := (2, 59, 1, 0, 0)) rfl
set_option maxRecDepth 10000 in
theorem g_38_59 : GO x d 38 Q 59 [some (.inr (.inr w)), v1, v2, v3, v4, v5, v6, v7, v8, v9, v10, v11, v12] st I J = GO x d 38 Q 60 [some (.inr (.inr w)), v1, v2, v3, v4, v5, v6, v7, v8, v9, v10, v11, v12] (.inr (.inr w) :: st) I J := ge (A := (2, 60, 0, 0, 0)) rfl
set_option maxRecDepth 10000 in
theorem g_38_60 : GO x d 38 Q 60 [v0, v1, v2, v3, v4, v5, v6, v7, v8, v9, v10, v11, v12] (.inr (.inr (.inl r)) :: st) I J = (okF r 4 0 ∧ GO x d 38 Q 63 [v0, v1, v2, v3, v4, v5, v6, v7, v8, v9, v10, v11, v12] (.inr (.inr (.inl (rfN r 0))) :: st) I J) := (ge (A := (39, 63, 4, 0, 0)) rfl).trans (gref (f := fun q => GO x d 38 Q 63 [v0, v1, v2, v3, v4, v5, v6, v7, v8, v9, v10, v11, v12] (.inr (.inr (.inl q)) :: st) I J))
set_option maxRecDepth 10000 in
theorem g_38_63 : GO x d 38 Q 63 [v0, v1, v2, v3, some (.inl a), v5, v6, v7, v8, v9, v10, v11, v12] st I J = GO x d 38 Q 65 [v0, v1, v2, v3, some (.inl a), v5, v6, v7, v8, v9, v10, v11, v12] (.inl a :: st) I J := ge (A := (1, 65, 4, 0, 0)) rfl
set_option maxRecDepth 10000 in
theorem g_38_65 : GO x d 38 Q 65 [v0, v1, v2, v3, v4, some (.inl a), v6, v7, v8, v9, v10, v11, v12] st I J = GO x d 38 Q 67 [v0, v1, v2, v3, v4, some (.inl a), v6, v7, v8, v9, v10, v11, v12] (.inl a :: st) I J := ge (A := (1, 67, 5, 0, 0)) rfl
set_option maxRecDepth 10000 in
theorem g_38_67 : GO x d 38 Q 67 [v0, v1, v2, v3, v4, v5, v6, v7, v8, v9, v10, v11, v12] [.inl i0, .inl i1, .inr (.inr w0), .inr (.inr (.inl r))] I J = (okO r 3 ∧ EX x d 22 [.inr (.inr (.inl r)), .inr (.inr w0), .inl i1, .inl i0] I J (fun r1 I1 J1 => GO x d 38 Q 70 [v0, v1, v2, v3, v4, v5, v6, v7, v8, v9, v10, v11, v12] (r1.toList ++ []) I1 J1)) := (ge (A := (53, 70, 22, 3, 0)) rfl).trans (gtrue (Nat.le_of_ble_eq_true rfl))
set_option maxRecDepth 10000 in
theorem g_38_70 : GO x d 38 Q 70 [v0, v1, v2, v3, v4, v5, v6, v7, v8, v9, v10, v11, v12] (.inl a :: st) I J = (nlO (some v7) = true ∧ GO x d 38 Q 72 [v0, v1, v2, v3, v4, v5, v6, v7, some (.inl a), v9, v10, v11, v12] st I J) := (ge (A := (4, 72, 8, 0, 0)) rfl).trans (gst (Nat.le_of_ble_eq_true rfl) _)
set_option maxRecDepth 10000 in
theorem g_38_72 : GO x d 38 Q 72 [v0, v1, v2, v3, v4, v5, v6, v7, v8, v9, v10, v11, v12] st I J = GO x d 38 Q 73 [v0, v1, v2, v3, v4, v5, v6, v7, v8, v9, v10, v11, v12] (.inl (0) :: st) I J := ge (A := (0, 73, 0, 0, 0)) rfl
set_option maxRecDepth 10000 in
theorem g_38_73 : GO x d 38 Q 73 [v0, v1, v2, v3, v4, v5, v6, v7, v8, v9, v10, v11, v12] (.inl a :: st) I J = (nlO (some v8) = true ∧ GO x d 38 Q 75 [v0, v1, v2, v3, v4, v5, v6, v7, v8, some (.inl a), v10, v11, v12] st I J) := (ge (A := (4, 75, 9, 0, 0)) rfl).trans (gst (Nat.le_of_ble_eq_true rfl) _)
set_option maxRecDepth 10000 in
theorem g_38_75 : GO x d 38 Q 75 [v0, v1, v2, v3, v4, v5, v6, v7, v8, some (.inl a), v10, v11, v12] st I J = GO x d 38 Q 77 [v0, v1, v2, v3, v4, v5, v6, v7, v8, some (.inl a), v10, v11, v12] (.inl a :: st) I J := ge (A := (1, 77, 9, 0, 0)) rfl
set_option maxRecDepth 10000 in
theorem g_38_77 : GO x d 38 Q 77 [v0, some (.inr (.inr w)), v2, v3, v4, v5, v6, v7, v8, v9, v10, v11, v12] st I J = GO x d 38 Q 78 [v0, some (.inr (.inr w)), v2, v3, v4, v5, v6, v7, v8, v9, v10, v11, v12] (.inr (.inr w) :: st) I J := ge (A := (2, 78, 1, 0, 0)) rfl
set_option maxRecDepth 10000 in
theorem g_38_78 : GO x d 38 Q 78 [v0, v1, v2, v3, v4, v5, v6, v7, v8, v9, v10, v11, v12] (.inr (.inr (.inl r)) :: st) I J = (okO r 3 ∧ GO x d 38 Q 81 [v0, v1, v2, v3, v4, v5, v6, v7, v8, v9, v10, v11, v12] (.inl (I r 8) :: st) I J) := ge (A := (37, 81, 3, 8, 0)) rfl
set_option maxRecDepth 10000 in
theorem g_38_81 : GO x d 38 Q 81 [v0, v1, v2, v3, v4, v5, v6, v7, v8, v9, v10, v11, v12] (.inl b :: .inl a :: st) I J = (inR a ∧ inR b ∧ if a < b then GO x d 38 Q 84 [v0, v1, v2, v3, v4, v5, v6, v7, v8, v9, v10, v11, v12] st I J else GO x d 38 Q 274 [v0, v1, v2, v3, v4, v5, v6, v7, v8, v9, v10, v11, v12] st I J) := (ge (A := (34, 84, 274, 3, 0)) rfl).trans (ggec)
set_option maxRecDepth 10000 in
theorem g_38_84 : GO x d 38 Q 84 [v0, v1, v2, some (.inl a), v4, v5, v6, v7, v8, v9, v10, v11, v12] st I J = GO x d 38 Q 85 [v0, v1, v2, some (.inl a), v4, v5, v6, v7, v8, v9, v10, v11, v12] (.inl a :: st) I J := ge (A := (1, 85, 3, 0, 0)) rfl
set_option maxRecDepth 10000 in
theorem g_38_85 : GO x d 38 Q 85 [v0, v1, v2, v3, v4, v5, v6, v7, v8, some (.inl a), v10, v11, v12] st I J = GO x d 38 Q 87 [v0, v1, v2, v3, v4, v5, v6, v7, v8, some (.inl a), v10, v11, v12] (.inl a :: st) I J := ge (A := (1, 87, 9, 0, 0)) rfl
set_option maxRecDepth 10000 in
theorem g_38_87 : GO x d 38 Q 87 [v0, v1, v2, v3, v4, v5, v6, v7, v8, v9, v10, v11, v12] [.inl i0, .inl i1] I J = EX x d 105 [.inl i1, .inl i0] I J (fun r1 I1 J1 => GO x d 38 Q 90 [v0, v1, v2, v3, v4, v5, v6, v7, v8, v9, v10, v11, v12] (r1.toList ++ []) I1 J1) := (ge (A := (52, 90, 105, 2, 1)) rfl).trans (gtrue2 (Nat.le_of_ble_eq_true rfl) (Nat.le_of_ble_eq_true rfl))
set_option maxRecDepth 10000 in
theorem g_38_90 : GO x d 38 Q 90 [v0, v1, v2, v3, v4, v5, v6, v7, v8, v9, v10, v11, v12] (.inl a :: st) I J = (inR a ∧ if a = 0 then GO x d 38 Q 93 [v0, v1, v2, v3, v4, v5, v6, v7, v8, v9, v10, v11, v12] st I J else GO x d 38 Q 268 [v0, v1, v2, v3, v4, v5, v6, v7, v8, v9, v10, v11, v12] st I J) := (ge (A := (33, 93, 268, 1, 0)) rfl).trans (gifn (p := a = 0) inferInstance)
set_option maxRecDepth 10000 in
theorem g_38_93 : GO x d 38 Q 93 [v0, some (.inr (.inr w)), v2, v3, v4, v5, v6, v7, v8, v9, v10, v11, v12] st I J = GO x d 38 Q 94 [v0, some (.inr (.inr w)), v2, v3, v4, v5, v6, v7, v8, v9, v10, v11, v12] (.inr (.inr w) :: st) I J := ge (A := (2, 94, 1, 0, 0)) rfl
set_option maxRecDepth 10000 in
theorem g_38_94 : GO x d 38 Q 94 [v0, v1, v2, some (.inl a), v4, v5, v6, v7, v8, v9, v10, v11, v12] st I J = GO x d 38 Q 95 [v0, v1, v2, some (.inl a), v4, v5, v6, v7, v8, v9, v10, v11, v12] (.inl a :: st) I J := ge (A := (1, 95, 3, 0, 0)) rfl
set_option maxRecDepth 10000 in
theorem g_38_95 : GO x d 38 Q 95 [v0, v1, v2, v3, v4, v5, v6, v7, v8, some (.inl a), v10, v11, v12] st I J = GO x d 38 Q 97 [v0, v1, v2, v3, v4, v5, v6, v7, v8, some (.inl a), v10, v11, v12] (.inl a :: st) I J := ge (A := (1, 97, 9, 0, 0)) rfl
set_option maxRecDepth 10000 in
theorem g_38_97 : GO x d 38 Q 97 [v0, v1, v2, v3, v4, v5, v6, v7, v8, v9, v10, v11, v12] [.inl i0, .inl i1, .inr (.inr w0)] I J = EX x d 40 [.inr (.inr w0), .inl i1, .inl i0] I J (fun r1 I1 J1 => GO x d 38 Q 100 [v0, v1, v2, v3, v4, v5, v6, v7, v8, v9, v10, v11, v12] (r1.toList ++ []) I1 J1) := (ge (A := (52, 100, 40, 3, 0)) rfl).trans (gtrue2 (Nat.le_of_ble_eq_true rfl) (Nat.le_of_ble_eq_true rfl))
set_option maxRecDepth 10000 in
theorem g_38_100 : GO x d 38 Q 100 [v0, v1, v2, v3, v4, v5, v6, v7, v8, v9, v10, v11, v12] (.inl a :: st) I J = (inR a ∧ if a = 0 then GO x d 38 Q 106 [v0, v1, v2, v3, v4, v5, v6, v7, v8, v9, v10, v11, v12] st I J else GO x d 38 Q 103 [v0, v1, v2, v3, v4, v5, v6, v7, v8, v9, v10, v11, v12] st I J) := (ge (A := (33, 103, 106, 0, 0)) rfl).trans (gif (p := a = 0) inferInstance)
set_option maxRecDepth 10000 in
theorem g_38_103 : GO x d 38 Q 103 [v0, v1, v2, v3, v4, v5, v6, v7, v8, v9, v10, v11, v12] st I J = GO x d 38 Q 268 [v0, v1, v2, v3, v4, v5, v6, v7, v8, v9, v10, v11, v12] st I J := ge (A := (35, 106, 268, 0, 0)) rfl
set_option maxRecDepth 10000 in
theorem g_38_106 : GO x d 38 Q 106 [v0, v1, v2, some (.inl a), v4, v5, v6, v7, v8, v9, v10, v11, v12] st I J = GO x d 38 Q 107 [v0, v1, v2, some (.inl a), v4, v5, v6, v7, v8, v9, v10, v11, v12] (.inl a :: st) I J := ge (A := (1, 107, 3, 0, 0)) rfl
set_option maxRecDepth 10000 in
theorem g_38_107 : GO x d 38 Q 107 [v0, v1, v2, v3, v4, v5, v6, v7, v8, v9, v10, v11, v12] st I J = GO x d 38 Q 108 [v0, v1, v2, v3, v4, v5, v6, v7, v8, v9, v10, v11, v12] (.inl (1) :: st) I J := ge (A := (0, 108, 0, 0, 1)) rfl
set_option maxRecDepth 10000 in
theorem g_38_108 : GO x d 38 Q 108 [v0, v1, v2, v3, v4, v5, v6, v7, v8, some (.inl a), v10, v11, v12] st I J = GO x d 38 Q 110 [v0, v1, v2, v3, v4, v5, v6, v7, v8, some (.inl a), v10, v11, v12] (.inl a :: st) I J := ge (A := (1, 110, 9, 0, 0)) rfl
set_option maxRecDepth 10000 in
theorem g_38_110 : GO x d 38 Q 110 [v0, v1, v2, v3, v4, v5, v6, v7, v8, v9, v10, v11, v12] (.inl b :: .inl a :: st) I J = GO x d 38 Q 111 [v0, v1, v2, v3, v4, v5, v6, v7, v8, v9, v10, v11, v12] (.inl (shlI a b) :: st) I J := ge (A := (14, 111, 0, 0, 0)) rfl
set_option maxRecDepth 10000 in
theorem g_38_111 : GO x d 38 Q 111 [v0, v1, v2, v3, v4, v5, v6, v7, v8, v9, v10, v11, v12] (.inl b :: .inl a :: st) I J = GO x d 38 Q 112 [v0, v1, v2, v3, v4, v5, v6, v7, v8, v9, v10, v11, v12] (.inl (orI a b) :: st) I J := ge (A := (12, 112, 0, 0, 0)) rfl
set_option maxRecDepth 10000 in
theorem g_38_112 : GO x d 38 Q 112 [v0, v1, v2, v3, v4, v5, v6, v7, v8, v9, v10, v11, v12] (.inl a :: st) I J = (nlO (some v9) = true ∧ GO x d 38 Q 114 [v0, v1, v2, v3, v4, v5, v6, v7, v8, v9, some (.inl a), v11, v12] st I J) := (ge (A := (4, 114, 10, 0, 0)) rfl).trans (gst (Nat.le_of_ble_eq_true rfl) _)
set_option maxRecDepth 10000 in
theorem g_38_114 : GO x d 38 Q 114 [v0, v1, v2, v3, v4, v5, v6, v7, v8, v9, v10, v11, v12] st I J = GO x d 38 Q 115 [v0, v1, v2, v3, v4, v5, v6, v7, v8, v9, v10, v11, v12] (.inl (0) :: st) I J := ge (A := (0, 115, 0, 0, 0)) rfl
set_option maxRecDepth 10000 in
theorem g_38_115 : GO x d 38 Q 115 [v0, v1, v2, v3, v4, v5, v6, v7, v8, v9, v10, v11, v12] (.inl a :: st) I J = (nlO (some v10) = true ∧ GO x d 38 Q 117 [v0, v1, v2, v3, v4, v5, v6, v7, v8, v9, v10, some (.inl a), v12] st I J) := (ge (A := (4, 117, 11, 0, 0)) rfl).trans (gst (Nat.le_of_ble_eq_true rfl) _)
set_option maxRecDepth 10000 in
theorem g_38_117 : GO x d 38 Q 117 [v0, v1, v2, v3, v4, v5, v6, v7, v8, v9, v10, some (.inl a), v12] st I J = GO x d 38 Q 119 [v0, v1, v2, v3, v4, v5, v6, v7, v8, v9, v10, some (.inl a), v12] (.inl a :: st) I J := ge (A := (1, 119, 11, 0, 0)) rfl
set_option maxRecDepth 10000 in
theorem g_38_119 : GO x d 38 Q 119 [v0, some (.inr (.inr w)), v2, v3, v4, v5, v6, v7, v8, v9, v10, v11, v12] st I J = GO x d 38 Q 120 [v0, some (.inr (.inr w)), v2, v3, v4, v5, v6, v7, v8, v9, v10, v11, v12] (.inr (.inr w) :: st) I J := ge (A := (2, 120, 1, 0, 0)) rfl
set_option maxRecDepth 10000 in
theorem g_38_120 : GO x d 38 Q 120 [v0, v1, v2, v3, v4, v5, v6, v7, v8, v9, v10, v11, v12] (.inr (.inr (.inl r)) :: st) I J = (okO r 3 ∧ GO x d 38 Q 123 [v0, v1, v2, v3, v4, v5, v6, v7, v8, v9, v10, v11, v12] (.inl (I r 3) :: st) I J) := ge (A := (37, 123, 3, 3, 0)) rfl
set_option maxRecDepth 10000 in
theorem g_38_123 : GO x d 38 Q 123 [v0, v1, v2, v3, v4, v5, v6, v7, v8, v9, v10, v11, v12] (.inl b :: .inl a :: st) I J = (inR a ∧ inR b ∧ if a < b then GO x d 38 Q 126 [v0, v1, v2, v3, v4, v5, v6, v7, v8, v9, v10, v11, v12] st I J else GO x d 38 Q 229 [v0, v1, v2, v3, v4, v5, v6, v7, v8, v9, v10, v11, v12] st I J) := (ge (A := (34, 126, 229, 3, 0)) rfl).trans (ggec)
set_option maxRecDepth 10000 in
theorem g_38_126 : GO x d 38 Q 126 [v0, v1, v2, v3, v4, v5, v6, v7, some (.inl a), v9, v10, v11, v12] st I J = GO x d 38 Q 128 [v0, v1, v2, v3, v4, v5, v6, v7, some (.inl a), v9, v10, v11, v12] (.inl a :: st) I J := ge (A := (1, 128, 8, 0, 0)) rfl
set_option maxRecDepth 10000 in
theorem g_38_128 : GO x d 38 Q 128 [v0, some (.inr (.inr w)), v2, v3, v4, v5, v6, v7, v8, v9, v10, v11, v12] st I J = GO x d 38 Q 129 [v0, some (.inr (.inr w)), v2, v3, v4, v5, v6, v7, v8, v9, v10, v11, v12] (.inr (.inr w) :: st) I J := ge (A := (2, 129, 1, 0, 0)) rfl
set_option maxRecDepth 10000 in
theorem g_38_129 : GO x d 38 Q 129 [v0, v1, v2, v3, v4, v5, v6, v7, v8, v9, v10, v11, v12] (.inr (.inr (.inl r)) :: st) I J = (okF r 3 9 ∧ GO x d 38 Q 132 [v0, v1, v2, v3, v4, v5, v6, v7, v8, v9, v10, v11, v12] (.inr (.inr (.inl (rfN r 9))) :: st) I J) := (ge (A := (39, 132, 3, 9, 0)) rfl).trans (gref (f := fun q => GO x d 38 Q 132 [v0, v1, v2, v3, v4, v5, v6, v7, v8, v9, v10, v11, v12] (.inr (.inr (.inl q)) :: st) I J))
set_option maxRecDepth 10000 in
theorem g_38_132 : GO x d 38 Q 132 [v0, v1, v2, v3, v4, v5, v6, v7, v8, some (.inl a), v10, v11, v12] st I J = GO x d 38 Q 134 [v0, v1, v2, v3, v4, v5, v6, v7, v8, some (.inl a), v10, v11, v12] (.inl a :: st) I J := ge (A := (1, 134, 9, 0, 0)) rfl
set_option maxRecDepth 10000 in
theorem h_38_134 : GO x d 38 Q 134 [v0, v1, v2, v3, v4, v5, v6, v7, v8, v9, v10, v11, v12] (.inl a :: .inr (.inr (.inr q)) :: st) I J = (q < 4 ∧ 0 ≤ a ∧ a < (roA x q).1 ∧ GO x d 38 Q 135 [v0, v1, v2, v3, v4, v5, v6, v7, v8, v9, v10, v11, v12] (.inl ((roA x q).2 a.toNat) :: st) I J) := ge (A := (44, 135, 0, 0, 0)) rfl
set_option maxRecDepth 10000 in
theorem g_38_134 : GO x d 38 Q 134 [v0, v1, v2, v3, v4, v5, v6, v7, v8, v9, v10, v11, v12] (.inl a :: .inr (.inr (.inl r)) :: st) I J = (okA r 20 ∧ 0 ≤ a ∧ a < lnN r ∧ GO x d 38 Q 135 [v0, v1, v2, v3, v4, v5, v6, v7, v8, v9, v10, v11, v12] (.inl (I r a) :: st) I J) := ge (A := (44, 135, 0, 0, 0)) rfl
set_option maxRecDepth 10000 in
theorem g_38_135 : GO x d 38 Q 135 [v0, v1, v2, v3, v4, v5, v6, v7, v8, v9, v10, v11, v12] (.inl b :: .inl a :: st) I J = GO x d 38 Q 136 [v0, v1, v2, v3, v4, v5, v6, v7, v8, v9, v10, v11, v12] (.inl (andI a b) :: st) I J := ge (A := (11, 136, 0, 0, 0)) rfl
set_option maxRecDepth 10000 in
theorem g_38_136 : GO x d 38 Q 136 [v0, v1, v2, v3, v4, v5, v6, v7, v8, v9, v10, some (.inl a), v12] st I J = GO x d 38 Q 138 [v0, v1, v2, v3, v4, v5, v6, v7, v8, v9, v10, some (.inl a), v12] (.inl a :: st) I J := ge (A := (1, 138, 11, 0, 0)) rfl
set_option maxRecDepth 10000 in
theorem g_38_138 : GO x d 38 Q 138 [v0, v1, v2, v3, v4, v5, v6, v7, v8, v9, v10, v11, v12] [.inl i0, .inl i1] I J = EX x d 105 [.inl i1, .inl i0] I J (fun r1 I1 J1 => GO x d 38 Q 141 [v0, v1, v2, v3, v4, v5, v6, v7, v8, v9, v10, v11, v12] (r1.toList ++ []) I1 J1) := (ge (A := (52, 141, 105, 2, 1)) rfl).trans (gtrue2 (Nat.le_of_ble_eq_true rfl) (Nat.le_of_ble_eq_true rfl))
set_option maxRecDepth 10000 in
theorem g_38_141 : GO x d 38 Q 141 [v0, v1, v2, v3, v4, v5, v6, v7, v8, v9, v10, v11, v12] (.inl a :: st) I J = (inR a ∧ if a = 0 then GO x d 38 Q 144 [v0, v1, v2, v3, v4, v5, v6, v7, v8, v9, v10, v11, v12] st I J else GO x d 38 Q 147 [v0, v1, v2, v3, v4, v5, v6, v7, v8, v9, v10, v11, v12] st I J) := (ge (A := (33, 144, 147, 1, 0)) rfl).trans (gifn (p := a = 0) inferInstance)
set_option maxRecDepth 10000 in
theorem g_38_144 : GO x d 38 Q 144 [v0, v1, v2, v3, v4, v5, v6, v7, v8, v9, v10, v11, v12] st I J = GO x d 38 Q 223 [v0, v1, v2, v3, v4, v5, v6, v7, v8, v9, v10, v11, v12] st I J := ge (A := (35, 147, 223, 0, 0)) rfl
set_option maxRecDepth 10000 in
theorem g_38_147 : GO x d 38 Q 147 [some (.inr (.inr w)), v1, v2, v3, v4, v5, v6, v7, v8, v9, v10, v11, v12] st I J = GO x d 38 Q 148 [some (.inr (.inr w)), v1, v2, v3, v4, v5, v6, v7, v8, v9, v10, v11, v12] (.inr (.inr w) :: st) I J := ge (A := (2, 148, 0, 0, 0)) rfl
set_option maxRecDepth 10000 in
theorem g_38_148 : GO x d 38 Q 148 [v0, v1, v2, v3, v4, v5, v6, v7, v8, v9, v10, v11, v12] (.inr (.inr (.inl r)) :: st) I J = (okF r 4 0 ∧ GO x d 38 Q 151 [v0, v1, v2, v3, v4, v5, v6, v7, v8, v9, v10, v11, v12] (.inr (.inr (.inl (rfN r 0))) :: st) I J) := (ge (A := (39, 151, 4, 0, 0)) rfl).trans (gref (f := fun q => GO x d 38 Q 151 [v0, v1, v2, v3, v4, v5, v6, v7, v8, v9, v10, v11, v12] (.inr (.inr (.inl q)) :: st) I J))
set_option maxRecDepth 10000 in
theorem g_38_151 : GO x d 38 Q 151 [v0, v1, v2, v3, v4, v5, v6, v7, v8, v9, v10, some (.inl a), v12] st I J = GO x d 38 Q 153 [v0, v1, v2, v3, v4, v5, v6, v7, v8, v9, v10, some (.inl a), v12] (.inl a :: st) I J := ge (A := (1, 153, 11, 0, 0)) rfl
set_option maxRecDepth 10000 in
theorem h_38_153 : GO x d 38 Q 153 [v0, v1, v2, v3, v4, v5, v6, v7, v8, v9, v10, v11, v12] (.inl a :: .inr (.inr (.inr q)) :: st) I J = (q < 4 ∧ 0 ≤ a ∧ a < (roA x q).1 ∧ GO x d 38 Q 154 [v0, v1, v2, v3, v4, v5, v6, v7, v8, v9, v10, v11, v12] (.inl ((roA x q).2 a.toNat) :: st) I J) := ge (A := (44, 154, 0, 0, 0)) rfl
set_option maxRecDepth 10000 in
theorem g_38_153 : GO x d 38 Q 153 [v0, v1, v2, v3, v4, v5, v6, v7, v8, v9, v10, v11, v12] (.inl a :: .inr (.inr (.inl r)) :: st) I J = (okA r 20 ∧ 0 ≤ a ∧ a < lnN r ∧ GO x d 38 Q 154 [v0, v1, v2, v3, v4, v5, v6, v7, v8, v9, v10, v11, v12] (.inl (I r a) :: st) I J) := ge (A := (44, 154, 0, 0, 0)) rfl
set_option maxRecDepth 10000 in
theorem g_38_154 : GO x d 38 Q 154 [v0, v1, v2, v3, v4, v5, v6, v7, v8, v9, v10, v11, v12] (.inl a :: st) I J = (nlO (some v11) = true ∧ GO x d 38 Q 156 [v0, v1, v2, v3, v4, v5, v6, v7, v8, v9, v10, v11, some (.inl a)] st I J) := (ge (A := (4, 156, 12, 0, 0)) rfl).trans (gst (Nat.le_of_ble_eq_true rfl) _)
set_option maxRecDepth 10000 in
theorem g_38_156 : GO x d 38 Q 156 [some (.inr (.inr w)), v1, v2, v3, v4, v5, v6, v7, v8, v9, v10, v11, v12] st I J = GO x d 38 Q 157 [some (.inr (.inr w)), v1, v2, v3, v4, v5, v6, v7, v8, v9, v10, v11, v12] (.inr (.inr w) :: st) I J := ge (A := (2, 157, 0, 0, 0)) rfl
set_option maxRecDepth 10000 in
theorem g_38_157 : GO x d 38 Q 157 [v0, v1, v2, v3, v4, v5, v6, v7, v8, v9, v10, v11, v12] (.inr (.inr (.inl r)) :: st) I J = (okF r 4 0 ∧ GO x d 38 Q 160 [v0, v1, v2, v3, v4, v5, v6, v7, v8, v9, v10, v11, v12] (.inr (.inr (.inl (rfN r 0))) :: st) I J) := (ge (A := (39, 160, 4, 0, 0)) rfl).trans (gref (f := fun q => GO x d 38 Q 160 [v0, v1, v2, v3, v4, v5, v6, v7, v8, v9, v10, v11, v12] (.inr (.inr (.inl q)) :: st) I J))
set_option maxRecDepth 10000 in
theorem g_38_160 : GO x d 38 Q 160 [v0, v1, v2, v3, v4, v5, v6, v7, v8, v9, v10, some (.inl a), v12] st I J = GO x d 38 Q 162 [v0, v1, v2, v3, v4, v5, v6, v7, v8, v9, v10, some (.inl a), v12] (.inl a :: st) I J := ge (A := (1, 162, 11, 0, 0)) rfl
set_option maxRecDepth 10000 in
theorem g_38_162 : GO x d 38 Q 162 [v0, v1, v2, v3, some (.inl a), v5, v6, v7, v8, v9, v10, v11, v12] st I J = GO x d 38 Q 164 [v0, v1, v2, v3, some (.inl a), v5, v6, v7, v8, v9, v10, v11, v12] (.inl a :: st) I J := ge (A := (1, 164, 4, 0, 0)) rfl
set_option maxRecDepth 10000 in
theorem g_38_164 : GO x d 38 Q 164 [v0, v1, v2, v3, v4, v5, v6, v7, v8, v9, v10, v11, v12] (.inl b :: .inl a :: .inr (.inr (.inl r)) :: st) I J = (okA r 20 ∧ 0 ≤ a ∧ a < lnN r ∧ GO x d 38 Q 165 [v0, v1, v2, v3, v4, v5, v6, v7, v8, v9, v10, v11, v12] st (up I r a b) J) := ge (A := (45, 165, 0, 0, 0)) rfl
set_option maxRecDepth 10000 in
theorem g_38_165 : GO x d 38 Q 165 [some (.inr (.inr w)), v1, v2, v3, v4, v5, v6, v7, v8, v9, v10, v11, v12] st I J = GO x d 38 Q 166 [some (.inr (.inr w)), v1, v2, v3, v4, v5, v6, v7, v8, v9, v10, v11, v12] (.inr (.inr w) :: st) I J := ge (A := (2, 166, 0, 0, 0)) rfl
set_option maxRecDepth 10000 in
theorem g_38_166 : GO x d 38 Q 166 [v0, v1, v2, v3, v4, v5, v6, v7, v8, v9, v10, v11, v12] (.inr (.inr (.inl r)) :: st) I J = (okF r 4 1 ∧ GO x d 38 Q 169 [v0, v1, v2, v3, v4, v5, v6, v7, v8, v9, v10, v11, v12] (.inr (.inr (.inl (rfN r 1))) :: st) I J) := (ge (A := (39, 169, 4, 1, 0)) rfl).trans (gref (f := fun q => GO x d 38 Q 169 [v0, v1, v2, v3, v4, v5, v6, v7, v8, v9, v10, v11, v12] (.inr (.inr (.inl q)) :: st) I J))
set_option maxRecDepth 10000 in
theorem g_38_169 : GO x d 38 Q 169 [v0, v1, some (.inl a), v3, v4, v5, v6, v7, v8, v9, v10, v11, v12] st I J = GO x d 38 Q 170 [v0, v1, some (.inl a), v3, v4, v5, v6, v7, v8, v9, v10, v11, v12] (.inl a :: st) I J := ge (A := (1, 170, 2, 0, 0)) rfl
set_option maxRecDepth 10000 in
theorem g_38_170 : GO x d 38 Q 170 [v0, v1, v2, v3, v4, v5, v6, v7, v8, v9, v10, v11, v12] st I J = GO x d 38 Q 172 [v0, v1, v2, v3, v4, v5, v6, v7, v8, v9, v10, v11, v12] (.inl (16) :: st) I J := ge (A := (0, 172, 0, 0, 16)) rfl
set_option maxRecDepth 10000 in
theorem g_38_172 : GO x d 38 Q 172 [v0, v1, v2, v3, v4, v5, v6, v7, v8, some (.inl a), v10, v11, v12] st I J = GO x d 38 Q 174 [v0, v1, v2, v3, v4, v5, v6, v7, v8, some (.inl a), v10, v11, v12] (.inl a :: st) I J := ge (A := (1, 174, 9, 0, 0)) rfl
set_option maxRecDepth 10000 in
theorem g_38_174 : GO x d 38 Q 174 [v0, v1, v2, v3, v4, v5, v6, v7, v8, v9, v10, v11, v12] (.inl b :: .inl a :: st) I J = GO x d 38 Q 175 [v0, v1, v2, v3, v4, v5, v6, v7, v8, v9, v10, v11, v12] (.inl (a * b) :: st) I J := ge (A := (10, 175, 0, 0, 0)) rfl
set_option maxRecDepth 10000 in
theorem g_38_175 : GO x d 38 Q 175 [v0, v1, v2, v3, v4, v5, v6, v7, v8, v9, v10, some (.inl a), v12] st I J = GO x d 38 Q 177 [v0, v1, v2, v3, v4, v5, v6, v7, v8, v9, v10, some (.inl a), v12] (.inl a :: st) I J := ge (A := (1, 177, 11, 0, 0)) rfl
set_option maxRecDepth 10000 in
theorem g_38_177 : GO x d 38 Q 177 [v0, v1, v2, v3, v4, v5, v6, v7, v8, v9, v10, v11, v12] (.inl b :: .inl a :: st) I J = GO x d 38 Q 178 [v0, v1, v2, v3, v4, v5, v6, v7, v8, v9, v10, v11, v12] (.inl (a + b) :: st) I J := ge (A := (8, 178, 0, 0, 0)) rfl
set_option maxRecDepth 10000 in
theorem g_38_178 : GO x d 38 Q 178 [v0, v1, v2, v3, v4, v5, v6, v7, v8, v9, v10, v11, v12] (.inl b :: .inl a :: .inr (.inr (.inl r)) :: st) I J = (okA r 20 ∧ 0 ≤ a ∧ a < lnN r ∧ GO x d 38 Q 179 [v0, v1, v2, v3, v4, v5, v6, v7, v8, v9, v10, v11, v12] st (up I r a b) J) := ge (A := (45, 179, 0, 0, 0)) rfl
set_option maxRecDepth 10000 in
theorem g_38_179 : GO x d 38 Q 179 [some (.inr (.inr w)), v1, v2, v3, v4, v5, v6, v7, v8, v9, v10, v11, v12] st I J = GO x d 38 Q 180 [some (.inr (.inr w)), v1, v2, v3, v4, v5, v6, v7, v8, v9, v10, v11, v12] (.inr (.inr w) :: st) I J := ge (A := (2, 180, 0, 0, 0)) rfl
set_option maxRecDepth 10000 in
theorem g_38_180 : GO x d 38 Q 180 [v0, some (.inr (.inr w)), v2, v3, v4, v5, v6, v7, v8, v9, v10, v11, v12] st I J = GO x d 38 Q 181 [v0, some (.inr (.inr w)), v2, v3, v4, v5, v6, v7, v8, v9, v10, v11, v12] (.inr (.inr w) :: st) I J := ge (A := (2, 181, 1, 0, 0)) rfl
set_option maxRecDepth 10000 in
theorem g_38_181 : GO x d 38 Q 181 [v0, v1, some (.inl a), v3, v4, v5, v6, v7, v8, v9, v10, v11, v12] st I J = GO x d 38 Q 182 [v0, v1, some (.inl a), v3, v4, v5, v6, v7, v8, v9, v10, v11, v12] (.inl a :: st) I J := ge (A := (1, 182, 2, 0, 0)) rfl
set_option maxRecDepth 10000 in
theorem g_38_182 : GO x d 38 Q 182 [v0, v1, v2, v3, v4, v5, v6, v7, v8, v9, v10, v11, v12] st I J = GO x d 38 Q 183 [v0, v1, v2, v3, v4, v5, v6, v7, v8, v9, v10, v11, v12] (.inl (1) :: st) I J := ge (A := (0, 183, 0, 0, 1)) rfl
set_option maxRecDepth 10000 in
theorem g_38_183 : GO x d 38 Q 183 [v0, v1, v2, v3, v4, v5, v6, v7, v8, v9, v10, v11, v12] (.inl b :: .inl a :: st) I J = GO x d 38 Q 184 [v0, v1, v2, v3, v4, v5, v6, v7, v8, v9, v10, v11, v12] (.inl (a + b) :: st) I J := ge (A := (8, 184, 0, 0, 0)) rfl
set_option maxRecDepth 10000 in
theorem g_38_184 : GO x d 38 Q 184 [v0, v1, v2, v3, v4, v5, v6, v7, v8, v9, some (.inl a), v11, v12] st I J = GO x d 38 Q 186 [v0, v1, v2, v3, v4, v5, v6, v7, v8, v9, some (.inl a), v11, v12] (.inl a :: st) I J := ge (A := (1, 186, 10, 0, 0)) rfl
set_option maxRecDepth 10000 in
theorem g_38_186 : GO x d 38 Q 186 [v0, v1, v2, v3, some (.inl a), v5, v6, v7, v8, v9, v10, v11, v12] st I J = GO x d 38 Q 188 [v0, v1, v2, v3, some (.inl a), v5, v6, v7, v8, v9, v10, v11, v12] (.inl a :: st) I J := ge (A := (1, 188, 4, 0, 0)) rfl
set_option maxRecDepth 10000 in
theorem g_38_188 : GO x d 38 Q 188 [v0, some (.inr (.inr w)), v2, v3, v4, v5, v6, v7, v8, v9, v10, v11, v12] st I J = GO x d 38 Q 189 [v0, some (.inr (.inr w)), v2, v3, v4, v5, v6, v7, v8, v9, v10, v11, v12] (.inr (.inr w) :: st) I J := ge (A := (2, 189, 1, 0, 0)) rfl
set_option maxRecDepth 10000 in
theorem g_38_189 : GO x d 38 Q 189 [v0, v1, v2, v3, v4, v5, v6, v7, v8, v9, v10, some (.inl a), v12] st I J = GO x d 38 Q 191 [v0, v1, v2, v3, v4, v5, v6, v7, v8, v9, v10, some (.inl a), v12] (.inl a :: st) I J := ge (A := (1, 191, 11, 0, 0)) rfl
set_option maxRecDepth 10000 in
theorem g_38_191 : GO x d 38 Q 191 [v0, v1, v2, v3, v4, v5, v6, v7, v8, v9, v10, v11, v12] [.inl i0, .inr (.inr (.inl r)), .inl i1, .inl i2, .inl i3, .inr (.inr w0), .inr (.inr w1)] I J = (okO r 3 ∧ EX x d 25 [.inr (.inr (.inl r)), .inl i0] I J (fun r1 I1 J1 => GO x d 38 Q 194 [v0, v1, v2, v3, v4, v5, v6, v7, v8, v9, v10, v11, v12] (r1.toList ++ [.inl i1, .inl i2, .inl i3, .inr (.inr w0), .inr (.inr w1)]) I1 J1)) := (ge (A := (53, 194, 25, 1, 0)) rfl).trans (gtrue (Nat.le_of_ble_eq_true rfl))
set_option maxRecDepth 10000 in
theorem g_38_194 : GO x d 38 Q 194 [v0, v1, v2, v3, v4, v5, v6, v7, v8, v9, v10, v11, v12] (.inl b :: .inl a :: st) I J = GO x d 38 Q 195 [v0, v1, v2, v3, v4, v5, v6, v7, v8, v9, v10, v11, v12] (.inl (a + b) :: st) I J := ge (A := (8, 195, 0, 0, 0)) rfl
set_option maxRecDepth 10000 in
theorem g_38_195 : GO x d 38 Q 195 [v0, some (.inr (.inr w)), v2, v3, v4, v5, v6, v7, v8, v9, v10, v11, v12] st I J = GO x d 38 Q 196 [v0, some (.inr (.inr w)), v2, v3, v4, v5, v6, v7, v8, v9, v10, v11, v12] (.inr (.inr w) :: st) I J := ge (A := (2, 196, 1, 0, 0)) rfl
set_option maxRecDepth 10000 in
theorem g_38_196 : GO x d 38 Q 196 [v0, v1, v2, v3, v4, v5, v6, v7, v8, v9, v10, v11, v12] (.inr (.inr (.inl r)) :: st) I J = (okF r 3 5 ∧ GO x d 38 Q 199 [v0, v1, v2, v3, v4, v5, v6, v7, v8, v9, v10, v11, v12] (.inr (.inr (.inl (rfN r 5))) :: st) I J) := (ge (A := (39, 199, 3, 5, 0)) rfl).trans (gref (f := fun q => GO x d 38 Q 199 [v0, v1, v2, v3, v4, v5, v6, v7, v8, v9, v10, v11, v12] (.inr (.inr (.inl q)) :: st) I J))
set_option maxRecDepth 10000 in
theorem g_38_199 : GO x d 38 Q 199 [v0, v1, v2, v3, v4, v5, v6, v7, v8, v9, v10, some (.inl a), v12] st I J = GO x d 38 Q 201 [v0, v1, v2, v3, v4, v5, v6, v7, v8, v9, v10, some (.inl a), v12] (.inl a :: st) I J := ge (A := (1, 201, 11, 0, 0)) rfl
set_option maxRecDepth 10000 in
theorem h_38_201 : GO x d 38 Q 201 [v0, v1, v2, v3, v4, v5, v6, v7, v8, v9, v10, v11, v12] (.inl a :: .inr (.inr (.inr q)) :: st) I J = (q < 4 ∧ 0 ≤ a ∧ a < (roA x q).1 ∧ GO x d 38 Q 202 [v0, v1, v2, v3, v4, v5, v6, v7, v8, v9, v10, v11, v12] (.inl ((roA x q).2 a.toNat) :: st) I J) := ge (A := (44, 202, 0, 0, 0)) rfl
set_option maxRecDepth 10000 in
theorem g_38_201 : GO x d 38 Q 201 [v0, v1, v2, v3, v4, v5, v6, v7, v8, v9, v10, v11, v12] (.inl a :: .inr (.inr (.inl r)) :: st) I J = (okA r 20 ∧ 0 ≤ a ∧ a < lnN r ∧ GO x d 38 Q 202 [v0, v1, v2, v3, v4, v5, v6, v7, v8, v9, v10, v11, v12] (.inl (I r a) :: st) I J) := ge (A := (44, 202, 0, 0, 0)) rfl
set_option maxRecDepth 10000 in
theorem g_38_202 : GO x d 38 Q 202 [v0, v1, v2, v3, v4, v5, some (.inl a), v7, v8, v9, v10, v11, v12] st I J = GO x d 38 Q 204 [v0, v1, v2, v3, v4, v5, some (.inl a), v7, v8, v9, v10, v11, v12] (.inl a :: st) I J := ge (A := (1, 204, 6, 0, 0)) rfl
set_option maxRecDepth 10000 in
theorem g_38_204 : GO x d 38 Q 204 [v0, some (.inr (.inr w)), v2, v3, v4, v5, v6, v7, v8, v9, v10, v11, v12] st I J = GO x d 38 Q 205 [v0, some (.inr (.inr w)), v2, v3, v4, v5, v6, v7, v8, v9, v10, v11, v12] (.inr (.inr w) :: st) I J := ge (A := (2, 205, 1, 0, 0)) rfl
set_option maxRecDepth 10000 in
theorem g_38_205 : GO x d 38 Q 205 [v0, v1, v2, v3, v4, v5, v6, v7, v8, v9, v10, some (.inl a), v12] st I J = GO x d 38 Q 207 [v0, v1, v2, v3, v4, v5, v6, v7, v8, v9, v10, some (.inl a), v12] (.inl a :: st) I J := ge (A := (1, 207, 11, 0, 0)) rfl
set_option maxRecDepth 10000 in
theorem g_38_207 : GO x d 38 Q 207 [v0, v1, v2, v3, v4, v5, v6, v7, v8, v9, v10, v11, v12] [.inl i0, .inr (.inr (.inl r)), .inl i1, .inl i2, .inl i3, .inl i4, .inl i5, .inr (.inr w0), .inr (.inr w1)] I J = (okO r 3 ∧ EX x d 26 [.inr (.inr (.inl r)), .inl i0] I J (fun r1 I1 J1 => GO x d 38 Q 210 [v0, v1, v2, v3, v4, v5, v6, v7, v8, v9, v10, v11, v12] (r1.toList ++ [.inl i1, .inl i2, .inl i3, .inl i4, .inl i5, .inr (.inr w0), .inr (.inr w1)]) I1 J1)) := (ge (A := (53, 210, 26, 1, 0)) rfl).trans (gtrue (Nat.le_of_ble_eq_true rfl))
set_option maxRecDepth 10000 in
theorem g_38_210 : GO x d 38 Q 210 [v0, v1, v2, v3, v4, v5, v6, v7, v8, v9, v10, v11, v12] (.inl b :: .inl a :: st) I J = GO x d 38 Q 211 [v0, v1, v2, v3, v4, v5, v6, v7, v8, v9, v10, v11, v12] (.inl (a + b) :: st) I J := ge (A := (8, 211, 0, 0, 0)) rfl
set_option maxRecDepth 10000 in
theorem g_38_211 : GO x d 38 Q 211 [v0, v1, v2, v3, v4, v5, v6, v7, v8, v9, v10, v11, v12] [.inl i0, .inl i1, .inl i2, .inl i3, .inl i4, .inr (.inr w0), .inr (.inr w1)] I J = EX x d 38 [.inr (.inr w1), .inr (.inr w0), .inl i4, .inl i3, .inl i2, .inl i1, .inl i0] I J (fun r1 I1 J1 => GO x d 38 Q 214 [v0, v1, v2, v3, v4, v5, v6, v7, v8, v9, v10, v11, v12] (r1.toList ++ []) I1 J1) := (ge (A := (52, 214, 38, 7, 0)) rfl).trans (gtrue2 (Nat.le_of_ble_eq_true rfl) (Nat.le_of_ble_eq_true rfl))
set_option maxRecDepth 10000 in
theorem g_38_214 : GO x d 38 Q 214 [some (.inr (.inr w)), v1, v2, v3, v4, v5, v6, v7, v8, v9, v10, v11, v12] st I J = GO x d 38 Q 215 [some (.inr (.inr w)), v1, v2, v3, v4, v5, v6, v7, v8, v9, v10, v11, v12] (.inr (.inr w) :: st) I J := ge (A := (2, 215, 0, 0, 0)) rfl
set_option maxRecDepth 10000 in
theorem g_38_215 : GO x d 38 Q 215 [v0, v1, v2, v3, v4, v5, v6, v7, v8, v9, v10, v11, v12] (.inr (.inr (.inl r)) :: st) I J = (okF r 4 0 ∧ GO x d 38 Q 218 [v0, v1, v2, v3, v4, v5, v6, v7, v8, v9, v10, v11, v12] (.inr (.inr (.inl (rfN r 0))) :: st) I J) := (ge (A := (39, 218, 4, 0, 0)) rfl).trans (gref (f := fun q => GO x d 38 Q 218 [v0, v1, v2, v3, v4, v5, v6, v7, v8, v9, v10, v11, v12] (.inr (.inr (.inl q)) :: st) I J))
set_option maxRecDepth 10000 in
theorem g_38_218 : GO x d 38 Q 218 [v0, v1, v2, v3, v4, v5, v6, v7, v8, v9, v10, some (.inl a), v12] st I J = GO x d 38 Q 220 [v0, v1, v2, v3, v4, v5, v6, v7, v8, v9, v10, some (.inl a), v12] (.inl a :: st) I J := ge (A := (1, 220, 11, 0, 0)) rfl
set_option maxRecDepth 10000 in
theorem g_38_220 : GO x d 38 Q 220 [v0, v1, v2, v3, v4, v5, v6, v7, v8, v9, v10, v11, some (.inl a)] st I J = GO x d 38 Q 222 [v0, v1, v2, v3, v4, v5, v6, v7, v8, v9, v10, v11, some (.inl a)] (.inl a :: st) I J := ge (A := (1, 222, 12, 0, 0)) rfl
set_option maxRecDepth 10000 in
theorem g_38_222 : GO x d 38 Q 222 [v0, v1, v2, v3, v4, v5, v6, v7, v8, v9, v10, v11, v12] (.inl b :: .inl a :: .inr (.inr (.inl r)) :: st) I J = (okA r 20 ∧ 0 ≤ a ∧ a < lnN r ∧ GO x d 38 Q 223 [v0, v1, v2, v3, v4, v5, v6, v7, v8, v9, v10, v11, v12] st (up I r a b) J) := ge (A := (45, 223, 0, 0, 0)) rfl
set_option maxRecDepth 10000 in
theorem g_38_223 : GO x d 38 Q 223 [v0, v1, v2, v3, v4, v5, v6, v7, v8, v9, v10, some (.inl a), v12] st I J = (nlO (some v10) = true ∧ GO x d 38 Q 226 [v0, v1, v2, v3, v4, v5, v6, v7, v8, v9, v10, some (.inl (a + (1))), v12] st I J) := ge (A := (7, 226, 11, 0, 1)) rfl
set_option maxRecDepth 10000 in
theorem g_38_226 : GO x d 38 Q 226 [v0, v1, v2, v3, v4, v5, v6, v7, v8, v9, v10, v11, v12] st I J = GO x d 38 Q 117 [v0, v1, v2, v3, v4, v5, v6, v7, v8, v9, v10, v11, v12] st I J := ge (A := (35, 229, 117, 0, 0)) rfl
set_option maxRecDepth 10000 in
theorem g_38_229 : GO x d 38 Q 229 [v0, v1, v2, v3, v4, v5, some (.inl a), v7, v8, v9, v10, v11, v12] st I J = GO x d 38 Q 231 [v0, v1, v2, v3, v4, v5, some (.inl a), v7, v8, v9, v10, v11, v12] (.inl a :: st) I J := ge (A := (1, 231, 6, 0, 0)) rfl
set_option maxRecDepth 10000 in
theorem g_38_231 : GO x d 38 Q 231 [v0, v1, v2, v3, v4, v5, v6, v7, v8, v9, v10, v11, v12] (.inl a :: st) I J = (inR a ∧ if 0 < a then GO x d 38 Q 234 [v0, v1, v2, v3, v4, v5, v6, v7, v8, v9, v10, v11, v12] st I J else GO x d 38 Q 268 [v0, v1, v2, v3, v4, v5, v6, v7, v8, v9, v10, v11, v12] st I J) := (ge (A := (33, 234, 268, 5, 0)) rfl).trans (gge)
set_option maxRecDepth 10000 in
theorem g_38_234 : GO x d 38 Q 234 [some (.inr (.inr w)), v1, v2, v3, v4, v5, v6, v7, v8, v9, v10, v11, v12] st I J = GO x d 38 Q 235 [some (.inr (.inr w)), v1, v2, v3, v4, v5, v6, v7, v8, v9, v10, v11, v12] (.inr (.inr w) :: st) I J := ge (A := (2, 235, 0, 0, 0)) rfl
set_option maxRecDepth 10000 in
theorem g_38_235 : GO x d 38 Q 235 [v0, v1, v2, v3, v4, v5, v6, v7, v8, v9, v10, v11, v12] (.inr (.inr (.inl r)) :: st) I J = (okF r 4 1 ∧ GO x d 38 Q 238 [v0, v1, v2, v3, v4, v5, v6, v7, v8, v9, v10, v11, v12] (.inr (.inr (.inl (rfN r 1))) :: st) I J) := (ge (A := (39, 238, 4, 1, 0)) rfl).trans (gref (f := fun q => GO x d 38 Q 238 [v0, v1, v2, v3, v4, v5, v6, v7, v8, v9, v10, v11, v12] (.inr (.inr (.inl q)) :: st) I J))
set_option maxRecDepth 10000 in
theorem g_38_238 : GO x d 38 Q 238 [v0, v1, some (.inl a), v3, v4, v5, v6, v7, v8, v9, v10, v11, v12] st I J = GO x d 38 Q 239 [v0, v1, some (.inl a), v3, v4, v5, v6, v7, v8, v9, v10, v11, v12] (.inl a :: st) I J := ge (A := (1, 239, 2, 0, 0)) rfl
set_option maxRecDepth 10000 in
theorem g_38_239 : GO x d 38 Q 239 [v0, v1, v2, v3, v4, v5, v6, v7, v8, v9, v10, v11, v12] st I J = GO x d 38 Q 241 [v0, v1, v2, v3, v4, v5, v6, v7, v8, v9, v10, v11, v12] (.inl (16) :: st) I J := ge (A := (0, 241, 0, 0, 16)) rfl
set_option maxRecDepth 10000 in
theorem g_38_241 : GO x d 38 Q 241 [v0, v1, v2, v3, v4, v5, v6, v7, v8, some (.inl a), v10, v11, v12] st I J = GO x d 38 Q 243 [v0, v1, v2, v3, v4, v5, v6, v7, v8, some (.inl a), v10, v11, v12] (.inl a :: st) I J := ge (A := (1, 243, 9, 0, 0)) rfl
set_option maxRecDepth 10000 in
theorem g_38_243 : GO x d 38 Q 243 [v0, v1, v2, v3, v4, v5, v6, v7, v8, v9, v10, v11, v12] (.inl b :: .inl a :: st) I J = GO x d 38 Q 244 [v0, v1, v2, v3, v4, v5, v6, v7, v8, v9, v10, v11, v12] (.inl (a * b) :: st) I J := ge (A := (10, 244, 0, 0, 0)) rfl
set_option maxRecDepth 10000 in
theorem g_38_244 : GO x d 38 Q 244 [v0, v1, v2, v3, v4, v5, v6, v7, v8, v9, v10, v11, v12] st I J = GO x d 38 Q 246 [v0, v1, v2, v3, v4, v5, v6, v7, v8, v9, v10, v11, v12] (.inl (8) :: st) I J := ge (A := (0, 246, 0, 0, 8)) rfl
set_option maxRecDepth 10000 in
theorem g_38_246 : GO x d 38 Q 246 [v0, v1, v2, v3, v4, v5, v6, v7, v8, v9, v10, v11, v12] (.inl b :: .inl a :: st) I J = GO x d 38 Q 247 [v0, v1, v2, v3, v4, v5, v6, v7, v8, v9, v10, v11, v12] (.inl (a + b) :: st) I J := ge (A := (8, 247, 0, 0, 0)) rfl
set_option maxRecDepth 10000 in
theorem g_38_247 : GO x d 38 Q 247 [v0, v1, v2, v3, v4, v5, v6, v7, v8, v9, v10, v11, v12] (.inl b :: .inl a :: .inr (.inr (.inl r)) :: st) I J = (okA r 20 ∧ 0 ≤ a ∧ a < lnN r ∧ GO x d 38 Q 248 [v0, v1, v2, v3, v4, v5, v6, v7, v8, v9, v10, v11, v12] st (up I r a b) J) := ge (A := (45, 248, 0, 0, 0)) rfl
set_option maxRecDepth 10000 in
theorem g_38_248 : GO x d 38 Q 248 [some (.inr (.inr w)), v1, v2, v3, v4, v5, v6, v7, v8, v9, v10, v11, v12] st I J = GO x d 38 Q 249 [some (.inr (.inr w)), v1, v2, v3, v4, v5, v6, v7, v8, v9, v10, v11, v12] (.inr (.inr w) :: st) I J := ge (A := (2, 249, 0, 0, 0)) rfl
set_option maxRecDepth 10000 in
theorem g_38_249 : GO x d 38 Q 249 [v0, some (.inr (.inr w)), v2, v3, v4, v5, v6, v7, v8, v9, v10, v11, v12] st I J = GO x d 38 Q 250 [v0, some (.inr (.inr w)), v2, v3, v4, v5, v6, v7, v8, v9, v10, v11, v12] (.inr (.inr w) :: st) I J := ge (A := (2, 250, 1, 0, 0)) rfl
set_option maxRecDepth 10000 in
theorem g_38_250 : GO x d 38 Q 250 [v0, v1, some (.inl a), v3, v4, v5, v6, v7, v8, v9, v10, v11, v12] st I J = GO x d 38 Q 251 [v0, v1, some (.inl a), v3, v4, v5, v6, v7, v8, v9, v10, v11, v12] (.inl a :: st) I J := ge (A := (1, 251, 2, 0, 0)) rfl
set_option maxRecDepth 10000 in
theorem g_38_251 : GO x d 38 Q 251 [v0, v1, v2, v3, v4, v5, v6, v7, v8, v9, v10, v11, v12] st I J = GO x d 38 Q 252 [v0, v1, v2, v3, v4, v5, v6, v7, v8, v9, v10, v11, v12] (.inl (1) :: st) I J := ge (A := (0, 252, 0, 0, 1)) rfl
set_option maxRecDepth 10000 in
theorem g_38_252 : GO x d 38 Q 252 [v0, v1, v2, v3, v4, v5, v6, v7, v8, v9, v10, v11, v12] (.inl b :: .inl a :: st) I J = GO x d 38 Q 253 [v0, v1, v2, v3, v4, v5, v6, v7, v8, v9, v10, v11, v12] (.inl (a + b) :: st) I J := ge (A := (8, 253, 0, 0, 0)) rfl
set_option maxRecDepth 10000 in
theorem g_38_253 : GO x d 38 Q 253 [v0, v1, v2, v3, v4, v5, v6, v7, v8, v9, some (.inl a), v11, v12] st I J = GO x d 38 Q 255 [v0, v1, v2, v3, v4, v5, v6, v7, v8, v9, some (.inl a), v11, v12] (.inl a :: st) I J := ge (A := (1, 255, 10, 0, 0)) rfl
set_option maxRecDepth 10000 in
theorem g_38_255 : GO x d 38 Q 255 [v0, v1, v2, v3, some (.inl a), v5, v6, v7, v8, v9, v10, v11, v12] st I J = GO x d 38 Q 257 [v0, v1, v2, v3, some (.inl a), v5, v6, v7, v8, v9, v10, v11, v12] (.inl a :: st) I J := ge (A := (1, 257, 4, 0, 0)) rfl
set_option maxRecDepth 10000 in
theorem g_38_257 : GO x d 38 Q 257 [v0, v1, v2, v3, v4, v5, v6, v7, v8, v9, v10, v11, v12] st I J = GO x d 38 Q 258 [v0, v1, v2, v3, v4, v5, v6, v7, v8, v9, v10, v11, v12] (.inl (1) :: st) I J := ge (A := (0, 258, 0, 0, 1)) rfl
set_option maxRecDepth 10000 in
theorem g_38_258 : GO x d 38 Q 258 [v0, v1, v2, v3, v4, v5, v6, v7, v8, v9, v10, v11, v12] (.inl b :: .inl a :: st) I J = GO x d 38 Q 259 [v0, v1, v2, v3, v4, v5, v6, v7, v8, v9, v10, v11, v12] (.inl (a + b) :: st) I J := ge (A := (8, 259, 0, 0, 0)) rfl
set_option maxRecDepth 10000 in
theorem g_38_259 : GO x d 38 Q 259 [v0, v1, v2, v3, v4, some (.inl a), v6, v7, v8, v9, v10, v11, v12] st I J = GO x d 38 Q 261 [v0, v1, v2, v3, v4, some (.inl a), v6, v7, v8, v9, v10, v11, v12] (.inl a :: st) I J := ge (A := (1, 261, 5, 0, 0)) rfl
set_option maxRecDepth 10000 in
theorem g_38_261 : GO x d 38 Q 261 [v0, v1, v2, v3, v4, v5, some (.inl a), v7, v8, v9, v10, v11, v12] st I J = GO x d 38 Q 263 [v0, v1, v2, v3, v4, v5, some (.inl a), v7, v8, v9, v10, v11, v12] (.inl a :: st) I J := ge (A := (1, 263, 6, 0, 0)) rfl
set_option maxRecDepth 10000 in
theorem g_38_263 : GO x d 38 Q 263 [v0, v1, v2, v3, v4, v5, v6, v7, v8, v9, v10, v11, v12] st I J = GO x d 38 Q 264 [v0, v1, v2, v3, v4, v5, v6, v7, v8, v9, v10, v11, v12] (.inl (1) :: st) I J := ge (A := (0, 264, 0, 0, 1)) rfl
set_option maxRecDepth 10000 in
theorem g_38_264 : GO x d 38 Q 264 [v0, v1, v2, v3, v4, v5, v6, v7, v8, v9, v10, v11, v12] (.inl b :: .inl a :: st) I J = GO x d 38 Q 265 [v0, v1, v2, v3, v4, v5, v6, v7, v8, v9, v10, v11, v12] (.inl (a - b) :: st) I J := ge (A := (9, 265, 0, 0, 0)) rfl
set_option maxRecDepth 10000 in
theorem g_38_265 : GO x d 38 Q 265 [v0, v1, v2, v3, v4, v5, v6, v7, v8, v9, v10, v11, v12] [.inl i0, .inl i1, .inl i2, .inl i3, .inl i4, .inr (.inr w0), .inr (.inr w1)] I J = EX x d 38 [.inr (.inr w1), .inr (.inr w0), .inl i4, .inl i3, .inl i2, .inl i1, .inl i0] I J (fun r1 I1 J1 => GO x d 38 Q 268 [v0, v1, v2, v3, v4, v5, v6, v7, v8, v9, v10, v11, v12] (r1.toList ++ []) I1 J1) := (ge (A := (52, 268, 38, 7, 0)) rfl).trans (gtrue2 (Nat.le_of_ble_eq_true rfl) (Nat.le_of_ble_eq_true rfl))
set_option maxRecDepth 10000 in
theorem g_38_268 : GO x d 38 Q 268 [v0, v1, v2, v3, v4, v5, v6, v7, v8, some (.inl a), v10, v11, v12] st I J = (nlO (some v8) = true ∧ GO x d 38 Q 271 [v0, v1, v2, v3, v4, v5, v6, v7, v8, some (.inl (a + (1))), v10, v11, v12] st I J) := ge (A := (7, 271, 9, 0, 1)) rfl
set_option maxRecDepth 10000 in
theorem g_38_271 : GO x d 38 Q 271 [v0, v1, v2, v3, v4, v5, v6, v7, v8, v9, v10, v11, v12] st I J = GO x d 38 Q 75 [v0, v1, v2, v3, v4, v5, v6, v7, v8, v9, v10, v11, v12] st I J := ge (A := (35, 274, 75, 0, 0)) rfl
set_option maxRecDepth 10000 in
theorem g_38_274 : GO x d 38 Q 274 [v0, v1, v2, v3, v4, v5, v6, v7, v8, v9, v10, v11, v12] [] I J = Q none I J := ge (A := (57, 275, 0, 0, 0)) rfl
set_option maxRecDepth 10000 in
theorem e_38 : EX x (d + 1) 38 [.inr (.inr w0), .inr (.inr w1), .inl i0, .inl i1, .inl i2, .inl i3, .inl i4] I J Q = GO x d 38 Q 0 [some (.inr (.inr w0)), some (.inr (.inr w1)), some (.inl i0), some (.inl i1), some (.inl i2), some (.inl i3), some (.inl i4), none, none, none, none, none, none] [] I J := ex_eq (Nat.le_of_ble_eq_true rfl) rfl (Nat.le_of_ble_eq_true rfl) rfl
set_option maxRecDepth 10000 in
theorem g_39_0 : GO x d 39 Q 0 [some (.inr (.inr w)), v1, v2] st I J = GO x d 39 Q 1 [some (.inr (.inr w)), v1, v2] (.inr (.inr w) :: st) I J := ge (A := (2, 1, 0, 0, 0)) rfl
set_option maxRecDepth 10000 in
theorem g_39_1 : GO x d 39 Q 1 [v0, v1, v2] (.inr (.inr (.inl r)) :: st) I J = (okF r 4 1 ∧ GO x d 39 Q 4 [v0, v1, v2] (.inr (.inr (.inl (rfN r 1))) :: st) I J) := (ge (A := (39, 4, 4, 1, 0)) rfl).trans (gref (f := fun q => GO x d 39 Q 4 [v0, v1, v2] (.inr (.inr (.inl q)) :: st) I J))
set_option maxRecDepth 10000 in
theorem g_39_4 : GO x d 39 Q 4 [v0, v1, v2] st I J = GO x d 39 Q 5 [v0, v1, v2] (.inl (0) :: st) I J := ge (A := (0, 5, 0, 0, 0)) rfl
set_option maxRecDepth 10000 in
theorem g_39_5 : GO x d 39 Q 5 [some (.inr (.inr w)), v1, v2] st I J = GO x d 39 Q 6 [some (.inr (.inr w)), v1, v2] (.inr (.inr w) :: st) I J := ge (A := (2, 6, 0, 0, 0)) rfl
set_option maxRecDepth 10000 in
theorem g_39_6 : GO x d 39 Q 6 [v0, v1, v2] (.inr (.inr (.inl r)) :: st) I J = (okF r 4 2 ∧ GO x d 39 Q 9 [v0, v1, v2] (.inr (.inr (.inl (rfN r 2))) :: st) I J) := (ge (A := (39, 9, 4, 2, 0)) rfl).trans (gref (f := fun q => GO x d 39 Q 9 [v0, v1, v2] (.inr (.inr (.inl q)) :: st) I J))
set_option maxRecDepth 10000 in
theorem g_39_9 : GO x d 39 Q 9 [v0, v1, v2] st I J = GO x d 39 Q 10 [v0, v1, v2] (.inl (0) :: st) I J := ge (A := (0, 10, 0, 0, 0)) rfl
set_option maxRecDepth 10000 in
theorem g_39_10 : GO x d 39 Q 10 [v0, v1, v2] st I J = GO x d 39 Q 11 [v0, v1, v2] (.inl (5) :: st) I J := ge (A := (0, 11, 0, 0, 5)) rfl
set_option maxRecDepth 10000 in
theorem g_39_11 : GO x d 39 Q 11 [v0, v1, v2] (.inl e :: .inl b :: .inr (.inr (.inl q)) :: .inl a :: .inr (.inr (.inl r)) :: st) I J = (catS st ≤ 8 ∧ okA r 20 ∧ okA q 20 ∧ 0 ≤ e ∧ 0 ≤ a ∧ 0 ≤ b ∧ a + e ≤ lnN r ∧ b + e ≤ lnN q ∧ GO x d 39 Q 14 [v0, v1, v2] st (cpI I q b e r a) J) := ge (A := (54, 14, 0, 0, 0)) rfl
set_option maxRecDepth 10000 in
theorem g_39_14 : GO x d 39 Q 14 [some (.inr (.inr w)), v1, v2] st I J = GO x d 39 Q 15 [some (.inr (.inr w)), v1, v2] (.inr (.inr w) :: st) I J := ge (A := (2, 15, 0, 0, 0)) rfl
set_option maxRecDepth 10000 in
theorem g_39_15 : GO x d 39 Q 15 [v0, some (.inl a), v2] st I J = GO x d 39 Q 16 [v0, some (.inl a), v2] (.inl a :: st) I J := ge (A := (1, 16, 1, 0, 0)) rfl
set_option maxRecDepth 10000 in
theorem g_39_16 : GO x d 39 Q 16 [v0, v1, v2] (.inl a :: .inr (.inr (.inl r)) :: st) I J = (okO r 4 ∧ GO x d 39 Q 19 [v0, v1, v2] st (up I r 7 a) J) := ge (A := (40, 19, 4, 7, 0)) rfl
set_option maxRecDepth 10000 in
theorem g_39_19 : GO x d 39 Q 19 [some (.inr (.inr w)), v1, v2] st I J = GO x d 39 Q 20 [some (.inr (.inr w)), v1, v2] (.inr (.inr w) :: st) I J := ge (A := (2, 20, 0, 0, 0)) rfl
set_option maxRecDepth 10000 in
theorem g_39_20 : GO x d 39 Q 20 [v0, v1, some (.inl a)] st I J = GO x d 39 Q 21 [v0, v1, some (.inl a)] (.inl a :: st) I J := ge (A := (1, 21, 2, 0, 0)) rfl
set_option maxRecDepth 10000 in
theorem g_39_21 : GO x d 39 Q 21 [v0, v1, v2] (.inl a :: .inr (.inr (.inl r)) :: st) I J = (okO r 4 ∧ GO x d 39 Q 24 [v0, v1, v2] st (up I r 6 a) J) := ge (A := (40, 24, 4, 6, 0)) rfl
set_option maxRecDepth 10000 in
theorem g_39_24 : GO x d 39 Q 24 [v0, v1, v2] [] I J = Q none I J := ge (A := (57, 25, 0, 0, 0)) rfl
set_option maxRecDepth 10000 in
theorem e_39 : EX x (d + 1) 39 [.inr (.inr w0), .inl i0, .inl i1] I J Q = GO x d 39 Q 0 [some (.inr (.inr w0)), some (.inl i0), some (.inl i1)] [] I J := ex_eq (Nat.le_of_ble_eq_true rfl) rfl (Nat.le_of_ble_eq_true rfl) rfl
set_option maxRecDepth 10000 in
theorem g_40_0 : GO x d 40 Q 0 [v0, v1, v2, v3] st I J = GO x d 40 Q 1 [v0, v1, v2, v3] (.inl (0) :: st) I J := ge (A := (0, 1, 0, 0, 0)) rfl
set_option maxRecDepth 10000 in
theorem g_40_1 : GO x d 40 Q 1 [v0, v1, v2, v3] (.inl a :: st) I J = (nlO (some v2) = true ∧ GO x d 40 Q 2 [v0, v1, v2, some (.inl a)] st I J) := (ge (A := (4, 2, 3, 0, 0)) rfl).trans (gst (Nat.le_of_ble_eq_true rfl) _)
set_option maxRecDepth 10000 in
theorem g_40_2 : GO x d 40 Q 2 [v0, v1, v2, some (.inl a)] st I J = GO x d 40 Q 3 [v0, v1, v2, some (.inl a)] (.inl a :: st) I J := ge (A := (1, 3, 3, 0, 0)) rfl
set_option maxRecDepth 10000 in
theorem g_40_3 : GO x d 40 Q 3 [v0, v1, some (.inl a), v3] st I J = GO x d 40 Q 4 [v0, v1, some (.inl a), v3] (.inl a :: st) I J := ge (A := (1, 4, 2, 0, 0)) rfl
set_option maxRecDepth 10000 in
theorem g_40_4 : GO x d 40 Q 4 [v0, v1, v2, v3] (.inl b :: .inl a :: st) I J = (inR a ∧ inR b ∧ if a < b then GO x d 40 Q 7 [v0, v1, v2, v3] st I J else GO x d 40 Q 46 [v0, v1, v2, v3] st I J) := (ge (A := (34, 7, 46, 3, 0)) rfl).trans (ggec)
set_option maxRecDepth 10000 in
theorem g_40_7 : GO x d 40 Q 7 [v0, v1, v2, some (.inl a)] st I J = GO x d 40 Q 8 [v0, v1, v2, some (.inl a)] (.inl a :: st) I J := ge (A := (1, 8, 3, 0, 0)) rfl
set_option maxRecDepth 10000 in
theorem g_40_8 : GO x d 40 Q 8 [some (.inr (.inr w)), v1, v2, v3] st I J = GO x d 40 Q 9 [some (.inr (.inr w)), v1, v2, v3] (.inr (.inr w) :: st) I J := ge (A := (2, 9, 0, 0, 0)) rfl
set_option maxRecDepth 10000 in
theorem g_40_9 : GO x d 40 Q 9 [v0, v1, v2, v3] (.inr (.inr (.inl r)) :: st) I J = (okO r 3 ∧ GO x d 40 Q 12 [v0, v1, v2, v3] (.inl (I r 8) :: st) I J) := ge (A := (37, 12, 3, 8, 0)) rfl
set_option maxRecDepth 10000 in
theorem g_40_12 : GO x d 40 Q 12 [v0, v1, v2, v3] (.inl b :: .inl a :: st) I J = (inR a ∧ inR b ∧ if a < b then GO x d 40 Q 15 [v0, v1, v2, v3] st I J else GO x d 40 Q 46 [v0, v1, v2, v3] st I J) := (ge (A := (34, 15, 46, 3, 0)) rfl).trans (ggec)
set_option maxRecDepth 10000 in
theorem g_40_15 : GO x d 40 Q 15 [v0, some (.inl a), v2, v3] st I J = GO x d 40 Q 16 [v0, some (.inl a), v2, v3] (.inl a :: st) I J := ge (A := (1, 16, 1, 0, 0)) rfl
set_option maxRecDepth 10000 in
theorem g_40_16 : GO x d 40 Q 16 [v0, v1, v2, some (.inl a)] st I J = GO x d 40 Q 17 [v0, v1, v2, some (.inl a)] (.inl a :: st) I J := ge (A := (1, 17, 3, 0, 0)) rfl
set_option maxRecDepth 10000 in
theorem g_40_17 : GO x d 40 Q 17 [v0, v1, v2, v3] [.inl i0, .inl i1] I J = EX x d 105 [.inl i1, .inl i0] I J (fun r1 I1 J1 => GO x d 40 Q 20 [v0, v1, v2, v3] (r1.toList ++ []) I1 J1) := (ge (A := (52, 20, 105, 2, 1)) rfl).trans (gtrue2 (Nat.le_of_ble_eq_true rfl) (Nat.le_of_ble_eq_true rfl))
set_option maxRecDepth 10000 in
theorem g_40_20 : GO x d 40 Q 20 [v0, v1, v2, v3] (.inl a :: st) I J = (inR a ∧ if a = 0 then GO x d 40 Q 23 [v0, v1, v2, v3] st I J else GO x d 40 Q 40 [v0, v1, v2, v3] st I J) := (ge (A := (33, 23, 40, 1, 0)) rfl).trans (gifn (p := a = 0) inferInstance)
set_option maxRecDepth 10000 in
theorem g_40_23 : GO x d 40 Q 23 [some (.inr (.inr w)), v1, v2, v3] st I J = GO x d 40 Q 24 [some (.inr (.inr w)), v1, v2, v3] (.inr (.inr w) :: st) I J := ge (A := (2, 24, 0, 0, 0)) rfl
set_option maxRecDepth 10000 in
theorem g_40_24 : GO x d 40 Q 24 [v0, v1, v2, v3] (.inr (.inr (.inl r)) :: st) I J = (okF r 3 9 ∧ GO x d 40 Q 27 [v0, v1, v2, v3] (.inr (.inr (.inl (rfN r 9))) :: st) I J) := (ge (A := (39, 27, 3, 9, 0)) rfl).trans (gref (f := fun q => GO x d 40 Q 27 [v0, v1, v2, v3] (.inr (.inr (.inl q)) :: st) I J))
set_option maxRecDepth 10000 in
theorem g_40_27 : GO x d 40 Q 27 [v0, v1, v2, some (.inl a)] st I J = GO x d 40 Q 28 [v0, v1, v2, some (.inl a)] (.inl a :: st) I J := ge (A := (1, 28, 3, 0, 0)) rfl
set_option maxRecDepth 10000 in
theorem h_40_28 : GO x d 40 Q 28 [v0, v1, v2, v3] (.inl a :: .inr (.inr (.inr q)) :: st) I J = (q < 4 ∧ 0 ≤ a ∧ a < (roA x q).1 ∧ GO x d 40 Q 29 [v0, v1, v2, v3] (.inl ((roA x q).2 a.toNat) :: st) I J) := ge (A := (44, 29, 0, 0, 0)) rfl
set_option maxRecDepth 10000 in
theorem g_40_28 : GO x d 40 Q 28 [v0, v1, v2, v3] (.inl a :: .inr (.inr (.inl r)) :: st) I J = (okA r 20 ∧ 0 ≤ a ∧ a < lnN r ∧ GO x d 40 Q 29 [v0, v1, v2, v3] (.inl (I r a) :: st) I J) := ge (A := (44, 29, 0, 0, 0)) rfl
set_option maxRecDepth 10000 in
theorem g_40_29 : GO x d 40 Q 29 [some (.inr (.inr w)), v1, v2, v3] st I J = GO x d 40 Q 30 [some (.inr (.inr w)), v1, v2, v3] (.inr (.inr w) :: st) I J := ge (A := (2, 30, 0, 0, 0)) rfl
set_option maxRecDepth 10000 in
theorem g_40_30 : GO x d 40 Q 30 [v0, v1, v2, v3] (.inr (.inr (.inl r)) :: st) I J = (okF r 3 9 ∧ GO x d 40 Q 33 [v0, v1, v2, v3] (.inr (.inr (.inl (rfN r 9))) :: st) I J) := (ge (A := (39, 33, 3, 9, 0)) rfl).trans (gref (f := fun q => GO x d 40 Q 33 [v0, v1, v2, v3] (.inr (.inr (.inl q)) :: st) I J))
set_option maxRecDepth 10000 in
theorem g_40_33 : GO x d 40 Q 33 [v0, v1, some (.inl a), v3] st I J = GO x d 40 Q 34 [v0, v1, some (.inl a), v3] (.inl a :: st) I J := ge (A := (1, 34, 2, 0, 0)) rfl
set_option maxRecDepth 10000 in
theorem h_40_34 : GO x d 40 Q 34 [v0, v1, v2, v3] (.inl a :: .inr (.inr (.inr q)) :: st) I J = (q < 4 ∧ 0 ≤ a ∧ a < (roA x q).1 ∧ GO x d 40 Q 35 [v0, v1, v2, v3] (.inl ((roA x q).2 a.toNat) :: st) I J) := ge (A := (44, 35, 0, 0, 0)) rfl
set_option maxRecDepth 10000 in
theorem g_40_34 : GO x d 40 Q 34 [v0, v1, v2, v3] (.inl a :: .inr (.inr (.inl r)) :: st) I J = (okA r 20 ∧ 0 ≤ a ∧ a < lnN r ∧ GO x d 40 Q 35 [v0, v1, v2, v3] (.inl (I r a) :: st) I J) := ge (A := (44, 35, 0, 0, 0)) rfl
set_option maxRecDepth 10000 in
theorem g_40_35 : GO x d 40 Q 35 [v0, v1, v2, v3] (.inl b :: .inl a :: st) I J = (inR a ∧ inR b ∧ if a = b then GO x d 40 Q 38 [v0, v1, v2, v3] st I J else GO x d 40 Q 40 [v0, v1, v2, v3] st I J) := (ge (A := (34, 38, 40, 1, 0)) rfl).trans (gicn (p := a = b) inferInstance)
set_option maxRecDepth 10000 in
theorem g_40_38 : GO x d 40 Q 38 [v0, v1, v2, v3] st I J = GO x d 40 Q 39 [v0, v1, v2, v3] (.inl (1) :: st) I J := ge (A := (0, 39, 0, 0, 1)) rfl
set_option maxRecDepth 10000 in
theorem g_40_39 : GO x d 40 Q 39 [v0, v1, v2, v3] [.inl a] I J = (ret01 a ∧ Q (some (.inl a)) I J) := ge (A := (56, 40, 0, 0, 0)) rfl
set_option maxRecDepth 10000 in
theorem g_40_40 : GO x d 40 Q 40 [v0, v1, v2, some (.inl a)] st I J = (nlO (some v2) = true ∧ GO x d 40 Q 43 [v0, v1, v2, some (.inl (a + (1)))] st I J) := ge (A := (7, 43, 3, 0, 1)) rfl
set_option maxRecDepth 10000 in
theorem g_40_43 : GO x d 40 Q 43 [v0, v1, v2, v3] st I J = GO x d 40 Q 2 [v0, v1, v2, v3] st I J := ge (A := (35, 46, 2, 0, 0)) rfl
set_option maxRecDepth 10000 in
theorem g_40_46 : GO x d 40 Q 46 [v0, v1, v2, v3] st I J = GO x d 40 Q 47 [v0, v1, v2, v3] (.inl (0) :: st) I J := ge (A := (0, 47, 0, 0, 0)) rfl
set_option maxRecDepth 10000 in
theorem g_40_47 : GO x d 40 Q 47 [v0, v1, v2, v3] [.inl a] I J = (ret01 a ∧ Q (some (.inl a)) I J) := ge (A := (56, 48, 0, 0, 0)) rfl
set_option maxRecDepth 10000 in
theorem e_40 : EX x (d + 1) 40 [.inr (.inr w0), .inl i0, .inl i1] I J Q = GO x d 40 Q 0 [some (.inr (.inr w0)), some (.inl i0), some (.inl i1), none] [] I J := ex_eq (Nat.le_of_ble_eq_true rfl) rfl (Nat.le_of_ble_eq_true rfl) rfl
set_option maxRecDepth 10000 in
theorem g_41_0 : GO x d 41 Q 0 [some (.inr (.inr w)), v1, v2, v3, v4, v5, v6, v7, v8, v9, v10, v11] st I J = GO x d 41 Q 1 [some (.inr (.inr w)), v1, v2, v3, v4, v5, v6, v7, v8, v9, v10, v11] (.inr (.inr w) :: st) I J := ge (A := (2, 1, 0, 0, 0)) rfl
set_option maxRecDepth 10000 in
theorem g_41_1 : GO x d 41 Q 1 [v0, v1, v2, v3, v4, v5, v6, v7, v8, v9, v10, v11] (.inr (.inr (.inl r)) :: st) I J = (okO r 4 ∧ GO x d 41 Q 4 [v0, v1, v2, v3, v4, v5, v6, v7, v8, v9, v10, v11] (.inr (.inl (J r 4)) :: st) I J) := ge (A := (38, 4, 4, 4, 0)) rfl
set_option maxRecDepth 10000 in
theorem g_41_4 : GO x d 41 Q 4 [v0, v1, v2, v3, v4, v5, v6, v7, v8, v9, v10, v11] st I J = GO x d 41 Q 5 [v0, v1, v2, v3, v4, v5, v6, v7, v8, v9, v10, v11] (.inl (5) :: st) I J := ge (A := (0, 5, 0, 0, 5)) rfl
set_option maxRecDepth 10000 in
theorem g_41_5 : GO x d 41 Q 5 [v0, v1, v2, v3, v4, v5, v6, v7, v8, v9, v10, v11] (.inl b :: .inr (.inl y) :: st) I J = GO x d 41 Q 6 [v0, v1, v2, v3, v4, v5, v6, v7, v8, v9, v10, v11] (.inr (.inl (y <<< ((Int32.ofInt b).toInt64 &&& 63))) :: st) I J := ge (A := (28, 6, 0, 0, 0)) rfl
set_option maxRecDepth 10000 in
theorem g_41_6 : GO x d 41 Q 6 [v0, v1, some (.inl a), v3, v4, v5, v6, v7, v8, v9, v10, v11] st I J = GO x d 41 Q 7 [v0, v1, some (.inl a), v3, v4, v5, v6, v7, v8, v9, v10, v11] (.inl a :: st) I J := ge (A := (1, 7, 2, 0, 0)) rfl
set_option maxRecDepth 10000 in
theorem g_41_7 : GO x d 41 Q 7 [v0, v1, v2, v3, v4, v5, v6, v7, v8, v9, v10, v11] (.inl a :: st) I J = GO x d 41 Q 8 [v0, v1, v2, v3, v4, v5, v6, v7, v8, v9, v10, v11] (.inr (.inl (Int32.ofInt a).toInt64) :: st) I J := ge (A := (22, 8, 0, 0, 0)) rfl
set_option maxRecDepth 10000 in
theorem g_41_8 : GO x d 41 Q 8 [v0, v1, v2, v3, v4, v5, v6, v7, v8, v9, v10, v11] (.inr (.inl z) :: .inr (.inl y) :: st) I J = GO x d 41 Q 9 [v0, v1, v2, v3, v4, v5, v6, v7, v8, v9, v10, v11] (.inr (.inl (y ||| z)) :: st) I J := ge (A := (27, 9, 0, 0, 0)) rfl
set_option maxRecDepth 10000 in
theorem g_41_9 : GO x d 41 Q 9 [v0, v1, v2, v3, v4, v5, v6, v7, v8, v9, v10, v11] (.inr (.inl y) :: st) I J = (nlO (some v5) = true ∧ GO x d 41 Q 11 [v0, v1, v2, v3, v4, v5, some (.inr (.inl y)), none, v8, v9, v10, v11] st I J) := (ge (A := (6, 11, 6, 0, 0)) rfl).trans (propext ⟨fun h => ⟨h.1, h.2.2⟩, fun h => ⟨h.1, (Nat.le_of_ble_eq_true rfl), h.2⟩⟩)
set_option maxRecDepth 10000 in
theorem g_41_11 : GO x d 41 Q 11 [v0, v1, v2, v3, v4, v5, some (.inr (.inl y)), v7, v8, v9, v10, v11] st I J = GO x d 41 Q 13 [v0, v1, v2, v3, v4, v5, some (.inr (.inl y)), v7, v8, v9, v10, v11] (.inr (.inl y) :: st) I J := ge (A := (3, 13, 6, 0, 0)) rfl
set_option maxRecDepth 10000 in
theorem g_41_13 : GO x d 41 Q 13 [v0, v1, v2, v3, v4, v5, v6, v7, v8, v9, v10, v11] st I J = GO x d 41 Q 14 [v0, v1, v2, v3, v4, v5, v6, v7, v8, v9, v10, v11] (.inl (3) :: st) I J := ge (A := (0, 14, 0, 0, 3)) rfl
set_option maxRecDepth 10000 in
theorem g_41_14 : GO x d 41 Q 14 [v0, v1, v2, v3, v4, v5, v6, v7, v8, v9, v10, v11] (.inl b :: .inr (.inl y) :: st) I J = GO x d 41 Q 15 [v0, v1, v2, v3, v4, v5, v6, v7, v8, v9, v10, v11] (.inr (.inl (y <<< ((Int32.ofInt b).toInt64 &&& 63))) :: st) I J := ge (A := (28, 15, 0, 0, 0)) rfl
set_option maxRecDepth 10000 in
theorem g_41_15 : GO x d 41 Q 15 [v0, v1, v2, v3, some (.inl a), v5, v6, v7, v8, v9, v10, v11] st I J = GO x d 41 Q 17 [v0, v1, v2, v3, some (.inl a), v5, v6, v7, v8, v9, v10, v11] (.inl a :: st) I J := ge (A := (1, 17, 4, 0, 0)) rfl
set_option maxRecDepth 10000 in
theorem g_41_17 : GO x d 41 Q 17 [v0, v1, v2, v3, v4, v5, v6, v7, v8, v9, v10, v11] st I J = GO x d 41 Q 18 [v0, v1, v2, v3, v4, v5, v6, v7, v8, v9, v10, v11] (.inl (1) :: st) I J := ge (A := (0, 18, 0, 0, 1)) rfl
set_option maxRecDepth 10000 in
theorem g_41_18 : GO x d 41 Q 18 [v0, v1, v2, v3, v4, v5, v6, v7, v8, v9, v10, v11] (.inl b :: .inl a :: st) I J = GO x d 41 Q 19 [v0, v1, v2, v3, v4, v5, v6, v7, v8, v9, v10, v11] (.inl (a + b) :: st) I J := ge (A := (8, 19, 0, 0, 0)) rfl
set_option maxRecDepth 10000 in
theorem g_41_19 : GO x d 41 Q 19 [v0, v1, v2, v3, v4, v5, v6, v7, v8, v9, v10, v11] (.inl a :: st) I J = GO x d 41 Q 20 [v0, v1, v2, v3, v4, v5, v6, v7, v8, v9, v10, v11] (.inr (.inl (Int32.ofInt a).toInt64) :: st) I J := ge (A := (22, 20, 0, 0, 0)) rfl
set_option maxRecDepth 10000 in
theorem g_41_20 : GO x d 41 Q 20 [v0, v1, v2, v3, v4, v5, v6, v7, v8, v9, v10, v11] (.inr (.inl z) :: .inr (.inl y) :: st) I J = GO x d 41 Q 21 [v0, v1, v2, v3, v4, v5, v6, v7, v8, v9, v10, v11] (.inr (.inl (y ||| z)) :: st) I J := ge (A := (27, 21, 0, 0, 0)) rfl
set_option maxRecDepth 10000 in
theorem g_41_21 : GO x d 41 Q 21 [v0, v1, v2, v3, v4, v5, v6, v7, v8, v9, v10, v11] (.inr (.inl y) :: st) I J = (nlO (some v5) = true ∧ GO x d 41 Q 23 [v0, v1, v2, v3, v4, v5, some (.inr (.inl y)), none, v8, v9, v10, v11] st I J) := (ge (A := (6, 23, 6, 0, 0)) rfl).trans (propext ⟨fun h => ⟨h.1, h.2.2⟩, fun h => ⟨h.1, (Nat.le_of_ble_eq_true rfl), h.2⟩⟩)
set_option maxRecDepth 10000 in
theorem g_41_23 : GO x d 41 Q 23 [v0, v1, v2, v3, v4, v5, some (.inr (.inl y)), v7, v8, v9, v10, v11] st I J = GO x d 41 Q 25 [v0, v1, v2, v3, v4, v5, some (.inr (.inl y)), v7, v8, v9, v10, v11] (.inr (.inl y) :: st) I J := ge (A := (3, 25, 6, 0, 0)) rfl
set_option maxRecDepth 10000 in
theorem g_41_25 : GO x d 41 Q 25 [v0, v1, v2, v3, v4, v5, v6, v7, v8, v9, v10, v11] st I J = GO x d 41 Q 26 [v0, v1, v2, v3, v4, v5, v6, v7, v8, v9, v10, v11] (.inl (3) :: st) I J := ge (A := (0, 26, 0, 0, 3)) rfl
set_option maxRecDepth 10000 in
theorem g_41_26 : GO x d 41 Q 26 [v0, v1, v2, v3, v4, v5, v6, v7, v8, v9, v10, v11] (.inl b :: .inr (.inl y) :: st) I J = GO x d 41 Q 27 [v0, v1, v2, v3, v4, v5, v6, v7, v8, v9, v10, v11] (.inr (.inl (y <<< ((Int32.ofInt b).toInt64 &&& 63))) :: st) I J := ge (A := (28, 27, 0, 0, 0)) rfl
set_option maxRecDepth 10000 in
theorem g_41_27 : GO x d 41 Q 27 [v0, v1, v2, v3, v4, some (.inl a), v6, v7, v8, v9, v10, v11] st I J = GO x d 41 Q 29 [v0, v1, v2, v3, v4, some (.inl a), v6, v7, v8, v9, v10, v11] (.inl a :: st) I J := ge (A := (1, 29, 5, 0, 0)) rfl
set_option maxRecDepth 10000 in
theorem g_41_29 : GO x d 41 Q 29 [v0, v1, v2, v3, v4, v5, v6, v7, v8, v9, v10, v11] (.inl a :: st) I J = GO x d 41 Q 30 [v0, v1, v2, v3, v4, v5, v6, v7, v8, v9, v10, v11] (.inr (.inl (Int32.ofInt a).toInt64) :: st) I J := ge (A := (22, 30, 0, 0, 0)) rfl
set_option maxRecDepth 10000 in
theorem g_41_30 : GO x d 41 Q 30 [v0, v1, v2, v3, v4, v5, v6, v7, v8, v9, v10, v11] (.inr (.inl z) :: .inr (.inl y) :: st) I J = GO x d 41 Q 31 [v0, v1, v2, v3, v4, v5, v6, v7, v8, v9, v10, v11] (.inr (.inl (y ||| z)) :: st) I J := ge (A := (27, 31, 0, 0, 0)) rfl
set_option maxRecDepth 10000 in
theorem g_41_31 : GO x d 41 Q 31 [v0, v1, v2, v3, v4, v5, v6, v7, v8, v9, v10, v11] (.inr (.inl y) :: st) I J = (nlO (some v5) = true ∧ GO x d 41 Q 33 [v0, v1, v2, v3, v4, v5, some (.inr (.inl y)), none, v8, v9, v10, v11] st I J) := (ge (A := (6, 33, 6, 0, 0)) rfl).trans (propext ⟨fun h => ⟨h.1, h.2.2⟩, fun h => ⟨h.1, (Nat.le_of_ble_eq_true rfl), h.2⟩⟩)
set_option maxRecDepth 10000 in
theorem g_41_33 : GO x d 41 Q 33 [v0, v1, v2, v3, v4, v5, some (.inr (.inl y)), v7, v8, v9, v10, v11] st I J = GO x d 41 Q 35 [v0, v1, v2, v3, v4, v5, some (.inr (.inl y)), v7, v8, v9, v10, v11] (.inr (.inl y) :: st) I J := ge (A := (3, 35, 6, 0, 0)) rfl
set_option maxRecDepth 10000 in
theorem g_41_35 : GO x d 41 Q 35 [v0, v1, v2, v3, v4, v5, v6, v7, v8, v9, v10, v11] st I J = GO x d 41 Q 36 [v0, v1, v2, v3, v4, v5, v6, v7, v8, v9, v10, v11] (.inl (4) :: st) I J := ge (A := (0, 36, 0, 0, 4)) rfl
set_option maxRecDepth 10000 in
theorem g_41_36 : GO x d 41 Q 36 [v0, v1, v2, v3, v4, v5, v6, v7, v8, v9, v10, v11] (.inl b :: .inr (.inl y) :: st) I J = GO x d 41 Q 37 [v0, v1, v2, v3, v4, v5, v6, v7, v8, v9, v10, v11] (.inr (.inl (y <<< ((Int32.ofInt b).toInt64 &&& 63))) :: st) I J := ge (A := (28, 37, 0, 0, 0)) rfl
set_option maxRecDepth 10000 in
theorem g_41_37 : GO x d 41 Q 37 [v0, v1, v2, some (.inl a), v4, v5, v6, v7, v8, v9, v10, v11] st I J = GO x d 41 Q 38 [v0, v1, v2, some (.inl a), v4, v5, v6, v7, v8, v9, v10, v11] (.inl a :: st) I J := ge (A := (1, 38, 3, 0, 0)) rfl
set_option maxRecDepth 10000 in
theorem g_41_38 : GO x d 41 Q 38 [some (.inr (.inr w)), v1, v2, v3, v4, v5, v6, v7, v8, v9, v10, v11] st I J = GO x d 41 Q 39 [some (.inr (.inr w)), v1, v2, v3, v4, v5, v6, v7, v8, v9, v10, v11] (.inr (.inr w) :: st) I J := ge (A := (2, 39, 0, 0, 0)) rfl
set_option maxRecDepth 10000 in
theorem g_41_39 : GO x d 41 Q 39 [v0, v1, v2, v3, v4, v5, v6, v7, v8, v9, v10, v11] (.inr (.inr (.inl r)) :: st) I J = (okO r 4 ∧ GO x d 41 Q 42 [v0, v1, v2, v3, v4, v5, v6, v7, v8, v9, v10, v11] (.inl (I r 5) :: st) I J) := ge (A := (37, 42, 4, 5, 0)) rfl
set_option maxRecDepth 10000 in
theorem g_41_42 : GO x d 41 Q 42 [v0, v1, v2, v3, v4, v5, v6, v7, v8, v9, v10, v11] (.inl b :: .inl a :: st) I J = GO x d 41 Q 43 [v0, v1, v2, v3, v4, v5, v6, v7, v8, v9, v10, v11] (.inl (a - b) :: st) I J := ge (A := (9, 43, 0, 0, 0)) rfl
set_option maxRecDepth 10000 in
theorem g_41_43 : GO x d 41 Q 43 [v0, v1, v2, v3, v4, v5, v6, v7, v8, v9, v10, v11] (.inl a :: st) I J = GO x d 41 Q 44 [v0, v1, v2, v3, v4, v5, v6, v7, v8, v9, v10, v11] (.inr (.inl (Int32.ofInt a).toInt64) :: st) I J := ge (A := (22, 44, 0, 0, 0)) rfl
set_option maxRecDepth 10000 in
theorem g_41_44 : GO x d 41 Q 44 [v0, v1, v2, v3, v4, v5, v6, v7, v8, v9, v10, v11] (.inr (.inl z) :: .inr (.inl y) :: st) I J = GO x d 41 Q 45 [v0, v1, v2, v3, v4, v5, v6, v7, v8, v9, v10, v11] (.inr (.inl (y ||| z)) :: st) I J := ge (A := (27, 45, 0, 0, 0)) rfl
set_option maxRecDepth 10000 in
theorem g_41_45 : GO x d 41 Q 45 [v0, v1, v2, v3, v4, v5, v6, v7, v8, v9, v10, v11] (.inr (.inl y) :: st) I J = (nlO (some v5) = true ∧ GO x d 41 Q 47 [v0, v1, v2, v3, v4, v5, some (.inr (.inl y)), none, v8, v9, v10, v11] st I J) := (ge (A := (6, 47, 6, 0, 0)) rfl).trans (propext ⟨fun h => ⟨h.1, h.2.2⟩, fun h => ⟨h.1, (Nat.le_of_ble_eq_true rfl), h.2⟩⟩)
set_option maxRecDepth 10000 in
theorem g_41_47 : GO x d 41 Q 47 [v0, v1, v2, v3, v4, v5, v6, v7, v8, v9, v10, v11] st I J = GO x d 41 Q 48 [v0, v1, v2, v3, v4, v5, v6, v7, v8, v9, v10, v11] (.inl (2) :: st) I J := ge (A := (0, 48, 0, 0, 2)) rfl
set_option maxRecDepth 10000 in
theorem g_41_48 : GO x d 41 Q 48 [v0, some (.inr (.inr w)), v2, v3, v4, v5, v6, v7, v8, v9, v10, v11] st I J = GO x d 41 Q 49 [v0, some (.inr (.inr w)), v2, v3, v4, v5, v6, v7, v8, v9, v10, v11] (.inr (.inr w) :: st) I J := ge (A := (2, 49, 1, 0, 0)) rfl
set_option maxRecDepth 10000 in
theorem g_41_49 : GO x d 41 Q 49 [v0, v1, v2, v3, v4, v5, v6, v7, v8, v9, v10, v11] (.inr (.inr (.inl r)) :: st) I J = (okO r 3 ∧ GO x d 41 Q 52 [v0, v1, v2, v3, v4, v5, v6, v7, v8, v9, v10, v11] (.inl (I r 8) :: st) I J) := ge (A := (37, 52, 3, 8, 0)) rfl
set_option maxRecDepth 10000 in
theorem g_41_52 : GO x d 41 Q 52 [v0, v1, some (.inl a), v3, v4, v5, v6, v7, v8, v9, v10, v11] st I J = GO x d 41 Q 53 [v0, v1, some (.inl a), v3, v4, v5, v6, v7, v8, v9, v10, v11] (.inl a :: st) I J := ge (A := (1, 53, 2, 0, 0)) rfl
set_option maxRecDepth 10000 in
theorem g_41_53 : GO x d 41 Q 53 [v0, v1, v2, v3, v4, v5, v6, v7, v8, v9, v10, v11] [.inl i0, .inl i1, .inl i2] I J = EX x d 182 [.inl i0] I J (fun r1 I1 J1 => GO x d 41 Q 56 [v0, v1, v2, v3, v4, v5, v6, v7, v8, v9, v10, v11] (r1.toList ++ [.inl i1, .inl i2]) I1 J1) := (ge (A := (52, 56, 182, 1, 0)) rfl).trans (gtrue2 (Nat.le_of_ble_eq_true rfl) (Nat.le_of_ble_eq_true rfl))
set_option maxRecDepth 10000 in
theorem g_41_56 : GO x d 41 Q 56 [v0, v1, v2, v3, v4, v5, v6, v7, v8, v9, v10, v11] (.inl b :: .inl a :: st) I J = GO x d 41 Q 57 [v0, v1, v2, v3, v4, v5, v6, v7, v8, v9, v10, v11] (.inl (a - b) :: st) I J := ge (A := (9, 57, 0, 0, 0)) rfl
set_option maxRecDepth 10000 in
theorem g_41_57 : GO x d 41 Q 57 [v0, v1, v2, v3, v4, v5, v6, v7, v8, v9, v10, v11] (.inl b :: .inl a :: st) I J = GO x d 41 Q 58 [v0, v1, v2, v3, v4, v5, v6, v7, v8, v9, v10, v11] (.inl (a * b) :: st) I J := ge (A := (10, 58, 0, 0, 0)) rfl
set_option maxRecDepth 10000 in
theorem g_41_58 : GO x d 41 Q 58 [v0, v1, v2, v3, v4, v5, v6, v7, v8, v9, v10, v11] (.inl a :: st) I J = (nlO (some v7) = true ∧ GO x d 41 Q 60 [v0, v1, v2, v3, v4, v5, v6, v7, some (.inl a), v9, v10, v11] st I J) := (ge (A := (4, 60, 8, 0, 0)) rfl).trans (gst (Nat.le_of_ble_eq_true rfl) _)
set_option maxRecDepth 10000 in
theorem g_41_60 : GO x d 41 Q 60 [v0, v1, v2, v3, v4, v5, v6, v7, v8, v9, v10, v11] st I J = GO x d 41 Q 61 [v0, v1, v2, v3, v4, v5, v6, v7, v8, v9, v10, v11] (.inl (0) :: st) I J := ge (A := (0, 61, 0, 0, 0)) rfl
set_option maxRecDepth 10000 in
theorem g_41_61 : GO x d 41 Q 61 [v0, v1, v2, v3, v4, v5, v6, v7, v8, v9, v10, v11] (.inl a :: st) I J = (nlO (some v8) = true ∧ GO x d 41 Q 63 [v0, v1, v2, v3, v4, v5, v6, v7, v8, some (.inl a), v10, v11] st I J) := (ge (A := (4, 63, 9, 0, 0)) rfl).trans (gst (Nat.le_of_ble_eq_true rfl) _)
set_option maxRecDepth 10000 in
theorem g_41_63 : GO x d 41 Q 63 [v0, v1, v2, v3, v4, v5, v6, v7, v8, some (.inl a), v10, v11] st I J = GO x d 41 Q 65 [v0, v1, v2, v3, v4, v5, v6, v7, v8, some (.inl a), v10, v11] (.inl a :: st) I J := ge (A := (1, 65, 9, 0, 0)) rfl
set_option maxRecDepth 10000 in
theorem g_41_65 : GO x d 41 Q 65 [v0, v1, v2, v3, v4, v5, v6, v7, v8, v9, v10, v11] st I J = GO x d 41 Q 67 [v0, v1, v2, v3, v4, v5, v6, v7, v8, v9, v10, v11] (.inl (8) :: st) I J := ge (A := (0, 67, 0, 0, 8)) rfl
set_option maxRecDepth 10000 in
theorem g_41_67 : GO x d 41 Q 67 [v0, v1, v2, v3, v4, v5, v6, v7, v8, v9, v10, v11] (.inl b :: .inl a :: st) I J = (inR a ∧ inR b ∧ if a < b then GO x d 41 Q 70 [v0, v1, v2, v3, v4, v5, v6, v7, v8, v9, v10, v11] st I J else GO x d 41 Q 132 [v0, v1, v2, v3, v4, v5, v6, v7, v8, v9, v10, v11] st I J) := (ge (A := (34, 70, 132, 3, 0)) rfl).trans (ggec)
set_option maxRecDepth 10000 in
theorem g_41_70 : GO x d 41 Q 70 [v0, some (.inr (.inr w)), v2, v3, v4, v5, v6, v7, v8, v9, v10, v11] st I J = GO x d 41 Q 71 [v0, some (.inr (.inr w)), v2, v3, v4, v5, v6, v7, v8, v9, v10, v11] (.inr (.inr w) :: st) I J := ge (A := (2, 71, 1, 0, 0)) rfl
set_option maxRecDepth 10000 in
theorem g_41_71 : GO x d 41 Q 71 [v0, v1, v2, v3, v4, v5, v6, v7, v8, some (.inl a), v10, v11] st I J = GO x d 41 Q 73 [v0, v1, v2, v3, v4, v5, v6, v7, v8, some (.inl a), v10, v11] (.inl a :: st) I J := ge (A := (1, 73, 9, 0, 0)) rfl
set_option maxRecDepth 10000 in
theorem g_41_73 : GO x d 41 Q 73 [some (.inr (.inr w)), v1, v2, v3, v4, v5, v6, v7, v8, v9, v10, v11] st I J = GO x d 41 Q 74 [some (.inr (.inr w)), v1, v2, v3, v4, v5, v6, v7, v8, v9, v10, v11] (.inr (.inr w) :: st) I J := ge (A := (2, 74, 0, 0, 0)) rfl
set_option maxRecDepth 10000 in
theorem g_41_74 : GO x d 41 Q 74 [v0, v1, v2, v3, v4, v5, v6, v7, v8, v9, v10, v11] (.inr (.inr (.inl r)) :: st) I J = (okF r 4 0 ∧ GO x d 41 Q 77 [v0, v1, v2, v3, v4, v5, v6, v7, v8, v9, v10, v11] (.inr (.inr (.inl (rfN r 0))) :: st) I J) := (ge (A := (39, 77, 4, 0, 0)) rfl).trans (gref (f := fun q => GO x d 41 Q 77 [v0, v1, v2, v3, v4, v5, v6, v7, v8, v9, v10, v11] (.inr (.inr (.inl q)) :: st) I J))
set_option maxRecDepth 10000 in
theorem g_41_77 : GO x d 41 Q 77 [v0, v1, v2, v3, v4, v5, v6, v7, v8, some (.inl a), v10, v11] st I J = GO x d 41 Q 79 [v0, v1, v2, v3, v4, v5, v6, v7, v8, some (.inl a), v10, v11] (.inl a :: st) I J := ge (A := (1, 79, 9, 0, 0)) rfl
set_option maxRecDepth 10000 in
theorem h_41_79 : GO x d 41 Q 79 [v0, v1, v2, v3, v4, v5, v6, v7, v8, v9, v10, v11] (.inl a :: .inr (.inr (.inr q)) :: st) I J = (q < 4 ∧ 0 ≤ a ∧ a < (roA x q).1 ∧ GO x d 41 Q 80 [v0, v1, v2, v3, v4, v5, v6, v7, v8, v9, v10, v11] (.inl ((roA x q).2 a.toNat) :: st) I J) := ge (A := (44, 80, 0, 0, 0)) rfl
set_option maxRecDepth 10000 in
theorem g_41_79 : GO x d 41 Q 79 [v0, v1, v2, v3, v4, v5, v6, v7, v8, v9, v10, v11] (.inl a :: .inr (.inr (.inl r)) :: st) I J = (okA r 20 ∧ 0 ≤ a ∧ a < lnN r ∧ GO x d 41 Q 80 [v0, v1, v2, v3, v4, v5, v6, v7, v8, v9, v10, v11] (.inl (I r a) :: st) I J) := ge (A := (44, 80, 0, 0, 0)) rfl
set_option maxRecDepth 10000 in
theorem g_41_80 : GO x d 41 Q 80 [v0, v1, v2, some (.inl a), v4, v5, v6, v7, v8, v9, v10, v11] st I J = GO x d 41 Q 81 [v0, v1, v2, some (.inl a), v4, v5, v6, v7, v8, v9, v10, v11] (.inl a :: st) I J := ge (A := (1, 81, 3, 0, 0)) rfl
set_option maxRecDepth 10000 in
theorem g_41_81 : GO x d 41 Q 81 [v0, v1, v2, v3, v4, v5, v6, v7, v8, v9, v10, v11] [.inl i0, .inl i1, .inl i2, .inr (.inr (.inl r))] I J = (okO r 3 ∧ EX x d 20 [.inr (.inr (.inl r)), .inl i2, .inl i1, .inl i0] I J (fun r1 I1 J1 => GO x d 41 Q 84 [v0, v1, v2, v3, v4, v5, v6, v7, v8, v9, v10, v11] (r1.toList ++ []) I1 J1)) := (ge (A := (53, 84, 20, 3, 0)) rfl).trans (gtrue (Nat.le_of_ble_eq_true rfl))
set_option maxRecDepth 10000 in
theorem g_41_84 : GO x d 41 Q 84 [v0, v1, v2, v3, v4, v5, v6, v7, v8, v9, v10, v11] (.inl a :: st) I J = (nlO (some v9) = true ∧ GO x d 41 Q 86 [v0, v1, v2, v3, v4, v5, v6, v7, v8, v9, some (.inl a), v11] st I J) := (ge (A := (4, 86, 10, 0, 0)) rfl).trans (gst (Nat.le_of_ble_eq_true rfl) _)
set_option maxRecDepth 10000 in
theorem g_41_86 : GO x d 41 Q 86 [v0, v1, v2, v3, v4, v5, v6, v7, v8, v9, some (.inl a), v11] st I J = GO x d 41 Q 88 [v0, v1, v2, v3, v4, v5, v6, v7, v8, v9, some (.inl a), v11] (.inl a :: st) I J := ge (A := (1, 88, 10, 0, 0)) rfl
set_option maxRecDepth 10000 in
theorem g_41_88 : GO x d 41 Q 88 [v0, v1, v2, v3, v4, v5, v6, v7, v8, v9, v10, v11] (.inl a :: st) I J = (inR a ∧ if a = 0 then GO x d 41 Q 108 [v0, v1, v2, v3, v4, v5, v6, v7, v8, v9, v10, v11] st I J else GO x d 41 Q 91 [v0, v1, v2, v3, v4, v5, v6, v7, v8, v9, v10, v11] st I J) := (ge (A := (33, 91, 108, 0, 0)) rfl).trans (gif (p := a = 0) inferInstance)
set_option maxRecDepth 10000 in
theorem g_41_91 : GO x d 41 Q 91 [some (.inr (.inr w)), v1, v2, v3, v4, v5, v6, v7, v8, v9, v10, v11] st I J = GO x d 41 Q 92 [some (.inr (.inr w)), v1, v2, v3, v4, v5, v6, v7, v8, v9, v10, v11] (.inr (.inr w) :: st) I J := ge (A := (2, 92, 0, 0, 0)) rfl
set_option maxRecDepth 10000 in
theorem g_41_92 : GO x d 41 Q 92 [v0, v1, v2, v3, v4, v5, v6, v7, v8, v9, v10, v11] (.inr (.inr (.inl r)) :: st) I J = (okF r 4 0 ∧ GO x d 41 Q 95 [v0, v1, v2, v3, v4, v5, v6, v7, v8, v9, v10, v11] (.inr (.inr (.inl (rfN r 0))) :: st) I J) := (ge (A := (39, 95, 4, 0, 0)) rfl).trans (gref (f := fun q => GO x d 41 Q 95 [v0, v1, v2, v3, v4, v5, v6, v7, v8, v9, v10, v11] (.inr (.inr (.inl q)) :: st) I J))
set_option maxRecDepth 10000 in
theorem g_41_95 : GO x d 41 Q 95 [v0, v1, v2, v3, v4, v5, v6, v7, v8, some (.inl a), v10, v11] st I J = GO x d 41 Q 97 [v0, v1, v2, v3, v4, v5, v6, v7, v8, some (.inl a), v10, v11] (.inl a :: st) I J := ge (A := (1, 97, 9, 0, 0)) rfl
set_option maxRecDepth 10000 in
theorem h_41_97 : GO x d 41 Q 97 [v0, v1, v2, v3, v4, v5, v6, v7, v8, v9, v10, v11] (.inl a :: .inr (.inr (.inr q)) :: st) I J = (q < 4 ∧ 0 ≤ a ∧ a < (roA x q).1 ∧ GO x d 41 Q 98 [v0, v1, v2, v3, v4, v5, v6, v7, v8, v9, v10, v11] (.inl ((roA x q).2 a.toNat) :: st) I J) := ge (A := (44, 98, 0, 0, 0)) rfl
set_option maxRecDepth 10000 in
theorem g_41_97 : GO x d 41 Q 97 [v0, v1, v2, v3, v4, v5, v6, v7, v8, v9, v10, v11] (.inl a :: .inr (.inr (.inl r)) :: st) I J = (okA r 20 ∧ 0 ≤ a ∧ a < lnN r ∧ GO x d 41 Q 98 [v0, v1, v2, v3, v4, v5, v6, v7, v8, v9, v10, v11] (.inl (I r a) :: st) I J) := ge (A := (44, 98, 0, 0, 0)) rfl
set_option maxRecDepth 10000 in
theorem g_41_98 : GO x d 41 Q 98 [v0, some (.inr (.inr w)), v2, v3, v4, v5, v6, v7, v8, v9, v10, v11] st I J = GO x d 41 Q 99 [v0, some (.inr (.inr w)), v2, v3, v4, v5, v6, v7, v8, v9, v10, v11] (.inr (.inr w) :: st) I J := ge (A := (2, 99, 1, 0, 0)) rfl
set_option maxRecDepth 10000 in
theorem g_41_99 : GO x d 41 Q 99 [v0, v1, v2, v3, v4, v5, v6, v7, v8, v9, v10, v11] (.inr (.inr (.inl r)) :: st) I J = (okO r 3 ∧ GO x d 41 Q 102 [v0, v1, v2, v3, v4, v5, v6, v7, v8, v9, v10, v11] (.inl (I r 1) :: st) I J) := ge (A := (37, 102, 3, 1, 0)) rfl
set_option maxRecDepth 10000 in
theorem g_41_102 : GO x d 41 Q 102 [v0, v1, v2, v3, v4, v5, v6, v7, v8, v9, v10, v11] (.inl b :: .inl a :: st) I J = GO x d 41 Q 103 [v0, v1, v2, v3, v4, v5, v6, v7, v8, v9, v10, v11] (.inl (a + b) :: st) I J := ge (A := (8, 103, 0, 0, 0)) rfl
set_option maxRecDepth 10000 in
theorem g_41_103 : GO x d 41 Q 103 [v0, v1, v2, some (.inl a), v4, v5, v6, v7, v8, v9, v10, v11] st I J = GO x d 41 Q 104 [v0, v1, v2, some (.inl a), v4, v5, v6, v7, v8, v9, v10, v11] (.inl a :: st) I J := ge (A := (1, 104, 3, 0, 0)) rfl
set_option maxRecDepth 10000 in
theorem g_41_104 : GO x d 41 Q 104 [v0, v1, v2, v3, v4, v5, v6, v7, v8, v9, v10, v11] (.inl b :: .inl a :: st) I J = GO x d 41 Q 105 [v0, v1, v2, v3, v4, v5, v6, v7, v8, v9, v10, v11] (.inl (a - b) :: st) I J := ge (A := (9, 105, 0, 0, 0)) rfl
set_option maxRecDepth 10000 in
theorem g_41_105 : GO x d 41 Q 105 [v0, v1, v2, v3, v4, v5, v6, v7, v8, v9, v10, v11] st I J = GO x d 41 Q 109 [v0, v1, v2, v3, v4, v5, v6, v7, v8, v9, v10, v11] st I J := ge (A := (35, 108, 109, 0, 0)) rfl
set_option maxRecDepth 10000 in
theorem g_41_108 : GO x d 41 Q 108 [v0, v1, v2, v3, v4, v5, v6, v7, v8, v9, v10, v11] st I J = GO x d 41 Q 109 [v0, v1, v2, v3, v4, v5, v6, v7, v8, v9, v10, v11] (.inl (0) :: st) I J := ge (A := (0, 109, 0, 0, 0)) rfl
set_option maxRecDepth 10000 in
theorem g_41_109 : GO x d 41 Q 109 [v0, v1, v2, v3, v4, v5, v6, v7, v8, v9, v10, v11] (.inl a :: st) I J = (nlO (some v10) = true ∧ GO x d 41 Q 111 [v0, v1, v2, v3, v4, v5, v6, v7, v8, v9, v10, some (.inl a)] st I J) := (ge (A := (4, 111, 11, 0, 0)) rfl).trans (gst (Nat.le_of_ble_eq_true rfl) _)
set_option maxRecDepth 10000 in
theorem g_41_111 : GO x d 41 Q 111 [v0, v1, v2, v3, v4, v5, some (.inr (.inl y)), v7, v8, v9, v10, v11] st I J = GO x d 41 Q 113 [v0, v1, v2, v3, v4, v5, some (.inr (.inl y)), v7, v8, v9, v10, v11] (.inr (.inl y) :: st) I J := ge (A := (3, 113, 6, 0, 0)) rfl
set_option maxRecDepth 10000 in
theorem g_41_113 : GO x d 41 Q 113 [v0, v1, v2, v3, v4, v5, v6, v7, v8, v9, v10, v11] st I J = GO x d 41 Q 114 [v0, v1, v2, v3, v4, v5, v6, v7, v8, v9, v10, v11] (.inl (4) :: st) I J := ge (A := (0, 114, 0, 0, 4)) rfl
set_option maxRecDepth 10000 in
theorem g_41_114 : GO x d 41 Q 114 [v0, v1, v2, v3, v4, v5, v6, v7, v8, v9, v10, v11] (.inl b :: .inr (.inl y) :: st) I J = GO x d 41 Q 115 [v0, v1, v2, v3, v4, v5, v6, v7, v8, v9, v10, v11] (.inr (.inl (y <<< ((Int32.ofInt b).toInt64 &&& 63))) :: st) I J := ge (A := (28, 115, 0, 0, 0)) rfl
set_option maxRecDepth 10000 in
theorem g_41_115 : GO x d 41 Q 115 [v0, v1, v2, v3, v4, v5, v6, v7, v8, v9, v10, some (.inl a)] st I J = GO x d 41 Q 117 [v0, v1, v2, v3, v4, v5, v6, v7, v8, v9, v10, some (.inl a)] (.inl a :: st) I J := ge (A := (1, 117, 11, 0, 0)) rfl
set_option maxRecDepth 10000 in
theorem g_41_117 : GO x d 41 Q 117 [v0, v1, v2, v3, v4, v5, v6, v7, some (.inl a), v9, v10, v11] st I J = GO x d 41 Q 119 [v0, v1, v2, v3, v4, v5, v6, v7, some (.inl a), v9, v10, v11] (.inl a :: st) I J := ge (A := (1, 119, 8, 0, 0)) rfl
set_option maxRecDepth 10000 in
theorem g_41_119 : GO x d 41 Q 119 [v0, v1, v2, v3, v4, v5, v6, v7, v8, v9, v10, v11] (.inl b :: .inl a :: st) I J = (catS st ≤ 8 ∧ inR a ∧ inR b ∧ GO x d 41 Q 122 [v0, v1, v2, v3, v4, v5, v6, v7, v8, v9, v10, v11] (.inl (if b < a then b else a) :: st) I J) := ge (A := (66, 122, 0, 0, 0)) rfl
set_option maxRecDepth 10000 in
theorem g_41_122 : GO x d 41 Q 122 [v0, v1, v2, v3, v4, v5, v6, v7, v8, v9, v10, v11] (.inl a :: st) I J = GO x d 41 Q 123 [v0, v1, v2, v3, v4, v5, v6, v7, v8, v9, v10, v11] (.inr (.inl (Int32.ofInt a).toInt64) :: st) I J := ge (A := (22, 123, 0, 0, 0)) rfl
set_option maxRecDepth 10000 in
theorem g_41_123 : GO x d 41 Q 123 [v0, v1, v2, v3, v4, v5, v6, v7, v8, v9, v10, v11] (.inr (.inl z) :: .inr (.inl y) :: st) I J = GO x d 41 Q 124 [v0, v1, v2, v3, v4, v5, v6, v7, v8, v9, v10, v11] (.inr (.inl (y ||| z)) :: st) I J := ge (A := (27, 124, 0, 0, 0)) rfl
set_option maxRecDepth 10000 in
theorem g_41_124 : GO x d 41 Q 124 [v0, v1, v2, v3, v4, v5, v6, v7, v8, v9, v10, v11] (.inr (.inl y) :: st) I J = (nlO (some v5) = true ∧ GO x d 41 Q 126 [v0, v1, v2, v3, v4, v5, some (.inr (.inl y)), none, v8, v9, v10, v11] st I J) := (ge (A := (6, 126, 6, 0, 0)) rfl).trans (propext ⟨fun h => ⟨h.1, h.2.2⟩, fun h => ⟨h.1, (Nat.le_of_ble_eq_true rfl), h.2⟩⟩)
set_option maxRecDepth 10000 in
theorem g_41_126 : GO x d 41 Q 126 [v0, v1, v2, v3, v4, v5, v6, v7, v8, some (.inl a), v10, v11] st I J = (nlO (some v8) = true ∧ GO x d 41 Q 129 [v0, v1, v2, v3, v4, v5, v6, v7, v8, some (.inl (a + (1))), v10, v11] st I J) := ge (A := (7, 129, 9, 0, 1)) rfl
set_option maxRecDepth 10000 in
theorem g_41_129 : GO x d 41 Q 129 [v0, v1, v2, v3, v4, v5, v6, v7, v8, v9, v10, v11] st I J = GO x d 41 Q 63 [v0, v1, v2, v3, v4, v5, v6, v7, v8, v9, v10, v11] st I J := ge (A := (35, 132, 63, 0, 0)) rfl
set_option maxRecDepth 10000 in
theorem g_41_132 : GO x d 41 Q 132 [v0, v1, v2, v3, v4, v5, some (.inr (.inl y)), v7, v8, v9, v10, v11] st I J = GO x d 41 Q 134 [v0, v1, v2, v3, v4, v5, some (.inr (.inl y)), v7, v8, v9, v10, v11] (.inr (.inl y) :: st) I J := ge (A := (3, 134, 6, 0, 0)) rfl
set_option maxRecDepth 10000 in
theorem g_41_134 : GO x d 41 Q 134 [v0, v1, v2, v3, v4, v5, v6, v7, v8, v9, v10, v11] st I J = GO x d 41 Q 137 [v0, v1, v2, v3, v4, v5, v6, v7, v8, v9, v10, v11] (.inr (.inl (Int64.ofInt (7046029254386353131))) :: st) I J := ge (A := (24, 137, 0, 0, 7046029254386353131)) rfl
set_option maxRecDepth 10000 in
theorem g_41_137 : GO x d 41 Q 137 [v0, v1, v2, v3, v4, v5, v6, v7, v8, v9, v10, v11] (.inr (.inl z) :: .inr (.inl y) :: st) I J = GO x d 41 Q 138 [v0, v1, v2, v3, v4, v5, v6, v7, v8, v9, v10, v11] (.inr (.inl (y * z)) :: st) I J := ge (A := (26, 138, 0, 0, 0)) rfl
set_option maxRecDepth 10000 in
theorem g_41_138 : GO x d 41 Q 138 [v0, v1, v2, v3, v4, v5, v6, v7, v8, v9, v10, v11] st I J = GO x d 41 Q 140 [v0, v1, v2, v3, v4, v5, v6, v7, v8, v9, v10, v11] (.inl (54) :: st) I J := ge (A := (0, 140, 0, 0, 54)) rfl
set_option maxRecDepth 10000 in
theorem g_41_140 : GO x d 41 Q 140 [v0, v1, v2, v3, v4, v5, v6, v7, v8, v9, v10, v11] (.inl b :: .inr (.inl y) :: st) I J = GO x d 41 Q 141 [v0, v1, v2, v3, v4, v5, v6, v7, v8, v9, v10, v11] (.inr (.inl (y.toUInt64 >>> ((Int32.ofInt b).toInt64.toUInt64 &&& Int64.toUInt64 63)).toInt64) :: st) I J := ge (A := (29, 141, 0, 0, 0)) rfl
set_option maxRecDepth 10000 in
theorem g_41_141 : GO x d 41 Q 141 [v0, v1, v2, v3, v4, v5, v6, v7, v8, v9, v10, v11] (.inr (.inl y) :: st) I J = GO x d 41 Q 142 [v0, v1, v2, v3, v4, v5, v6, v7, v8, v9, v10, v11] (.inl y.toInt32.toInt :: st) I J := ge (A := (23, 142, 0, 0, 0)) rfl
set_option maxRecDepth 10000 in
theorem g_41_142 : GO x d 41 Q 142 [v0, v1, v2, v3, v4, v5, v6, v7, v8, v9, v10, v11] st I J = GO x d 41 Q 145 [v0, v1, v2, v3, v4, v5, v6, v7, v8, v9, v10, v11] (.inl (1023) :: st) I J := ge (A := (0, 145, 0, 0, 1023)) rfl
set_option maxRecDepth 10000 in
theorem g_41_145 : GO x d 41 Q 145 [v0, v1, v2, v3, v4, v5, v6, v7, v8, v9, v10, v11] (.inl b :: .inl a :: st) I J = GO x d 41 Q 146 [v0, v1, v2, v3, v4, v5, v6, v7, v8, v9, v10, v11] (.inl (andI a b) :: st) I J := ge (A := (11, 146, 0, 0, 0)) rfl
set_option maxRecDepth 10000 in
theorem g_41_146 : GO x d 41 Q 146 [v0, v1, v2, v3, v4, v5, v6, v7, v8, v9, v10, v11] (.inl a :: st) I J = (nlO (some v8) = true ∧ GO x d 41 Q 148 [v0, v1, v2, v3, v4, v5, v6, v7, v8, some (.inl a), v10, v11] st I J) := (ge (A := (4, 148, 9, 0, 0)) rfl).trans (gst (Nat.le_of_ble_eq_true rfl) _)
set_option maxRecDepth 10000 in
theorem g_41_148 : GO x d 41 Q 148 [some (.inr (.inr w)), v1, v2, v3, v4, v5, v6, v7, v8, v9, v10, v11] st I J = GO x d 41 Q 149 [some (.inr (.inr w)), v1, v2, v3, v4, v5, v6, v7, v8, v9, v10, v11] (.inr (.inr w) :: st) I J := ge (A := (2, 149, 0, 0, 0)) rfl
set_option maxRecDepth 10000 in
theorem g_41_149 : GO x d 41 Q 149 [v0, v1, v2, v3, v4, v5, v6, v7, v8, v9, v10, v11] (.inr (.inr (.inl r)) :: st) I J = (okF r 4 3 ∧ GO x d 41 Q 152 [v0, v1, v2, v3, v4, v5, v6, v7, v8, v9, v10, v11] (.inr (.inr (.inl (rfN r 3))) :: st) I J) := (ge (A := (39, 152, 4, 3, 0)) rfl).trans (gref (f := fun q => GO x d 41 Q 152 [v0, v1, v2, v3, v4, v5, v6, v7, v8, v9, v10, v11] (.inr (.inr (.inl q)) :: st) I J))
set_option maxRecDepth 10000 in
theorem g_41_152 : GO x d 41 Q 152 [v0, v1, v2, v3, v4, v5, v6, v7, v8, some (.inl a), v10, v11] st I J = GO x d 41 Q 154 [v0, v1, v2, v3, v4, v5, v6, v7, v8, some (.inl a), v10, v11] (.inl a :: st) I J := ge (A := (1, 154, 9, 0, 0)) rfl
set_option maxRecDepth 10000 in
theorem g_41_154 : GO x d 41 Q 154 [v0, v1, v2, v3, v4, v5, v6, v7, v8, v9, v10, v11] (.inl a :: .inr (.inr (.inl r)) :: st) I J = (okA r 21 ∧ 0 ≤ a ∧ a < lnN r ∧ GO x d 41 Q 155 [v0, v1, v2, v3, v4, v5, v6, v7, v8, v9, v10, v11] (.inr (.inl (J r a)) :: st) I J) := ge (A := (48, 155, 0, 0, 0)) rfl
set_option maxRecDepth 10000 in
theorem g_41_155 : GO x d 41 Q 155 [v0, v1, v2, v3, v4, v5, some (.inr (.inl y)), v7, v8, v9, v10, v11] st I J = GO x d 41 Q 157 [v0, v1, v2, v3, v4, v5, some (.inr (.inl y)), v7, v8, v9, v10, v11] (.inr (.inl y) :: st) I J := ge (A := (3, 157, 6, 0, 0)) rfl
set_option maxRecDepth 10000 in
theorem g_41_157 : GO x d 41 Q 157 [v0, v1, v2, v3, v4, v5, v6, v7, v8, v9, v10, v11] (.inr (.inl z) :: .inr (.inl y) :: st) I J = GO x d 41 Q 158 [v0, v1, v2, v3, v4, v5, v6, v7, v8, v9, v10, v11] (.inl (lg_cmp y z).toInt :: st) I J := ge (A := (30, 158, 0, 0, 0)) rfl
set_option maxRecDepth 10000 in
theorem g_41_158 : GO x d 41 Q 158 [v0, v1, v2, v3, v4, v5, v6, v7, v8, v9, v10, v11] (.inl a :: st) I J = (inR a ∧ if a = 0 then GO x d 41 Q 161 [v0, v1, v2, v3, v4, v5, v6, v7, v8, v9, v10, v11] st I J else GO x d 41 Q 165 [v0, v1, v2, v3, v4, v5, v6, v7, v8, v9, v10, v11] st I J) := (ge (A := (33, 161, 165, 1, 0)) rfl).trans (gifn (p := a = 0) inferInstance)
set_option maxRecDepth 10000 in
theorem g_41_161 : GO x d 41 Q 161 [v0, v1, v2, v3, v4, v5, v6, v7, v8, v9, v10, v11] st I J = GO x d 41 Q 162 [v0, v1, v2, v3, v4, v5, v6, v7, v8, v9, v10, v11] (.inl (1) :: st) I J := ge (A := (0, 162, 0, 0, 1)) rfl
set_option maxRecDepth 10000 in
theorem g_41_162 : GO x d 41 Q 162 [v0, v1, v2, v3, v4, v5, v6, v7, v8, v9, v10, v11] st I J = GO x d 41 Q 166 [v0, v1, v2, v3, v4, v5, v6, v7, v8, v9, v10, v11] st I J := ge (A := (35, 165, 166, 0, 0)) rfl
set_option maxRecDepth 10000 in
theorem g_41_165 : GO x d 41 Q 165 [v0, v1, v2, v3, v4, v5, v6, v7, v8, v9, v10, v11] st I J = GO x d 41 Q 166 [v0, v1, v2, v3, v4, v5, v6, v7, v8, v9, v10, v11] (.inl (0) :: st) I J := ge (A := (0, 166, 0, 0, 0)) rfl
set_option maxRecDepth 10000 in
theorem g_41_166 : GO x d 41 Q 166 [v0, v1, v2, v3, v4, v5, v6, v7, v8, v9, v10, v11] (.inl a :: st) I J = (nlO (some v9) = true ∧ GO x d 41 Q 168 [v0, v1, v2, v3, v4, v5, v6, v7, v8, v9, some (.inl a), v11] st I J) := (ge (A := (4, 168, 10, 0, 0)) rfl).trans (gst (Nat.le_of_ble_eq_true rfl) _)
set_option maxRecDepth 10000 in
theorem g_41_168 : GO x d 41 Q 168 [some (.inr (.inr w)), v1, v2, v3, v4, v5, v6, v7, v8, v9, v10, v11] st I J = GO x d 41 Q 169 [some (.inr (.inr w)), v1, v2, v3, v4, v5, v6, v7, v8, v9, v10, v11] (.inr (.inr w) :: st) I J := ge (A := (2, 169, 0, 0, 0)) rfl
set_option maxRecDepth 10000 in
theorem g_41_169 : GO x d 41 Q 169 [v0, v1, v2, v3, v4, v5, v6, v7, v8, v9, v10, v11] (.inr (.inr (.inl r)) :: st) I J = (okF r 4 3 ∧ GO x d 41 Q 172 [v0, v1, v2, v3, v4, v5, v6, v7, v8, v9, v10, v11] (.inr (.inr (.inl (rfN r 3))) :: st) I J) := (ge (A := (39, 172, 4, 3, 0)) rfl).trans (gref (f := fun q => GO x d 41 Q 172 [v0, v1, v2, v3, v4, v5, v6, v7, v8, v9, v10, v11] (.inr (.inr (.inl q)) :: st) I J))
set_option maxRecDepth 10000 in
theorem g_41_172 : GO x d 41 Q 172 [v0, v1, v2, v3, v4, v5, v6, v7, v8, some (.inl a), v10, v11] st I J = GO x d 41 Q 174 [v0, v1, v2, v3, v4, v5, v6, v7, v8, some (.inl a), v10, v11] (.inl a :: st) I J := ge (A := (1, 174, 9, 0, 0)) rfl
set_option maxRecDepth 10000 in
theorem g_41_174 : GO x d 41 Q 174 [v0, v1, v2, v3, v4, v5, some (.inr (.inl y)), v7, v8, v9, v10, v11] st I J = GO x d 41 Q 176 [v0, v1, v2, v3, v4, v5, some (.inr (.inl y)), v7, v8, v9, v10, v11] (.inr (.inl y) :: st) I J := ge (A := (3, 176, 6, 0, 0)) rfl
set_option maxRecDepth 10000 in
theorem g_41_176 : GO x d 41 Q 176 [v0, v1, v2, v3, v4, v5, v6, v7, v8, v9, v10, v11] (.inr (.inl y) :: .inl a :: .inr (.inr (.inl r)) :: st) I J = (okA r 21 ∧ 0 ≤ a ∧ a < lnN r ∧ GO x d 41 Q 177 [v0, v1, v2, v3, v4, v5, v6, v7, v8, v9, v10, v11] st I (upL J r a y)) := ge (A := (49, 177, 0, 0, 0)) rfl
set_option maxRecDepth 10000 in
theorem g_41_177 : GO x d 41 Q 177 [v0, v1, v2, v3, v4, v5, v6, v7, v8, v9, some (.inl a), v11] st I J = GO x d 41 Q 179 [v0, v1, v2, v3, v4, v5, v6, v7, v8, v9, some (.inl a), v11] (.inl a :: st) I J := ge (A := (1, 179, 10, 0, 0)) rfl
set_option maxRecDepth 10000 in
theorem g_41_179 : GO x d 41 Q 179 [v0, v1, v2, v3, v4, v5, v6, v7, v8, v9, v10, v11] [.inl a] I J = (ret01 a ∧ Q (some (.inl a)) I J) := ge (A := (56, 180, 0, 0, 0)) rfl
set_option maxRecDepth 10000 in
theorem e_41 : EX x (d + 1) 41 [.inr (.inr w0), .inr (.inr w1), .inl i0, .inl i1, .inl i2, .inl i3] I J Q = GO x d 41 Q 0 [some (.inr (.inr w0)), some (.inr (.inr w1)), some (.inl i0), some (.inl i1), some (.inl i2), some (.inl i3), none, none, none, none, none, none] [] I J := ex_eq (Nat.le_of_ble_eq_true rfl) rfl (Nat.le_of_ble_eq_true rfl) rfl
set_option maxRecDepth 10000 in
theorem g_43_0 : GO x d 43 Q 0 [some (.inr (.inr w)), v1, v2] st I J = GO x d 43 Q 1 [some (.inr (.inr w)), v1, v2] (.inr (.inr w) :: st) I J := ge (A := (2, 1, 0, 0, 0)) rfl
set_option maxRecDepth 10000 in
theorem g_43_1 : GO x d 43 Q 1 [v0, v1, v2] (.inr (.inr (.inl r)) :: st) I J = (okF r 5 0 ∧ GO x d 43 Q 4 [v0, v1, v2] (.inr (.inr (.inl (rfN r 0))) :: st) I J) := (ge (A := (39, 4, 5, 0, 0)) rfl).trans (gref (f := fun q => GO x d 43 Q 4 [v0, v1, v2] (.inr (.inr (.inl q)) :: st) I J))
set_option maxRecDepth 10000 in
theorem g_43_4 : GO x d 43 Q 4 [v0, v1, v2] st I J = GO x d 43 Q 5 [v0, v1, v2] (.inl (0) :: st) I J := ge (A := (0, 5, 0, 0, 0)) rfl
set_option maxRecDepth 10000 in
theorem g_43_5 : GO x d 43 Q 5 [v0, v1, v2] [.inl i0, .inr (.inr w0)] I J = EX x d 183 [.inr (.inr w0), .inl i0] I J (fun r1 I1 J1 => GO x d 43 Q 8 [v0, v1, v2] (r1.toList ++ []) I1 J1) := (ge (A := (52, 8, 183, 2, 0)) rfl).trans (gtrue2 (Nat.le_of_ble_eq_true rfl) (Nat.le_of_ble_eq_true rfl))
set_option maxRecDepth 10000 in
theorem g_43_8 : GO x d 43 Q 8 [some (.inr (.inr w)), v1, v2] st I J = GO x d 43 Q 9 [some (.inr (.inr w)), v1, v2] (.inr (.inr w) :: st) I J := ge (A := (2, 9, 0, 0, 0)) rfl
set_option maxRecDepth 10000 in
theorem g_43_9 : GO x d 43 Q 9 [v0, v1, v2] st I J = GO x d 43 Q 10 [v0, v1, v2] (.inl (1) :: st) I J := ge (A := (0, 10, 0, 0, 1)) rfl
set_option maxRecDepth 10000 in
theorem g_43_10 : GO x d 43 Q 10 [v0, v1, v2] (.inl a :: .inr (.inr (.inl r)) :: st) I J = (okO r 5 ∧ ret01 a ∧ GO x d 43 Q 13 [v0, v1, v2] st (up I r 1 a) J) := ge (A := (41, 13, 5, 1, 0)) rfl
set_option maxRecDepth 10000 in
theorem g_43_13 : GO x d 43 Q 13 [some (.inr (.inr w)), v1, v2] st I J = GO x d 43 Q 14 [some (.inr (.inr w)), v1, v2] (.inr (.inr w) :: st) I J := ge (A := (2, 14, 0, 0, 0)) rfl
set_option maxRecDepth 10000 in
theorem g_43_14 : GO x d 43 Q 14 [v0, some (.inl a), v2] st I J = GO x d 43 Q 15 [v0, some (.inl a), v2] (.inl a :: st) I J := ge (A := (1, 15, 1, 0, 0)) rfl
set_option maxRecDepth 10000 in
theorem g_43_15 : GO x d 43 Q 15 [v0, v1, v2] (.inl a :: .inr (.inr (.inl r)) :: st) I J = (okO r 5 ∧ GO x d 43 Q 18 [v0, v1, v2] st (up I r 2 a) J) := ge (A := (40, 18, 5, 2, 0)) rfl
set_option maxRecDepth 10000 in
theorem g_43_18 : GO x d 43 Q 18 [some (.inr (.inr w)), v1, v2] st I J = GO x d 43 Q 19 [some (.inr (.inr w)), v1, v2] (.inr (.inr w) :: st) I J := ge (A := (2, 19, 0, 0, 0)) rfl
set_option maxRecDepth 10000 in
theorem g_43_19 : GO x d 43 Q 19 [v0, v1, some (.inl a)] st I J = GO x d 43 Q 20 [v0, v1, some (.inl a)] (.inl a :: st) I J := ge (A := (1, 20, 2, 0, 0)) rfl
set_option maxRecDepth 10000 in
theorem g_43_20 : GO x d 43 Q 20 [v0, v1, v2] (.inl a :: .inr (.inr (.inl r)) :: st) I J = (okO r 5 ∧ GO x d 43 Q 23 [v0, v1, v2] st (up I r 3 a) J) := ge (A := (40, 23, 5, 3, 0)) rfl
set_option maxRecDepth 10000 in
theorem g_43_23 : GO x d 43 Q 23 [v0, v1, v2] [] I J = Q none I J := ge (A := (57, 24, 0, 0, 0)) rfl
set_option maxRecDepth 10000 in
theorem e_43 : EX x (d + 1) 43 [.inr (.inr w0), .inl i0, .inl i1] I J Q = GO x d 43 Q 0 [some (.inr (.inr w0)), some (.inl i0), some (.inl i1)] [] I J := ex_eq (Nat.le_of_ble_eq_true rfl) rfl (Nat.le_of_ble_eq_true rfl) rfl
set_option maxRecDepth 10000 in
theorem g_44_0 : GO x d 44 Q 0 [some (.inr (.inr w)), v1] st I J = GO x d 44 Q 1 [some (.inr (.inr w)), v1] (.inr (.inr w) :: st) I J := ge (A := (2, 1, 0, 0, 0)) rfl
set_option maxRecDepth 10000 in
theorem g_44_1 : GO x d 44 Q 1 [v0, v1] (.inr (.inr (.inl r)) :: st) I J = (okO r 5 ∧ GO x d 44 Q 4 [v0, v1] (.inl (I r 2) :: st) I J) := ge (A := (37, 4, 5, 2, 0)) rfl
set_option maxRecDepth 10000 in
theorem g_44_4 : GO x d 44 Q 4 [v0, v1] (.inl a :: st) I J = (inR a ∧ if a = 0 then GO x d 44 Q 7 [v0, v1] st I J else GO x d 44 Q 10 [v0, v1] st I J) := (ge (A := (33, 7, 10, 1, 0)) rfl).trans (gifn (p := a = 0) inferInstance)
set_option maxRecDepth 10000 in
theorem g_44_7 : GO x d 44 Q 7 [v0, some (.inl a)] st I J = GO x d 44 Q 8 [v0, some (.inl a)] (.inl a :: st) I J := ge (A := (1, 8, 1, 0, 0)) rfl
set_option maxRecDepth 10000 in
theorem g_44_8 : GO x d 44 Q 8 [v0, v1] (.inl a :: st) I J = GO x d 44 Q 9 [v0, v1] (.inl (b8 a) :: st) I J := ge (A := (20, 9, 0, 0, 0)) rfl
set_option maxRecDepth 10000 in
theorem g_44_9 : GO x d 44 Q 9 [v0, v1] [.inl a] I J = Q (some (.inl a)) I J := ge (A := (55, 10, 0, 0, 0)) rfl
set_option maxRecDepth 10000 in
theorem g_44_10 : GO x d 44 Q 10 [some (.inr (.inr w)), v1] st I J = GO x d 44 Q 11 [some (.inr (.inr w)), v1] (.inr (.inr w) :: st) I J := ge (A := (2, 11, 0, 0, 0)) rfl
set_option maxRecDepth 10000 in
theorem g_44_11 : GO x d 44 Q 11 [v0, v1] (.inr (.inr (.inl r)) :: st) I J = (okO r 5 ∧ GO x d 44 Q 14 [v0, v1] (.inl (I r 2) :: st) I J) := ge (A := (37, 14, 5, 2, 0)) rfl
set_option maxRecDepth 10000 in
theorem g_44_14 : GO x d 44 Q 14 [v0, v1] st I J = GO x d 44 Q 15 [v0, v1] (.inl (1) :: st) I J := ge (A := (0, 15, 0, 0, 1)) rfl
set_option maxRecDepth 10000 in
theorem g_44_15 : GO x d 44 Q 15 [v0, v1] (.inl b :: .inl a :: st) I J = (inR a ∧ inR b ∧ if a = b then GO x d 44 Q 18 [v0, v1] st I J else GO x d 44 Q 23 [v0, v1] st I J) := (ge (A := (34, 18, 23, 1, 0)) rfl).trans (gicn (p := a = b) inferInstance)
set_option maxRecDepth 10000 in
theorem g_44_18 : GO x d 44 Q 18 [v0, some (.inl a)] st I J = GO x d 44 Q 19 [v0, some (.inl a)] (.inl a :: st) I J := ge (A := (1, 19, 1, 0, 0)) rfl
set_option maxRecDepth 10000 in
theorem g_44_19 : GO x d 44 Q 19 [v0, v1] (.inl a :: st) I J = GO x d 44 Q 20 [v0, v1] (.inl (b16 a) :: st) I J := ge (A := (21, 20, 0, 0, 0)) rfl
set_option maxRecDepth 10000 in
theorem g_44_20 : GO x d 44 Q 20 [v0, v1] st I J = GO x d 44 Q 24 [v0, v1] st I J := ge (A := (35, 23, 24, 0, 0)) rfl
set_option maxRecDepth 10000 in
theorem g_44_23 : GO x d 44 Q 23 [v0, some (.inl a)] st I J = GO x d 44 Q 24 [v0, some (.inl a)] (.inl a :: st) I J := ge (A := (1, 24, 1, 0, 0)) rfl
set_option maxRecDepth 10000 in
theorem g_44_24 : GO x d 44 Q 24 [v0, v1] [.inl a] I J = Q (some (.inl a)) I J := ge (A := (55, 25, 0, 0, 0)) rfl
set_option maxRecDepth 10000 in
theorem e_44 : EX x (d + 1) 44 [.inr (.inr w0), .inl i0] I J Q = GO x d 44 Q 0 [some (.inr (.inr w0)), some (.inl i0)] [] I J := ex_eq (Nat.le_of_ble_eq_true rfl) rfl (Nat.le_of_ble_eq_true rfl) rfl
set_option maxRecDepth 10000 in
theorem g_45_0 : GO x d 45 Q 0 [v0, some (.inl a), v2] st I J = GO x d 45 Q 1 [v0, some (.inl a), v2] (.inl a :: st) I J := ge (A := (1, 1, 1, 0, 0)) rfl
set_option maxRecDepth 10000 in
theorem g_45_1 : GO x d 45 Q 1 [v0, v1, v2] (.inl a :: st) I J = (inR a ∧ if a < 0 then GO x d 45 Q 30 [v0, v1, v2] st I J else GO x d 45 Q 4 [v0, v1, v2] st I J) := (ge (A := (33, 4, 30, 2, 0)) rfl).trans (gif (p := a < 0) inferInstance)
set_option maxRecDepth 10000 in
theorem g_45_4 : GO x d 45 Q 4 [v0, v1, some (.inl a)] st I J = GO x d 45 Q 5 [v0, v1, some (.inl a)] (.inl a :: st) I J := ge (A := (1, 5, 2, 0, 0)) rfl
set_option maxRecDepth 10000 in
theorem g_45_5 : GO x d 45 Q 5 [v0, v1, v2] (.inl a :: st) I J = (inR a ∧ if a < 0 then GO x d 45 Q 30 [v0, v1, v2] st I J else GO x d 45 Q 8 [v0, v1, v2] st I J) := (ge (A := (33, 8, 30, 2, 0)) rfl).trans (gif (p := a < 0) inferInstance)
set_option maxRecDepth 10000 in
theorem g_45_8 : GO x d 45 Q 8 [v0, some (.inl a), v2] st I J = GO x d 45 Q 9 [v0, some (.inl a), v2] (.inl a :: st) I J := ge (A := (1, 9, 1, 0, 0)) rfl
set_option maxRecDepth 10000 in
theorem g_45_9 : GO x d 45 Q 9 [some (.inr (.inr w)), v1, v2] st I J = GO x d 45 Q 10 [some (.inr (.inr w)), v1, v2] (.inr (.inr w) :: st) I J := ge (A := (2, 10, 0, 0, 0)) rfl
set_option maxRecDepth 10000 in
theorem g_45_10 : GO x d 45 Q 10 [v0, v1, v2] (.inr (.inr (.inl r)) :: st) I J = (okO r 5 ∧ GO x d 45 Q 13 [v0, v1, v2] (.inl (I r 3) :: st) I J) := ge (A := (37, 13, 5, 3, 0)) rfl
set_option maxRecDepth 10000 in
theorem g_45_13 : GO x d 45 Q 13 [v0, v1, v2] (.inl b :: .inl a :: st) I J = (inR a ∧ inR b ∧ if b < a then GO x d 45 Q 30 [v0, v1, v2] st I J else GO x d 45 Q 16 [v0, v1, v2] st I J) := (ge (A := (34, 16, 30, 4, 0)) rfl).trans (gic (p := b < a) inferInstance)
set_option maxRecDepth 10000 in
theorem g_45_16 : GO x d 45 Q 16 [v0, v1, some (.inl a)] st I J = GO x d 45 Q 17 [v0, v1, some (.inl a)] (.inl a :: st) I J := ge (A := (1, 17, 2, 0, 0)) rfl
set_option maxRecDepth 10000 in
theorem g_45_17 : GO x d 45 Q 17 [some (.inr (.inr w)), v1, v2] st I J = GO x d 45 Q 18 [some (.inr (.inr w)), v1, v2] (.inr (.inr w) :: st) I J := ge (A := (2, 18, 0, 0, 0)) rfl
set_option maxRecDepth 10000 in
theorem g_45_18 : GO x d 45 Q 18 [v0, v1, v2] (.inr (.inr (.inl r)) :: st) I J = (okO r 5 ∧ GO x d 45 Q 21 [v0, v1, v2] (.inl (I r 3) :: st) I J) := ge (A := (37, 21, 5, 3, 0)) rfl
set_option maxRecDepth 10000 in
theorem g_45_21 : GO x d 45 Q 21 [v0, some (.inl a), v2] st I J = GO x d 45 Q 22 [v0, some (.inl a), v2] (.inl a :: st) I J := ge (A := (1, 22, 1, 0, 0)) rfl
set_option maxRecDepth 10000 in
theorem g_45_22 : GO x d 45 Q 22 [v0, v1, v2] (.inl b :: .inl a :: st) I J = GO x d 45 Q 23 [v0, v1, v2] (.inl (a - b) :: st) I J := ge (A := (9, 23, 0, 0, 0)) rfl
set_option maxRecDepth 10000 in
theorem g_45_23 : GO x d 45 Q 23 [v0, v1, v2] (.inl b :: .inl a :: st) I J = (inR a ∧ inR b ∧ if b < a then GO x d 45 Q 30 [v0, v1, v2] st I J else GO x d 45 Q 26 [v0, v1, v2] st I J) := (ge (A := (34, 26, 30, 4, 0)) rfl).trans (gic (p := b < a) inferInstance)
set_option maxRecDepth 10000 in
theorem g_45_26 : GO x d 45 Q 26 [v0, v1, v2] st I J = GO x d 45 Q 27 [v0, v1, v2] (.inl (1) :: st) I J := ge (A := (0, 27, 0, 0, 1)) rfl
set_option maxRecDepth 10000 in
theorem g_45_27 : GO x d 45 Q 27 [v0, v1, v2] st I J = GO x d 45 Q 31 [v0, v1, v2] st I J := ge (A := (35, 30, 31, 0, 0)) rfl
set_option maxRecDepth 10000 in
theorem g_45_30 : GO x d 45 Q 30 [v0, v1, v2] st I J = GO x d 45 Q 31 [v0, v1, v2] (.inl (0) :: st) I J := ge (A := (0, 31, 0, 0, 0)) rfl
set_option maxRecDepth 10000 in
theorem g_45_31 : GO x d 45 Q 31 [v0, v1, v2] [.inl a] I J = (ret01 a ∧ Q (some (.inl a)) I J) := ge (A := (56, 32, 0, 0, 0)) rfl
set_option maxRecDepth 10000 in
theorem e_45 : EX x (d + 1) 45 [.inr (.inr w0), .inl i0, .inl i1] I J Q = GO x d 45 Q 0 [some (.inr (.inr w0)), some (.inl i0), some (.inl i1)] [] I J := ex_eq (Nat.le_of_ble_eq_true rfl) rfl (Nat.le_of_ble_eq_true rfl) rfl
set_option maxRecDepth 10000 in
theorem g_47_0 : GO x d 47 Q 0 [v0, some (.inr (.inr w)), v2, v3, v4] st I J = GO x d 47 Q 1 [v0, some (.inr (.inr w)), v2, v3, v4] (.inr (.inr w) :: st) I J := ge (A := (2, 1, 1, 0, 0)) rfl
set_option maxRecDepth 10000 in
theorem g_47_1 : GO x d 47 Q 1 [v0, v1, v2, v3, v4] [.inr (.inr w0)] I J = EX x d 49 [.inr (.inr w0)] I J (fun r1 I1 J1 => GO x d 47 Q 4 [v0, v1, v2, v3, v4] (r1.toList ++ []) I1 J1) := (ge (A := (52, 4, 49, 1, 0)) rfl).trans (gtrue2 (Nat.le_of_ble_eq_true rfl) (Nat.le_of_ble_eq_true rfl))
set_option maxRecDepth 10000 in
theorem g_47_4 : GO x d 47 Q 4 [v0, v1, v2, v3, v4] (.inl a :: st) I J = (nlO (some v1) = true ∧ GO x d 47 Q 5 [v0, v1, some (.inl a), v3, v4] st I J) := (ge (A := (4, 5, 2, 0, 0)) rfl).trans (gst (Nat.le_of_ble_eq_true rfl) _)
set_option maxRecDepth 10000 in
theorem g_47_5 : GO x d 47 Q 5 [v0, v1, v2, v3, v4] st I J = GO x d 47 Q 6 [v0, v1, v2, v3, v4] (.inl (1) :: st) I J := ge (A := (0, 6, 0, 0, 1)) rfl
set_option maxRecDepth 10000 in
theorem g_47_6 : GO x d 47 Q 6 [v0, some (.inr (.inr w)), v2, v3, v4] st I J = GO x d 47 Q 7 [v0, some (.inr (.inr w)), v2, v3, v4] (.inr (.inr w) :: st) I J := ge (A := (2, 7, 1, 0, 0)) rfl
set_option maxRecDepth 10000 in
theorem g_47_7 : GO x d 47 Q 7 [v0, v1, v2, v3, v4] (.inr (.inr (.inl r)) :: st) I J = (okO r 3 ∧ GO x d 47 Q 10 [v0, v1, v2, v3, v4] (.inl (I r 3) :: st) I J) := ge (A := (37, 10, 3, 3, 0)) rfl
set_option maxRecDepth 10000 in
theorem g_47_10 : GO x d 47 Q 10 [v0, v1, v2, v3, v4] (.inl b :: .inl a :: st) I J = GO x d 47 Q 11 [v0, v1, v2, v3, v4] (.inl (shlI a b) :: st) I J := ge (A := (14, 11, 0, 0, 0)) rfl
set_option maxRecDepth 10000 in
theorem g_47_11 : GO x d 47 Q 11 [v0, v1, v2, v3, v4] st I J = GO x d 47 Q 12 [v0, v1, v2, v3, v4] (.inl (1) :: st) I J := ge (A := (0, 12, 0, 0, 1)) rfl
set_option maxRecDepth 10000 in
theorem g_47_12 : GO x d 47 Q 12 [v0, v1, v2, v3, v4] (.inl b :: .inl a :: st) I J = GO x d 47 Q 13 [v0, v1, v2, v3, v4] (.inl (a - b) :: st) I J := ge (A := (9, 13, 0, 0, 0)) rfl
set_option maxRecDepth 10000 in
theorem g_47_13 : GO x d 47 Q 13 [v0, v1, v2, v3, v4] (.inl a :: st) I J = (nlO (some v2) = true ∧ GO x d 47 Q 14 [v0, v1, v2, some (.inl a), v4] st I J) := (ge (A := (4, 14, 3, 0, 0)) rfl).trans (gst (Nat.le_of_ble_eq_true rfl) _)
set_option maxRecDepth 10000 in
theorem g_47_14 : GO x d 47 Q 14 [v0, v1, v2, some (.inl a), v4] st I J = GO x d 47 Q 15 [v0, v1, v2, some (.inl a), v4] (.inl a :: st) I J := ge (A := (1, 15, 3, 0, 0)) rfl
set_option maxRecDepth 10000 in
theorem g_47_15 : GO x d 47 Q 15 [v0, v1, v2, v3, v4] (.inl a :: st) I J = (inR a ∧ if a < 0 then GO x d 47 Q 65 [v0, v1, v2, v3, v4] st I J else GO x d 47 Q 18 [v0, v1, v2, v3, v4] st I J) := (ge (A := (33, 18, 65, 2, 0)) rfl).trans (gif (p := a < 0) inferInstance)
set_option maxRecDepth 10000 in
theorem g_47_18 : GO x d 47 Q 18 [v0, v1, v2, v3, v4] st I J = GO x d 47 Q 19 [v0, v1, v2, v3, v4] (.inl (0) :: st) I J := ge (A := (0, 19, 0, 0, 0)) rfl
set_option maxRecDepth 10000 in
theorem g_47_19 : GO x d 47 Q 19 [v0, v1, v2, v3, v4] (.inl a :: st) I J = (nlO (some v3) = true ∧ GO x d 47 Q 21 [v0, v1, v2, v3, some (.inl a)] st I J) := (ge (A := (4, 21, 4, 0, 0)) rfl).trans (gst (Nat.le_of_ble_eq_true rfl) _)
set_option maxRecDepth 10000 in
theorem g_47_21 : GO x d 47 Q 21 [v0, v1, v2, v3, some (.inl a)] st I J = GO x d 47 Q 23 [v0, v1, v2, v3, some (.inl a)] (.inl a :: st) I J := ge (A := (1, 23, 4, 0, 0)) rfl
set_option maxRecDepth 10000 in
theorem g_47_23 : GO x d 47 Q 23 [v0, v1, v2, v3, v4] st I J = GO x d 47 Q 24 [v0, v1, v2, v3, v4] (.inl (4) :: st) I J := ge (A := (0, 24, 0, 0, 4)) rfl
set_option maxRecDepth 10000 in
theorem g_47_24 : GO x d 47 Q 24 [v0, v1, v2, v3, v4] (.inl b :: .inl a :: st) I J = (inR a ∧ inR b ∧ if a < b then GO x d 47 Q 27 [v0, v1, v2, v3, v4] st I J else GO x d 47 Q 59 [v0, v1, v2, v3, v4] st I J) := (ge (A := (34, 27, 59, 3, 0)) rfl).trans (ggec)
set_option maxRecDepth 10000 in
theorem g_47_27 : GO x d 47 Q 27 [v0, v1, v2, some (.inl a), v4] st I J = GO x d 47 Q 28 [v0, v1, v2, some (.inl a), v4] (.inl a :: st) I J := ge (A := (1, 28, 3, 0, 0)) rfl
set_option maxRecDepth 10000 in
theorem g_47_28 : GO x d 47 Q 28 [v0, v1, some (.inl a), v3, v4] st I J = GO x d 47 Q 29 [v0, v1, some (.inl a), v3, v4] (.inl a :: st) I J := ge (A := (1, 29, 2, 0, 0)) rfl
set_option maxRecDepth 10000 in
theorem g_47_29 : GO x d 47 Q 29 [v0, v1, v2, v3, v4] (.inl b :: .inl a :: st) I J = GO x d 47 Q 30 [v0, v1, v2, v3, v4] (.inl (andI a b) :: st) I J := ge (A := (11, 30, 0, 0, 0)) rfl
set_option maxRecDepth 10000 in
theorem g_47_30 : GO x d 47 Q 30 [v0, v1, some (.inl a), v3, v4] st I J = GO x d 47 Q 31 [v0, v1, some (.inl a), v3, v4] (.inl a :: st) I J := ge (A := (1, 31, 2, 0, 0)) rfl
set_option maxRecDepth 10000 in
theorem g_47_31 : GO x d 47 Q 31 [v0, v1, v2, v3, v4] (.inl b :: .inl a :: st) I J = (inR a ∧ inR b ∧ if a = b then GO x d 47 Q 34 [v0, v1, v2, v3, v4] st I J else GO x d 47 Q 59 [v0, v1, v2, v3, v4] st I J) := (ge (A := (34, 34, 59, 1, 0)) rfl).trans (gicn (p := a = b) inferInstance)
set_option maxRecDepth 10000 in
theorem g_47_34 : GO x d 47 Q 34 [some (.inr (.inr w)), v1, v2, v3, v4] st I J = GO x d 47 Q 35 [some (.inr (.inr w)), v1, v2, v3, v4] (.inr (.inr w) :: st) I J := ge (A := (2, 35, 0, 0, 0)) rfl
set_option maxRecDepth 10000 in
theorem g_47_35 : GO x d 47 Q 35 [v0, v1, v2, v3, v4] (.inr (.inr (.inl r)) :: st) I J = (okF r 6 0 ∧ GO x d 47 Q 38 [v0, v1, v2, v3, v4] (.inr (.inr (.inl (rfN r 0))) :: st) I J) := (ge (A := (39, 38, 6, 0, 0)) rfl).trans (gref (f := fun q => GO x d 47 Q 38 [v0, v1, v2, v3, v4] (.inr (.inr (.inl q)) :: st) I J))
set_option maxRecDepth 10000 in
theorem g_47_38 : GO x d 47 Q 38 [v0, v1, v2, some (.inl a), v4] st I J = GO x d 47 Q 39 [v0, v1, v2, some (.inl a), v4] (.inl a :: st) I J := ge (A := (1, 39, 3, 0, 0)) rfl
set_option maxRecDepth 10000 in
theorem g_47_39 : GO x d 47 Q 39 [v0, v1, v2, v3, v4] st I J = GO x d 47 Q 40 [v0, v1, v2, v3, v4] (.inl (4) :: st) I J := ge (A := (0, 40, 0, 0, 4)) rfl
set_option maxRecDepth 10000 in
theorem g_47_40 : GO x d 47 Q 40 [v0, v1, v2, v3, v4] (.inl b :: .inl a :: st) I J = GO x d 47 Q 41 [v0, v1, v2, v3, v4] (.inl (a * b) :: st) I J := ge (A := (10, 41, 0, 0, 0)) rfl
set_option maxRecDepth 10000 in
theorem g_47_41 : GO x d 47 Q 41 [v0, v1, v2, v3, some (.inl a)] st I J = GO x d 47 Q 43 [v0, v1, v2, v3, some (.inl a)] (.inl a :: st) I J := ge (A := (1, 43, 4, 0, 0)) rfl
set_option maxRecDepth 10000 in
theorem g_47_43 : GO x d 47 Q 43 [v0, v1, v2, v3, v4] (.inl b :: .inl a :: st) I J = GO x d 47 Q 44 [v0, v1, v2, v3, v4] (.inl (a + b) :: st) I J := ge (A := (8, 44, 0, 0, 0)) rfl
set_option maxRecDepth 10000 in
theorem g_47_44 : GO x d 47 Q 44 [some (.inr (.inr w)), v1, v2, v3, v4] st I J = GO x d 47 Q 45 [some (.inr (.inr w)), v1, v2, v3, v4] (.inr (.inr w) :: st) I J := ge (A := (2, 45, 0, 0, 0)) rfl
set_option maxRecDepth 10000 in
theorem g_47_45 : GO x d 47 Q 45 [v0, some (.inr (.inr w)), v2, v3, v4] st I J = GO x d 47 Q 46 [v0, some (.inr (.inr w)), v2, v3, v4] (.inr (.inr w) :: st) I J := ge (A := (2, 46, 1, 0, 0)) rfl
set_option maxRecDepth 10000 in
theorem g_47_46 : GO x d 47 Q 46 [v0, v1, v2, some (.inl a), v4] st I J = GO x d 47 Q 47 [v0, v1, v2, some (.inl a), v4] (.inl a :: st) I J := ge (A := (1, 47, 3, 0, 0)) rfl
set_option maxRecDepth 10000 in
theorem g_47_47 : GO x d 47 Q 47 [v0, v1, v2, v3, some (.inl a)] st I J = GO x d 47 Q 49 [v0, v1, v2, v3, some (.inl a)] (.inl a :: st) I J := ge (A := (1, 49, 4, 0, 0)) rfl
set_option maxRecDepth 10000 in
theorem g_47_49 : GO x d 47 Q 49 [v0, v1, v2, v3, v4] [.inl i0, .inl i1, .inr (.inr w0), .inr (.inr (.inl r)), .inl i2, .inr (.inr w1)] I J = (okO r 6 ∧ EX x d 50 [.inr (.inr (.inl r)), .inr (.inr w0), .inl i1, .inl i0] I J (fun r1 I1 J1 => GO x d 47 Q 52 [v0, v1, v2, v3, v4] (r1.toList ++ [.inl i2, .inr (.inr w1)]) I1 J1)) := (ge (A := (53, 52, 50, 3, 0)) rfl).trans (gtrue (Nat.le_of_ble_eq_true rfl))
set_option maxRecDepth 10000 in
theorem g_47_52 : GO x d 47 Q 52 [v0, v1, v2, v3, v4] (.inl b :: .inl a :: .inr (.inr (.inl r)) :: st) I J = (okA r 20 ∧ 0 ≤ a ∧ a < lnN r ∧ GO x d 47 Q 53 [v0, v1, v2, v3, v4] st (up I r a b) J) := ge (A := (45, 53, 0, 0, 0)) rfl
set_option maxRecDepth 10000 in
theorem g_47_53 : GO x d 47 Q 53 [v0, v1, v2, v3, some (.inl a)] st I J = (nlO (some v3) = true ∧ GO x d 47 Q 56 [v0, v1, v2, v3, some (.inl (a + (1)))] st I J) := ge (A := (7, 56, 4, 0, 1)) rfl
set_option maxRecDepth 10000 in
theorem g_47_56 : GO x d 47 Q 56 [v0, v1, v2, v3, v4] st I J = GO x d 47 Q 21 [v0, v1, v2, v3, v4] st I J := ge (A := (35, 59, 21, 0, 0)) rfl
set_option maxRecDepth 10000 in
theorem g_47_59 : GO x d 47 Q 59 [v0, v1, v2, some (.inl a), v4] st I J = (nlO (some v2) = true ∧ GO x d 47 Q 62 [v0, v1, v2, some (.inl (a + (-1))), v4] st I J) := ge (A := (7, 62, 3, 0, -1)) rfl
set_option maxRecDepth 10000 in
theorem g_47_62 : GO x d 47 Q 62 [v0, v1, v2, v3, v4] st I J = GO x d 47 Q 14 [v0, v1, v2, v3, v4] st I J := ge (A := (35, 65, 14, 0, 0)) rfl
set_option maxRecDepth 10000 in
theorem g_47_65 : GO x d 47 Q 65 [some (.inr (.inr w)), v1, v2, v3, v4] st I J = GO x d 47 Q 66 [some (.inr (.inr w)), v1, v2, v3, v4] (.inr (.inr w) :: st) I J := ge (A := (2, 66, 0, 0, 0)) rfl
set_option maxRecDepth 10000 in
theorem g_47_66 : GO x d 47 Q 66 [some (.inr (.inr w)), v1, v2, v3, v4] st I J = GO x d 47 Q 67 [some (.inr (.inr w)), v1, v2, v3, v4] (.inr (.inr w) :: st) I J := ge (A := (2, 67, 0, 0, 0)) rfl
set_option maxRecDepth 10000 in
theorem g_47_67 : GO x d 47 Q 67 [v0, some (.inr (.inr w)), v2, v3, v4] st I J = GO x d 47 Q 68 [v0, some (.inr (.inr w)), v2, v3, v4] (.inr (.inr w) :: st) I J := ge (A := (2, 68, 1, 0, 0)) rfl
set_option maxRecDepth 10000 in
theorem g_47_68 : GO x d 47 Q 68 [v0, v1, some (.inl a), v3, v4] st I J = GO x d 47 Q 69 [v0, v1, some (.inl a), v3, v4] (.inl a :: st) I J := ge (A := (1, 69, 2, 0, 0)) rfl
set_option maxRecDepth 10000 in
theorem g_47_69 : GO x d 47 Q 69 [v0, some (.inr (.inr w)), v2, v3, v4] st I J = GO x d 47 Q 70 [v0, some (.inr (.inr w)), v2, v3, v4] (.inr (.inr w) :: st) I J := ge (A := (2, 70, 1, 0, 0)) rfl
set_option maxRecDepth 10000 in
theorem g_47_70 : GO x d 47 Q 70 [v0, v1, v2, v3, v4] (.inr (.inr (.inl r)) :: st) I J = (okO r 3 ∧ GO x d 47 Q 73 [v0, v1, v2, v3, v4] (.inl (I r 12) :: st) I J) := ge (A := (37, 73, 3, 12, 0)) rfl
set_option maxRecDepth 10000 in
theorem g_47_73 : GO x d 47 Q 73 [v0, v1, v2, v3, v4] [.inl i0, .inl i1, .inr (.inr w0), .inr (.inr (.inl r)), .inr (.inr w1)] I J = (okO r 6 ∧ EX x d 50 [.inr (.inr (.inl r)), .inr (.inr w0), .inl i1, .inl i0] I J (fun r1 I1 J1 => GO x d 47 Q 76 [v0, v1, v2, v3, v4] (r1.toList ++ [.inr (.inr w1)]) I1 J1)) := (ge (A := (53, 76, 50, 3, 0)) rfl).trans (gtrue (Nat.le_of_ble_eq_true rfl))
set_option maxRecDepth 10000 in
theorem g_47_76 : GO x d 47 Q 76 [v0, v1, v2, v3, v4] st I J = GO x d 47 Q 78 [v0, v1, v2, v3, v4] (.inl (8) :: st) I J := ge (A := (0, 78, 0, 0, 8)) rfl
set_option maxRecDepth 10000 in
theorem g_47_78 : GO x d 47 Q 78 [v0, v1, v2, v3, v4] (.inl b :: .inl a :: st) I J = (catS st ≤ 8 ∧ inR a ∧ inR b ∧ GO x d 47 Q 81 [v0, v1, v2, v3, v4] (.inl (if b < a then b else a) :: st) I J) := ge (A := (66, 81, 0, 0, 0)) rfl
set_option maxRecDepth 10000 in
theorem g_47_81 : GO x d 47 Q 81 [v0, v1, v2, v3, v4] (.inl a :: .inr (.inr (.inl r)) :: st) I J = (okO r 6 ∧ GO x d 47 Q 84 [v0, v1, v2, v3, v4] st (up I r 2 a) J) := ge (A := (40, 84, 6, 2, 0)) rfl
set_option maxRecDepth 10000 in
theorem g_47_84 : GO x d 47 Q 84 [some (.inr (.inr w)), v1, v2, v3, v4] st I J = GO x d 47 Q 85 [some (.inr (.inr w)), v1, v2, v3, v4] (.inr (.inr w) :: st) I J := ge (A := (2, 85, 0, 0, 0)) rfl
set_option maxRecDepth 10000 in
theorem g_47_85 : GO x d 47 Q 85 [v0, some (.inr (.inr w)), v2, v3, v4] st I J = GO x d 47 Q 86 [v0, some (.inr (.inr w)), v2, v3, v4] (.inr (.inr w) :: st) I J := ge (A := (2, 86, 1, 0, 0)) rfl
set_option maxRecDepth 10000 in
theorem g_47_86 : GO x d 47 Q 86 [v0, v1, some (.inl a), v3, v4] st I J = GO x d 47 Q 87 [v0, v1, some (.inl a), v3, v4] (.inl a :: st) I J := ge (A := (1, 87, 2, 0, 0)) rfl
set_option maxRecDepth 10000 in
theorem g_47_87 : GO x d 47 Q 87 [v0, v1, v2, v3, v4] [.inl i0, .inr (.inr w0), .inr (.inr (.inl r))] I J = (okO r 6 ∧ EX x d 52 [.inr (.inr (.inl r)), .inr (.inr w0), .inl i0] I J (fun r1 I1 J1 => GO x d 47 Q 90 [v0, v1, v2, v3, v4] (r1.toList ++ []) I1 J1)) := (ge (A := (53, 90, 52, 2, 0)) rfl).trans (gtrue (Nat.le_of_ble_eq_true rfl))
set_option maxRecDepth 10000 in
theorem g_47_90 : GO x d 47 Q 90 [v0, v1, v2, v3, v4] [] I J = Q none I J := ge (A := (57, 91, 0, 0, 0)) rfl
set_option maxRecDepth 10000 in
theorem e_47 : EX x (d + 1) 47 [.inr (.inr w0), .inr (.inr w1)] I J Q = GO x d 47 Q 0 [some (.inr (.inr w0)), some (.inr (.inr w1)), none, none, none] [] I J := ex_eq (Nat.le_of_ble_eq_true rfl) rfl (Nat.le_of_ble_eq_true rfl) rfl
set_option maxRecDepth 10000 in
theorem g_48_0 : GO x d 48 Q 0 [v0, some (.inl a)] st I J = GO x d 48 Q 1 [v0, some (.inl a)] (.inl a :: st) I J := ge (A := (1, 1, 1, 0, 0)) rfl
set_option maxRecDepth 10000 in
theorem g_48_1 : GO x d 48 Q 1 [v0, v1] (.inl a :: st) I J = (inR a ∧ if a < 0 then GO x d 48 Q 27 [v0, v1] st I J else GO x d 48 Q 4 [v0, v1] st I J) := (ge (A := (33, 4, 27, 2, 0)) rfl).trans (gif (p := a < 0) inferInstance)
set_option maxRecDepth 10000 in
theorem g_48_4 : GO x d 48 Q 4 [v0, some (.inl a)] st I J = GO x d 48 Q 5 [v0, some (.inl a)] (.inl a :: st) I J := ge (A := (1, 5, 1, 0, 0)) rfl
set_option maxRecDepth 10000 in
theorem g_48_5 : GO x d 48 Q 5 [some (.inr (.inr w)), v1] st I J = GO x d 48 Q 6 [some (.inr (.inr w)), v1] (.inr (.inr w) :: st) I J := ge (A := (2, 6, 0, 0, 0)) rfl
set_option maxRecDepth 10000 in
theorem g_48_6 : GO x d 48 Q 6 [v0, v1] (.inr (.inr (.inl r)) :: st) I J = (okO r 6 ∧ GO x d 48 Q 9 [v0, v1] (.inl (I r 2) :: st) I J) := ge (A := (37, 9, 6, 2, 0)) rfl
set_option maxRecDepth 10000 in
theorem g_48_9 : GO x d 48 Q 9 [v0, v1] (.inl b :: .inl a :: st) I J = (inR a ∧ inR b ∧ if a < b then GO x d 48 Q 12 [v0, v1] st I J else GO x d 48 Q 27 [v0, v1] st I J) := (ge (A := (34, 12, 27, 3, 0)) rfl).trans (ggec)
set_option maxRecDepth 10000 in
theorem g_48_12 : GO x d 48 Q 12 [v0, some (.inl a)] st I J = GO x d 48 Q 13 [v0, some (.inl a)] (.inl a :: st) I J := ge (A := (1, 13, 1, 0, 0)) rfl
set_option maxRecDepth 10000 in
theorem g_48_13 : GO x d 48 Q 13 [v0, v1] st I J = GO x d 48 Q 15 [v0, v1] (.inl (8) :: st) I J := ge (A := (0, 15, 0, 0, 8)) rfl
set_option maxRecDepth 10000 in
theorem g_48_15 : GO x d 48 Q 15 [v0, v1] (.inl b :: .inl a :: st) I J = (inR a ∧ inR b ∧ if a < b then GO x d 48 Q 18 [v0, v1] st I J else GO x d 48 Q 27 [v0, v1] st I J) := (ge (A := (34, 18, 27, 3, 0)) rfl).trans (ggec)
set_option maxRecDepth 10000 in
theorem g_48_18 : GO x d 48 Q 18 [some (.inr (.inr w)), v1] st I J = GO x d 48 Q 19 [some (.inr (.inr w)), v1] (.inr (.inr w) :: st) I J := ge (A := (2, 19, 0, 0, 0)) rfl
set_option maxRecDepth 10000 in
theorem g_48_19 : GO x d 48 Q 19 [v0, v1] (.inr (.inr (.inl r)) :: st) I J = (okF r 6 1 ∧ GO x d 48 Q 22 [v0, v1] (.inr (.inr (.inl (rfN r 1))) :: st) I J) := (ge (A := (39, 22, 6, 1, 0)) rfl).trans (gref (f := fun q => GO x d 48 Q 22 [v0, v1] (.inr (.inr (.inl q)) :: st) I J))
set_option maxRecDepth 10000 in
theorem g_48_22 : GO x d 48 Q 22 [v0, some (.inl a)] st I J = GO x d 48 Q 23 [v0, some (.inl a)] (.inl a :: st) I J := ge (A := (1, 23, 1, 0, 0)) rfl
set_option maxRecDepth 10000 in
theorem h_48_23 : GO x d 48 Q 23 [v0, v1] (.inl a :: .inr (.inr (.inr q)) :: st) I J = (q < 4 ∧ 0 ≤ a ∧ a < (roA x q).1 ∧ GO x d 48 Q 24 [v0, v1] (.inl ((roA x q).2 a.toNat) :: st) I J) := ge (A := (44, 24, 0, 0, 0)) rfl
set_option maxRecDepth 10000 in
theorem g_48_23 : GO x d 48 Q 23 [v0, v1] (.inl a :: .inr (.inr (.inl r)) :: st) I J = (okA r 20 ∧ 0 ≤ a ∧ a < lnN r ∧ GO x d 48 Q 24 [v0, v1] (.inl (I r a) :: st) I J) := ge (A := (44, 24, 0, 0, 0)) rfl
set_option maxRecDepth 10000 in
theorem g_48_24 : GO x d 48 Q 24 [v0, v1] st I J = GO x d 48 Q 29 [v0, v1] st I J := ge (A := (35, 27, 29, 0, 0)) rfl
set_option maxRecDepth 10000 in
theorem g_48_27 : GO x d 48 Q 27 [v0, v1] st I J = GO x d 48 Q 29 [v0, v1] (.inl (-1000000) :: st) I J := ge (A := (0, 29, 0, 0, -1000000)) rfl
set_option maxRecDepth 10000 in
theorem g_48_29 : GO x d 48 Q 29 [v0, v1] [.inl a] I J = Q (some (.inl a)) I J := ge (A := (55, 30, 0, 0, 0)) rfl
set_option maxRecDepth 10000 in
theorem e_48 : EX x (d + 1) 48 [.inr (.inr w0), .inl i0] I J Q = GO x d 48 Q 0 [some (.inr (.inr w0)), some (.inl i0)] [] I J := ex_eq (Nat.le_of_ble_eq_true rfl) rfl (Nat.le_of_ble_eq_true rfl) rfl
set_option maxRecDepth 10000 in
theorem g_49_0 : GO x d 49 Q 0 [v0, v1, v2] st I J = GO x d 49 Q 1 [v0, v1, v2] (.inl (0) :: st) I J := ge (A := (0, 1, 0, 0, 0)) rfl
set_option maxRecDepth 10000 in
theorem g_49_1 : GO x d 49 Q 1 [v0, v1, v2] (.inl a :: st) I J = (nlO (some v0) = true ∧ GO x d 49 Q 2 [v0, some (.inl a), v2] st I J) := (ge (A := (4, 2, 1, 0, 0)) rfl).trans (gst (Nat.le_of_ble_eq_true rfl) _)
set_option maxRecDepth 10000 in
theorem g_49_2 : GO x d 49 Q 2 [v0, v1, v2] st I J = GO x d 49 Q 3 [v0, v1, v2] (.inl (0) :: st) I J := ge (A := (0, 3, 0, 0, 0)) rfl
set_option maxRecDepth 10000 in
theorem g_49_3 : GO x d 49 Q 3 [v0, v1, v2] (.inl a :: st) I J = (nlO (some v1) = true ∧ GO x d 49 Q 4 [v0, v1, some (.inl a)] st I J) := (ge (A := (4, 4, 2, 0, 0)) rfl).trans (gst (Nat.le_of_ble_eq_true rfl) _)
set_option maxRecDepth 10000 in
theorem g_49_4 : GO x d 49 Q 4 [v0, v1, some (.inl a)] st I J = GO x d 49 Q 5 [v0, v1, some (.inl a)] (.inl a :: st) I J := ge (A := (1, 5, 2, 0, 0)) rfl
set_option maxRecDepth 10000 in
theorem g_49_5 : GO x d 49 Q 5 [some (.inr (.inr w)), v1, v2] st I J = GO x d 49 Q 6 [some (.inr (.inr w)), v1, v2] (.inr (.inr w) :: st) I J := ge (A := (2, 6, 0, 0, 0)) rfl
set_option maxRecDepth 10000 in
theorem g_49_6 : GO x d 49 Q 6 [v0, v1, v2] (.inr (.inr (.inl r)) :: st) I J = (okO r 3 ∧ GO x d 49 Q 9 [v0, v1, v2] (.inl (I r 3) :: st) I J) := ge (A := (37, 9, 3, 3, 0)) rfl
set_option maxRecDepth 10000 in
theorem g_49_9 : GO x d 49 Q 9 [v0, v1, v2] (.inl b :: .inl a :: st) I J = (inR a ∧ inR b ∧ if a < b then GO x d 49 Q 12 [v0, v1, v2] st I J else GO x d 49 Q 42 [v0, v1, v2] st I J) := (ge (A := (34, 12, 42, 3, 0)) rfl).trans (ggec)
set_option maxRecDepth 10000 in
theorem g_49_12 : GO x d 49 Q 12 [some (.inr (.inr w)), v1, v2] st I J = GO x d 49 Q 13 [some (.inr (.inr w)), v1, v2] (.inr (.inr w) :: st) I J := ge (A := (2, 13, 0, 0, 0)) rfl
set_option maxRecDepth 10000 in
theorem g_49_13 : GO x d 49 Q 13 [v0, v1, some (.inl a)] st I J = GO x d 49 Q 14 [v0, v1, some (.inl a)] (.inl a :: st) I J := ge (A := (1, 14, 2, 0, 0)) rfl
set_option maxRecDepth 10000 in
theorem g_49_14 : GO x d 49 Q 14 [some (.inr (.inr w)), v1, v2] st I J = GO x d 49 Q 15 [some (.inr (.inr w)), v1, v2] (.inr (.inr w) :: st) I J := ge (A := (2, 15, 0, 0, 0)) rfl
set_option maxRecDepth 10000 in
theorem g_49_15 : GO x d 49 Q 15 [v0, v1, v2] (.inr (.inr (.inl r)) :: st) I J = (okF r 3 6 ∧ GO x d 49 Q 18 [v0, v1, v2] (.inr (.inr (.inl (rfN r 6))) :: st) I J) := (ge (A := (39, 18, 3, 6, 0)) rfl).trans (gref (f := fun q => GO x d 49 Q 18 [v0, v1, v2] (.inr (.inr (.inl q)) :: st) I J))
set_option maxRecDepth 10000 in
theorem g_49_18 : GO x d 49 Q 18 [v0, v1, some (.inl a)] st I J = GO x d 49 Q 19 [v0, v1, some (.inl a)] (.inl a :: st) I J := ge (A := (1, 19, 2, 0, 0)) rfl
set_option maxRecDepth 10000 in
theorem h_49_19 : GO x d 49 Q 19 [v0, v1, v2] (.inl a :: .inr (.inr (.inr q)) :: st) I J = (q < 4 ∧ 0 ≤ a ∧ a < (roA x q).1 ∧ GO x d 49 Q 20 [v0, v1, v2] (.inl ((roA x q).2 a.toNat) :: st) I J) := ge (A := (44, 20, 0, 0, 0)) rfl
set_option maxRecDepth 10000 in
theorem g_49_19 : GO x d 49 Q 19 [v0, v1, v2] (.inl a :: .inr (.inr (.inl r)) :: st) I J = (okA r 20 ∧ 0 ≤ a ∧ a < lnN r ∧ GO x d 49 Q 20 [v0, v1, v2] (.inl (I r a) :: st) I J) := ge (A := (44, 20, 0, 0, 0)) rfl
set_option maxRecDepth 10000 in
theorem g_49_20 : GO x d 49 Q 20 [some (.inr (.inr w)), v1, v2] st I J = GO x d 49 Q 21 [some (.inr (.inr w)), v1, v2] (.inr (.inr w) :: st) I J := ge (A := (2, 21, 0, 0, 0)) rfl
set_option maxRecDepth 10000 in
theorem g_49_21 : GO x d 49 Q 21 [v0, v1, v2] (.inr (.inr (.inl r)) :: st) I J = (okO r 3 ∧ GO x d 49 Q 24 [v0, v1, v2] (.inl (I r 11) :: st) I J) := ge (A := (37, 24, 3, 11, 0)) rfl
set_option maxRecDepth 10000 in
theorem g_49_24 : GO x d 49 Q 24 [v0, v1, v2] [.inl i0, .inl i1, .inl i2, .inr (.inr (.inl r))] I J = (okO r 3 ∧ EX x d 20 [.inr (.inr (.inl r)), .inl i2, .inl i1, .inl i0] I J (fun r1 I1 J1 => GO x d 49 Q 27 [v0, v1, v2] (r1.toList ++ []) I1 J1)) := (ge (A := (53, 27, 20, 3, 0)) rfl).trans (gtrue (Nat.le_of_ble_eq_true rfl))
set_option maxRecDepth 10000 in
theorem g_49_27 : GO x d 49 Q 27 [v0, v1, v2] (.inl a :: st) I J = (inR a ∧ if a = 0 then GO x d 49 Q 36 [v0, v1, v2] st I J else GO x d 49 Q 30 [v0, v1, v2] st I J) := (ge (A := (33, 30, 36, 0, 0)) rfl).trans (gif (p := a = 0) inferInstance)
set_option maxRecDepth 10000 in
theorem g_49_30 : GO x d 49 Q 30 [v0, some (.inl a), v2] st I J = GO x d 49 Q 31 [v0, some (.inl a), v2] (.inl a :: st) I J := ge (A := (1, 31, 1, 0, 0)) rfl
set_option maxRecDepth 10000 in
theorem g_49_31 : GO x d 49 Q 31 [v0, v1, v2] st I J = GO x d 49 Q 32 [v0, v1, v2] (.inl (1) :: st) I J := ge (A := (0, 32, 0, 0, 1)) rfl
set_option maxRecDepth 10000 in
theorem g_49_32 : GO x d 49 Q 32 [v0, v1, some (.inl a)] st I J = GO x d 49 Q 33 [v0, v1, some (.inl a)] (.inl a :: st) I J := ge (A := (1, 33, 2, 0, 0)) rfl
set_option maxRecDepth 10000 in
theorem g_49_33 : GO x d 49 Q 33 [v0, v1, v2] (.inl b :: .inl a :: st) I J = GO x d 49 Q 34 [v0, v1, v2] (.inl (shlI a b) :: st) I J := ge (A := (14, 34, 0, 0, 0)) rfl
set_option maxRecDepth 10000 in
theorem g_49_34 : GO x d 49 Q 34 [v0, v1, v2] (.inl b :: .inl a :: st) I J = GO x d 49 Q 35 [v0, v1, v2] (.inl (orI a b) :: st) I J := ge (A := (12, 35, 0, 0, 0)) rfl
set_option maxRecDepth 10000 in
theorem g_49_35 : GO x d 49 Q 35 [v0, v1, v2] (.inl a :: st) I J = (nlO (some v0) = true ∧ GO x d 49 Q 36 [v0, some (.inl a), v2] st I J) := (ge (A := (4, 36, 1, 0, 0)) rfl).trans (gst (Nat.le_of_ble_eq_true rfl) _)
set_option maxRecDepth 10000 in
theorem g_49_36 : GO x d 49 Q 36 [v0, v1, some (.inl a)] st I J = (nlO (some v1) = true ∧ GO x d 49 Q 39 [v0, v1, some (.inl (a + (1)))] st I J) := ge (A := (7, 39, 2, 0, 1)) rfl
set_option maxRecDepth 10000 in
theorem g_49_39 : GO x d 49 Q 39 [v0, v1, v2] st I J = GO x d 49 Q 4 [v0, v1, v2] st I J := ge (A := (35, 42, 4, 0, 0)) rfl
set_option maxRecDepth 10000 in
theorem g_49_42 : GO x d 49 Q 42 [v0, some (.inl a), v2] st I J = GO x d 49 Q 43 [v0, some (.inl a), v2] (.inl a :: st) I J := ge (A := (1, 43, 1, 0, 0)) rfl
set_option maxRecDepth 10000 in
theorem g_49_43 : GO x d 49 Q 43 [v0, v1, v2] [.inl a] I J = Q (some (.inl a)) I J := ge (A := (55, 44, 0, 0, 0)) rfl
set_option maxRecDepth 10000 in
theorem e_49 : EX x (d + 1) 49 [.inr (.inr w0)] I J Q = GO x d 49 Q 0 [some (.inr (.inr w0)), none, none] [] I J := ex_eq (Nat.le_of_ble_eq_true rfl) rfl (Nat.le_of_ble_eq_true rfl) rfl
set_option maxRecDepth 10000 in
theorem g_50_0 : GO x d 50 Q 0 [v0, v1, v2, v3, v4, v5] st I J = GO x d 50 Q 1 [v0, v1, v2, v3, v4, v5] (.inl (0) :: st) I J := ge (A := (0, 1, 0, 0, 0)) rfl
set_option maxRecDepth 10000 in
theorem g_50_1 : GO x d 50 Q 1 [v0, v1, v2, v3, v4, v5] (.inl a :: st) I J = (nlO (some v3) = true ∧ GO x d 50 Q 3 [v0, v1, v2, v3, some (.inl a), v5] st I J) := (ge (A := (4, 3, 4, 0, 0)) rfl).trans (gst (Nat.le_of_ble_eq_true rfl) _)
set_option maxRecDepth 10000 in
theorem g_50_3 : GO x d 50 Q 3 [v0, v1, v2, v3, v4, v5] st I J = GO x d 50 Q 4 [v0, v1, v2, v3, v4, v5] (.inl (0) :: st) I J := ge (A := (0, 4, 0, 0, 0)) rfl
set_option maxRecDepth 10000 in
theorem g_50_4 : GO x d 50 Q 4 [v0, v1, v2, v3, v4, v5] (.inl a :: st) I J = (nlO (some v4) = true ∧ GO x d 50 Q 6 [v0, v1, v2, v3, v4, some (.inl a)] st I J) := (ge (A := (4, 6, 5, 0, 0)) rfl).trans (gst (Nat.le_of_ble_eq_true rfl) _)
set_option maxRecDepth 10000 in
theorem g_50_6 : GO x d 50 Q 6 [v0, v1, v2, v3, v4, some (.inl a)] st I J = GO x d 50 Q 8 [v0, v1, v2, v3, v4, some (.inl a)] (.inl a :: st) I J := ge (A := (1, 8, 5, 0, 0)) rfl
set_option maxRecDepth 10000 in
theorem g_50_8 : GO x d 50 Q 8 [v0, some (.inr (.inr w)), v2, v3, v4, v5] st I J = GO x d 50 Q 9 [v0, some (.inr (.inr w)), v2, v3, v4, v5] (.inr (.inr w) :: st) I J := ge (A := (2, 9, 1, 0, 0)) rfl
set_option maxRecDepth 10000 in
theorem g_50_9 : GO x d 50 Q 9 [v0, v1, v2, v3, v4, v5] (.inr (.inr (.inl r)) :: st) I J = (okO r 3 ∧ GO x d 50 Q 12 [v0, v1, v2, v3, v4, v5] (.inl (I r 3) :: st) I J) := ge (A := (37, 12, 3, 3, 0)) rfl
set_option maxRecDepth 10000 in
theorem g_50_12 : GO x d 50 Q 12 [v0, v1, v2, v3, v4, v5] (.inl b :: .inl a :: st) I J = (inR a ∧ inR b ∧ if a < b then GO x d 50 Q 15 [v0, v1, v2, v3, v4, v5] st I J else GO x d 50 Q 37 [v0, v1, v2, v3, v4, v5] st I J) := (ge (A := (34, 15, 37, 3, 0)) rfl).trans (ggec)
set_option maxRecDepth 10000 in
theorem g_50_15 : GO x d 50 Q 15 [v0, v1, v2, v3, some (.inl a), v5] st I J = GO x d 50 Q 17 [v0, v1, v2, v3, some (.inl a), v5] (.inl a :: st) I J := ge (A := (1, 17, 4, 0, 0)) rfl
set_option maxRecDepth 10000 in
theorem g_50_17 : GO x d 50 Q 17 [some (.inr (.inr w)), v1, v2, v3, v4, v5] st I J = GO x d 50 Q 18 [some (.inr (.inr w)), v1, v2, v3, v4, v5] (.inr (.inr w) :: st) I J := ge (A := (2, 18, 0, 0, 0)) rfl
set_option maxRecDepth 10000 in
theorem g_50_18 : GO x d 50 Q 18 [v0, some (.inr (.inr w)), v2, v3, v4, v5] st I J = GO x d 50 Q 19 [v0, some (.inr (.inr w)), v2, v3, v4, v5] (.inr (.inr w) :: st) I J := ge (A := (2, 19, 1, 0, 0)) rfl
set_option maxRecDepth 10000 in
theorem g_50_19 : GO x d 50 Q 19 [v0, v1, some (.inl a), v3, v4, v5] st I J = GO x d 50 Q 20 [v0, v1, some (.inl a), v3, v4, v5] (.inl a :: st) I J := ge (A := (1, 20, 2, 0, 0)) rfl
set_option maxRecDepth 10000 in
theorem g_50_20 : GO x d 50 Q 20 [v0, v1, v2, some (.inl a), v4, v5] st I J = GO x d 50 Q 21 [v0, v1, v2, some (.inl a), v4, v5] (.inl a :: st) I J := ge (A := (1, 21, 3, 0, 0)) rfl
set_option maxRecDepth 10000 in
theorem g_50_21 : GO x d 50 Q 21 [v0, v1, v2, v3, v4, some (.inl a)] st I J = GO x d 50 Q 23 [v0, v1, v2, v3, v4, some (.inl a)] (.inl a :: st) I J := ge (A := (1, 23, 5, 0, 0)) rfl
set_option maxRecDepth 10000 in
theorem g_50_23 : GO x d 50 Q 23 [v0, v1, v2, v3, v4, v5] [.inl i0, .inl i1, .inl i2, .inr (.inr w0), .inr (.inr (.inl r)), .inl i3] I J = (okO r 6 ∧ EX x d 51 [.inr (.inr (.inl r)), .inr (.inr w0), .inl i2, .inl i1, .inl i0] I J (fun r1 I1 J1 => GO x d 50 Q 26 [v0, v1, v2, v3, v4, v5] (r1.toList ++ [.inl i3]) I1 J1)) := (ge (A := (53, 26, 51, 4, 0)) rfl).trans (gtrue (Nat.le_of_ble_eq_true rfl))
set_option maxRecDepth 10000 in
theorem g_50_26 : GO x d 50 Q 26 [v0, v1, v2, v3, v4, v5] (.inl b :: .inl a :: st) I J = (catS st ≤ 8 ∧ inR a ∧ inR b ∧ GO x d 50 Q 29 [v0, v1, v2, v3, v4, v5] (.inl (if a < b then b else a) :: st) I J) := ge (A := (65, 29, 0, 0, 0)) rfl
set_option maxRecDepth 10000 in
theorem g_50_29 : GO x d 50 Q 29 [v0, v1, v2, v3, v4, v5] (.inl a :: st) I J = (nlO (some v3) = true ∧ GO x d 50 Q 31 [v0, v1, v2, v3, some (.inl a), v5] st I J) := (ge (A := (4, 31, 4, 0, 0)) rfl).trans (gst (Nat.le_of_ble_eq_true rfl) _)
set_option maxRecDepth 10000 in
theorem g_50_31 : GO x d 50 Q 31 [v0, v1, v2, v3, v4, some (.inl a)] st I J = (nlO (some v4) = true ∧ GO x d 50 Q 34 [v0, v1, v2, v3, v4, some (.inl (a + (1)))] st I J) := ge (A := (7, 34, 5, 0, 1)) rfl
set_option maxRecDepth 10000 in
theorem g_50_34 : GO x d 50 Q 34 [v0, v1, v2, v3, v4, v5] st I J = GO x d 50 Q 6 [v0, v1, v2, v3, v4, v5] st I J := ge (A := (35, 37, 6, 0, 0)) rfl
set_option maxRecDepth 10000 in
theorem g_50_37 : GO x d 50 Q 37 [v0, v1, v2, v3, some (.inl a), v5] st I J = GO x d 50 Q 39 [v0, v1, v2, v3, some (.inl a), v5] (.inl a :: st) I J := ge (A := (1, 39, 4, 0, 0)) rfl
set_option maxRecDepth 10000 in
theorem g_50_39 : GO x d 50 Q 39 [v0, v1, v2, v3, v4, v5] [.inl a] I J = Q (some (.inl a)) I J := ge (A := (55, 40, 0, 0, 0)) rfl
set_option maxRecDepth 10000 in
theorem e_50 : EX x (d + 1) 50 [.inr (.inr w0), .inr (.inr w1), .inl i0, .inl i1] I J Q = GO x d 50 Q 0 [some (.inr (.inr w0)), some (.inr (.inr w1)), some (.inl i0), some (.inl i1), none, none] [] I J := ex_eq (Nat.le_of_ble_eq_true rfl) rfl (Nat.le_of_ble_eq_true rfl) rfl
set_option maxRecDepth 10000 in
theorem g_51_0 : GO x d 51 Q 0 [v0, v1, some (.inl a), v3, v4] st I J = GO x d 51 Q 1 [v0, v1, some (.inl a), v3, v4] (.inl a :: st) I J := ge (A := (1, 1, 2, 0, 0)) rfl
set_option maxRecDepth 10000 in
theorem g_51_1 : GO x d 51 Q 1 [v0, v1, v2, v3, some (.inl a)] st I J = GO x d 51 Q 3 [v0, v1, v2, v3, some (.inl a)] (.inl a :: st) I J := ge (A := (1, 3, 4, 0, 0)) rfl
set_option maxRecDepth 10000 in
theorem g_51_3 : GO x d 51 Q 3 [v0, v1, v2, v3, v4] [.inl i0, .inl i1] I J = EX x d 105 [.inl i1, .inl i0] I J (fun r1 I1 J1 => GO x d 51 Q 6 [v0, v1, v2, v3, v4] (r1.toList ++ []) I1 J1) := (ge (A := (52, 6, 105, 2, 1)) rfl).trans (gtrue2 (Nat.le_of_ble_eq_true rfl) (Nat.le_of_ble_eq_true rfl))
set_option maxRecDepth 10000 in
theorem g_51_6 : GO x d 51 Q 6 [v0, v1, v2, v3, v4] (.inl a :: st) I J = (inR a ∧ if a = 0 then GO x d 51 Q 9 [v0, v1, v2, v3, v4] st I J else GO x d 51 Q 19 [v0, v1, v2, v3, v4] st I J) := (ge (A := (33, 9, 19, 1, 0)) rfl).trans (gifn (p := a = 0) inferInstance)
set_option maxRecDepth 10000 in
theorem g_51_9 : GO x d 51 Q 9 [v0, some (.inr (.inr w)), v2, v3, v4] st I J = GO x d 51 Q 10 [v0, some (.inr (.inr w)), v2, v3, v4] (.inr (.inr w) :: st) I J := ge (A := (2, 10, 1, 0, 0)) rfl
set_option maxRecDepth 10000 in
theorem g_51_10 : GO x d 51 Q 10 [v0, v1, v2, v3, some (.inl a)] st I J = GO x d 51 Q 12 [v0, v1, v2, v3, some (.inl a)] (.inl a :: st) I J := ge (A := (1, 12, 4, 0, 0)) rfl
set_option maxRecDepth 10000 in
theorem g_51_12 : GO x d 51 Q 12 [v0, v1, v2, some (.inl a), v4] st I J = GO x d 51 Q 13 [v0, v1, v2, some (.inl a), v4] (.inl a :: st) I J := ge (A := (1, 13, 3, 0, 0)) rfl
set_option maxRecDepth 10000 in
theorem g_51_13 : GO x d 51 Q 13 [v0, v1, v2, v3, v4] [.inl i0, .inl i1, .inr (.inr (.inl r))] I J = (okO r 3 ∧ EX x d 21 [.inr (.inr (.inl r)), .inl i1, .inl i0] I J (fun r1 I1 J1 => GO x d 51 Q 16 [v0, v1, v2, v3, v4] (r1.toList ++ []) I1 J1)) := (ge (A := (53, 16, 21, 2, 0)) rfl).trans (gtrue (Nat.le_of_ble_eq_true rfl))
set_option maxRecDepth 10000 in
theorem g_51_16 : GO x d 51 Q 16 [v0, v1, v2, v3, v4] (.inl a :: st) I J = (inR a ∧ if a = 0 then GO x d 51 Q 19 [v0, v1, v2, v3, v4] st I J else GO x d 51 Q 21 [v0, v1, v2, v3, v4] st I J) := (ge (A := (33, 19, 21, 1, 0)) rfl).trans (gifn (p := a = 0) inferInstance)
set_option maxRecDepth 10000 in
theorem g_51_19 : GO x d 51 Q 19 [v0, v1, v2, v3, v4] st I J = GO x d 51 Q 20 [v0, v1, v2, v3, v4] (.inl (0) :: st) I J := ge (A := (0, 20, 0, 0, 0)) rfl
set_option maxRecDepth 10000 in
theorem g_51_20 : GO x d 51 Q 20 [v0, v1, v2, v3, v4] [.inl a] I J = Q (some (.inl a)) I J := ge (A := (55, 21, 0, 0, 0)) rfl
set_option maxRecDepth 10000 in
theorem g_51_21 : GO x d 51 Q 21 [v0, v1, v2, v3, v4] st I J = GO x d 51 Q 22 [v0, v1, v2, v3, v4] (.inl (1) :: st) I J := ge (A := (0, 22, 0, 0, 1)) rfl
set_option maxRecDepth 10000 in
theorem g_51_22 : GO x d 51 Q 22 [some (.inr (.inr w)), v1, v2, v3, v4] st I J = GO x d 51 Q 23 [some (.inr (.inr w)), v1, v2, v3, v4] (.inr (.inr w) :: st) I J := ge (A := (2, 23, 0, 0, 0)) rfl
set_option maxRecDepth 10000 in
theorem g_51_23 : GO x d 51 Q 23 [v0, v1, v2, v3, v4] (.inr (.inr (.inl r)) :: st) I J = (okF r 6 0 ∧ GO x d 51 Q 26 [v0, v1, v2, v3, v4] (.inr (.inr (.inl (rfN r 0))) :: st) I J) := (ge (A := (39, 26, 6, 0, 0)) rfl).trans (gref (f := fun q => GO x d 51 Q 26 [v0, v1, v2, v3, v4] (.inr (.inr (.inl q)) :: st) I J))
set_option maxRecDepth 10000 in
theorem g_51_26 : GO x d 51 Q 26 [v0, v1, some (.inl a), v3, v4] st I J = GO x d 51 Q 27 [v0, v1, some (.inl a), v3, v4] (.inl a :: st) I J := ge (A := (1, 27, 2, 0, 0)) rfl
set_option maxRecDepth 10000 in
theorem g_51_27 : GO x d 51 Q 27 [v0, v1, v2, v3, v4] st I J = GO x d 51 Q 28 [v0, v1, v2, v3, v4] (.inl (1) :: st) I J := ge (A := (0, 28, 0, 0, 1)) rfl
set_option maxRecDepth 10000 in
theorem g_51_28 : GO x d 51 Q 28 [v0, v1, v2, v3, some (.inl a)] st I J = GO x d 51 Q 30 [v0, v1, v2, v3, some (.inl a)] (.inl a :: st) I J := ge (A := (1, 30, 4, 0, 0)) rfl
set_option maxRecDepth 10000 in
theorem g_51_30 : GO x d 51 Q 30 [v0, v1, v2, v3, v4] (.inl b :: .inl a :: st) I J = GO x d 51 Q 31 [v0, v1, v2, v3, v4] (.inl (shlI a b) :: st) I J := ge (A := (14, 31, 0, 0, 0)) rfl
set_option maxRecDepth 10000 in
theorem g_51_31 : GO x d 51 Q 31 [v0, v1, v2, v3, v4] (.inl b :: .inl a :: st) I J = GO x d 51 Q 32 [v0, v1, v2, v3, v4] (.inl (orI a b) :: st) I J := ge (A := (12, 32, 0, 0, 0)) rfl
set_option maxRecDepth 10000 in
theorem g_51_32 : GO x d 51 Q 32 [v0, v1, v2, v3, v4] st I J = GO x d 51 Q 33 [v0, v1, v2, v3, v4] (.inl (4) :: st) I J := ge (A := (0, 33, 0, 0, 4)) rfl
set_option maxRecDepth 10000 in
theorem g_51_33 : GO x d 51 Q 33 [v0, v1, v2, v3, v4] (.inl b :: .inl a :: st) I J = GO x d 51 Q 34 [v0, v1, v2, v3, v4] (.inl (a * b) :: st) I J := ge (A := (10, 34, 0, 0, 0)) rfl
set_option maxRecDepth 10000 in
theorem g_51_34 : GO x d 51 Q 34 [v0, some (.inr (.inr w)), v2, v3, v4] st I J = GO x d 51 Q 35 [v0, some (.inr (.inr w)), v2, v3, v4] (.inr (.inr w) :: st) I J := ge (A := (2, 35, 1, 0, 0)) rfl
set_option maxRecDepth 10000 in
theorem g_51_35 : GO x d 51 Q 35 [v0, v1, v2, v3, v4] (.inr (.inr (.inl r)) :: st) I J = (okF r 3 5 ∧ GO x d 51 Q 38 [v0, v1, v2, v3, v4] (.inr (.inr (.inl (rfN r 5))) :: st) I J) := (ge (A := (39, 38, 3, 5, 0)) rfl).trans (gref (f := fun q => GO x d 51 Q 38 [v0, v1, v2, v3, v4] (.inr (.inr (.inl q)) :: st) I J))
set_option maxRecDepth 10000 in
theorem g_51_38 : GO x d 51 Q 38 [v0, v1, v2, v3, some (.inl a)] st I J = GO x d 51 Q 40 [v0, v1, v2, v3, some (.inl a)] (.inl a :: st) I J := ge (A := (1, 40, 4, 0, 0)) rfl
set_option maxRecDepth 10000 in
theorem h_51_40 : GO x d 51 Q 40 [v0, v1, v2, v3, v4] (.inl a :: .inr (.inr (.inr q)) :: st) I J = (q < 4 ∧ 0 ≤ a ∧ a < (roA x q).1 ∧ GO x d 51 Q 41 [v0, v1, v2, v3, v4] (.inl ((roA x q).2 a.toNat) :: st) I J) := ge (A := (44, 41, 0, 0, 0)) rfl
set_option maxRecDepth 10000 in
theorem g_51_40 : GO x d 51 Q 40 [v0, v1, v2, v3, v4] (.inl a :: .inr (.inr (.inl r)) :: st) I J = (okA r 20 ∧ 0 ≤ a ∧ a < lnN r ∧ GO x d 51 Q 41 [v0, v1, v2, v3, v4] (.inl (I r a) :: st) I J) := ge (A := (44, 41, 0, 0, 0)) rfl
set_option maxRecDepth 10000 in
theorem g_51_41 : GO x d 51 Q 41 [v0, v1, v2, v3, v4] (.inl b :: .inl a :: st) I J = GO x d 51 Q 42 [v0, v1, v2, v3, v4] (.inl (a + b) :: st) I J := ge (A := (8, 42, 0, 0, 0)) rfl
set_option maxRecDepth 10000 in
theorem h_51_42 : GO x d 51 Q 42 [v0, v1, v2, v3, v4] (.inl a :: .inr (.inr (.inr q)) :: st) I J = (q < 4 ∧ 0 ≤ a ∧ a < (roA x q).1 ∧ GO x d 51 Q 43 [v0, v1, v2, v3, v4] (.inl ((roA x q).2 a.toNat) :: st) I J) := ge (A := (44, 43, 0, 0, 0)) rfl
set_option maxRecDepth 10000 in
theorem g_51_42 : GO x d 51 Q 42 [v0, v1, v2, v3, v4] (.inl a :: .inr (.inr (.inl r)) :: st) I J = (okA r 20 ∧ 0 ≤ a ∧ a < lnN r ∧ GO x d 51 Q 43 [v0, v1, v2, v3, v4] (.inl (I r a) :: st) I J) := ge (A := (44, 43, 0, 0, 0)) rfl
set_option maxRecDepth 10000 in
theorem g_51_43 : GO x d 51 Q 43 [v0, v1, v2, v3, v4] (.inl b :: .inl a :: st) I J = GO x d 51 Q 44 [v0, v1, v2, v3, v4] (.inl (a + b) :: st) I J := ge (A := (8, 44, 0, 0, 0)) rfl
set_option maxRecDepth 10000 in
theorem g_51_44 : GO x d 51 Q 44 [v0, v1, v2, v3, v4] [.inl a] I J = Q (some (.inl a)) I J := ge (A := (55, 45, 0, 0, 0)) rfl
set_option maxRecDepth 10000 in
theorem e_51 : EX x (d + 1) 51 [.inr (.inr w0), .inr (.inr w1), .inl i0, .inl i1, .inl i2] I J Q = GO x d 51 Q 0 [some (.inr (.inr w0)), some (.inr (.inr w1)), some (.inl i0), some (.inl i1), some (.inl i2)] [] I J := ex_eq (Nat.le_of_ble_eq_true rfl) rfl (Nat.le_of_ble_eq_true rfl) rfl
set_option maxRecDepth 10000 in
theorem g_52_0 : GO x d 52 Q 0 [v0, v1, some (.inl a), v3, v4, v5, v6] st I J = GO x d 52 Q 1 [v0, v1, some (.inl a), v3, v4, v5, v6] (.inl a :: st) I J := ge (A := (1, 1, 2, 0, 0)) rfl
set_option maxRecDepth 10000 in
theorem g_52_1 : GO x d 52 Q 1 [v0, v1, v2, v3, v4, v5, v6] (.inl a :: st) I J = (nlO (some v2) = true ∧ GO x d 52 Q 2 [v0, v1, v2, some (.inl a), v4, v5, v6] st I J) := (ge (A := (4, 2, 3, 0, 0)) rfl).trans (gst (Nat.le_of_ble_eq_true rfl) _)
set_option maxRecDepth 10000 in
theorem g_52_2 : GO x d 52 Q 2 [v0, some (.inr (.inr w)), v2, v3, v4, v5, v6] st I J = GO x d 52 Q 3 [v0, some (.inr (.inr w)), v2, v3, v4, v5, v6] (.inr (.inr w) :: st) I J := ge (A := (2, 3, 1, 0, 0)) rfl
set_option maxRecDepth 10000 in
theorem g_52_3 : GO x d 52 Q 3 [v0, v1, v2, v3, v4, v5, v6] (.inr (.inr (.inl r)) :: st) I J = (okO r 3 ∧ GO x d 52 Q 6 [v0, v1, v2, v3, v4, v5, v6] (.inl (I r 12) :: st) I J) := ge (A := (37, 6, 3, 12, 0)) rfl
set_option maxRecDepth 10000 in
theorem g_52_6 : GO x d 52 Q 6 [v0, v1, v2, v3, v4, v5, v6] (.inl a :: st) I J = (nlO (some v3) = true ∧ GO x d 52 Q 8 [v0, v1, v2, v3, some (.inl a), v5, v6] st I J) := (ge (A := (4, 8, 4, 0, 0)) rfl).trans (gst (Nat.le_of_ble_eq_true rfl) _)
set_option maxRecDepth 10000 in
theorem g_52_8 : GO x d 52 Q 8 [v0, v1, v2, v3, v4, v5, v6] st I J = GO x d 52 Q 9 [v0, v1, v2, v3, v4, v5, v6] (.inl (0) :: st) I J := ge (A := (0, 9, 0, 0, 0)) rfl
set_option maxRecDepth 10000 in
theorem g_52_9 : GO x d 52 Q 9 [v0, v1, v2, v3, v4, v5, v6] (.inl a :: st) I J = (nlO (some v4) = true ∧ GO x d 52 Q 11 [v0, v1, v2, v3, v4, some (.inl a), v6] st I J) := (ge (A := (4, 11, 5, 0, 0)) rfl).trans (gst (Nat.le_of_ble_eq_true rfl) _)
set_option maxRecDepth 10000 in
theorem g_52_11 : GO x d 52 Q 11 [v0, v1, v2, v3, v4, some (.inl a), v6] st I J = GO x d 52 Q 13 [v0, v1, v2, v3, v4, some (.inl a), v6] (.inl a :: st) I J := ge (A := (1, 13, 5, 0, 0)) rfl
set_option maxRecDepth 10000 in
theorem g_52_13 : GO x d 52 Q 13 [some (.inr (.inr w)), v1, v2, v3, v4, v5, v6] st I J = GO x d 52 Q 14 [some (.inr (.inr w)), v1, v2, v3, v4, v5, v6] (.inr (.inr w) :: st) I J := ge (A := (2, 14, 0, 0, 0)) rfl
set_option maxRecDepth 10000 in
theorem g_52_14 : GO x d 52 Q 14 [v0, v1, v2, v3, v4, v5, v6] (.inr (.inr (.inl r)) :: st) I J = (okO r 6 ∧ GO x d 52 Q 17 [v0, v1, v2, v3, v4, v5, v6] (.inl (I r 2) :: st) I J) := ge (A := (37, 17, 6, 2, 0)) rfl
set_option maxRecDepth 10000 in
theorem g_52_17 : GO x d 52 Q 17 [v0, v1, v2, v3, v4, v5, v6] (.inl b :: .inl a :: st) I J = (inR a ∧ inR b ∧ if a < b then GO x d 52 Q 20 [v0, v1, v2, v3, v4, v5, v6] st I J else GO x d 52 Q 68 [v0, v1, v2, v3, v4, v5, v6] st I J) := (ge (A := (34, 20, 68, 3, 0)) rfl).trans (ggec)
set_option maxRecDepth 10000 in
theorem g_52_20 : GO x d 52 Q 20 [some (.inr (.inr w)), v1, v2, v3, v4, v5, v6] st I J = GO x d 52 Q 21 [some (.inr (.inr w)), v1, v2, v3, v4, v5, v6] (.inr (.inr w) :: st) I J := ge (A := (2, 21, 0, 0, 0)) rfl
set_option maxRecDepth 10000 in
theorem g_52_21 : GO x d 52 Q 21 [v0, some (.inr (.inr w)), v2, v3, v4, v5, v6] st I J = GO x d 52 Q 22 [v0, some (.inr (.inr w)), v2, v3, v4, v5, v6] (.inr (.inr w) :: st) I J := ge (A := (2, 22, 1, 0, 0)) rfl
set_option maxRecDepth 10000 in
theorem g_52_22 : GO x d 52 Q 22 [v0, v1, v2, some (.inl a), v4, v5, v6] st I J = GO x d 52 Q 23 [v0, v1, v2, some (.inl a), v4, v5, v6] (.inl a :: st) I J := ge (A := (1, 23, 3, 0, 0)) rfl
set_option maxRecDepth 10000 in
theorem g_52_23 : GO x d 52 Q 23 [v0, v1, v2, v3, some (.inl a), v5, v6] st I J = GO x d 52 Q 25 [v0, v1, v2, v3, some (.inl a), v5, v6] (.inl a :: st) I J := ge (A := (1, 25, 4, 0, 0)) rfl
set_option maxRecDepth 10000 in
theorem g_52_25 : GO x d 52 Q 25 [some (.inr (.inr w)), v1, v2, v3, v4, v5, v6] st I J = GO x d 52 Q 26 [some (.inr (.inr w)), v1, v2, v3, v4, v5, v6] (.inr (.inr w) :: st) I J := ge (A := (2, 26, 0, 0, 0)) rfl
set_option maxRecDepth 10000 in
theorem g_52_26 : GO x d 52 Q 26 [v0, v1, v2, v3, v4, v5, v6] (.inr (.inr (.inl r)) :: st) I J = (okO r 6 ∧ GO x d 52 Q 29 [v0, v1, v2, v3, v4, v5, v6] (.inl (I r 2) :: st) I J) := ge (A := (37, 29, 6, 2, 0)) rfl
set_option maxRecDepth 10000 in
theorem g_52_29 : GO x d 52 Q 29 [v0, v1, v2, v3, v4, some (.inl a), v6] st I J = GO x d 52 Q 31 [v0, v1, v2, v3, v4, some (.inl a), v6] (.inl a :: st) I J := ge (A := (1, 31, 5, 0, 0)) rfl
set_option maxRecDepth 10000 in
theorem g_52_31 : GO x d 52 Q 31 [v0, v1, v2, v3, v4, v5, v6] (.inl b :: .inl a :: st) I J = GO x d 52 Q 32 [v0, v1, v2, v3, v4, v5, v6] (.inl (a - b) :: st) I J := ge (A := (9, 32, 0, 0, 0)) rfl
set_option maxRecDepth 10000 in
theorem g_52_32 : GO x d 52 Q 32 [v0, v1, v2, v3, v4, v5, v6] [.inl i0, .inl i1, .inl i2, .inr (.inr w0), .inr (.inr (.inl r))] I J = (okO r 6 ∧ EX x d 53 [.inr (.inr (.inl r)), .inr (.inr w0), .inl i2, .inl i1, .inl i0] I J (fun r1 I1 J1 => GO x d 52 Q 35 [v0, v1, v2, v3, v4, v5, v6] (r1.toList ++ []) I1 J1)) := (ge (A := (53, 35, 53, 4, 0)) rfl).trans (gtrue (Nat.le_of_ble_eq_true rfl))
set_option maxRecDepth 10000 in
theorem g_52_35 : GO x d 52 Q 35 [v0, v1, v2, v3, v4, v5, v6] (.inl a :: st) I J = (nlO (some v5) = true ∧ GO x d 52 Q 37 [v0, v1, v2, v3, v4, v5, some (.inl a)] st I J) := (ge (A := (4, 37, 6, 0, 0)) rfl).trans (gst (Nat.le_of_ble_eq_true rfl) _)
set_option maxRecDepth 10000 in
theorem g_52_37 : GO x d 52 Q 37 [some (.inr (.inr w)), v1, v2, v3, v4, v5, v6] st I J = GO x d 52 Q 38 [some (.inr (.inr w)), v1, v2, v3, v4, v5, v6] (.inr (.inr w) :: st) I J := ge (A := (2, 38, 0, 0, 0)) rfl
set_option maxRecDepth 10000 in
theorem g_52_38 : GO x d 52 Q 38 [v0, v1, v2, v3, v4, v5, v6] (.inr (.inr (.inl r)) :: st) I J = (okF r 6 1 ∧ GO x d 52 Q 41 [v0, v1, v2, v3, v4, v5, v6] (.inr (.inr (.inl (rfN r 1))) :: st) I J) := (ge (A := (39, 41, 6, 1, 0)) rfl).trans (gref (f := fun q => GO x d 52 Q 41 [v0, v1, v2, v3, v4, v5, v6] (.inr (.inr (.inl q)) :: st) I J))
set_option maxRecDepth 10000 in
theorem g_52_41 : GO x d 52 Q 41 [v0, v1, v2, v3, v4, some (.inl a), v6] st I J = GO x d 52 Q 43 [v0, v1, v2, v3, v4, some (.inl a), v6] (.inl a :: st) I J := ge (A := (1, 43, 5, 0, 0)) rfl
set_option maxRecDepth 10000 in
theorem g_52_43 : GO x d 52 Q 43 [v0, v1, v2, v3, v4, v5, some (.inl a)] st I J = GO x d 52 Q 45 [v0, v1, v2, v3, v4, v5, some (.inl a)] (.inl a :: st) I J := ge (A := (1, 45, 6, 0, 0)) rfl
set_option maxRecDepth 10000 in
theorem g_52_45 : GO x d 52 Q 45 [v0, v1, v2, v3, v4, v5, v6] (.inl b :: .inl a :: .inr (.inr (.inl r)) :: st) I J = (okA r 20 ∧ 0 ≤ a ∧ a < lnN r ∧ GO x d 52 Q 46 [v0, v1, v2, v3, v4, v5, v6] st (up I r a b) J) := ge (A := (45, 46, 0, 0, 0)) rfl
set_option maxRecDepth 10000 in
theorem g_52_46 : GO x d 52 Q 46 [v0, v1, v2, some (.inl a), v4, v5, v6] st I J = GO x d 52 Q 47 [v0, v1, v2, some (.inl a), v4, v5, v6] (.inl a :: st) I J := ge (A := (1, 47, 3, 0, 0)) rfl
set_option maxRecDepth 10000 in
theorem g_52_47 : GO x d 52 Q 47 [v0, v1, v2, v3, v4, v5, v6] st I J = GO x d 52 Q 48 [v0, v1, v2, v3, v4, v5, v6] (.inl (1) :: st) I J := ge (A := (0, 48, 0, 0, 1)) rfl
set_option maxRecDepth 10000 in
theorem g_52_48 : GO x d 52 Q 48 [v0, v1, v2, v3, v4, v5, some (.inl a)] st I J = GO x d 52 Q 50 [v0, v1, v2, v3, v4, v5, some (.inl a)] (.inl a :: st) I J := ge (A := (1, 50, 6, 0, 0)) rfl
set_option maxRecDepth 10000 in
theorem g_52_50 : GO x d 52 Q 50 [v0, v1, v2, v3, v4, v5, v6] (.inl b :: .inl a :: st) I J = GO x d 52 Q 51 [v0, v1, v2, v3, v4, v5, v6] (.inl (shlI a b) :: st) I J := ge (A := (14, 51, 0, 0, 0)) rfl
set_option maxRecDepth 10000 in
theorem g_52_51 : GO x d 52 Q 51 [v0, v1, v2, v3, v4, v5, v6] (.inl b :: .inl a :: st) I J = GO x d 52 Q 52 [v0, v1, v2, v3, v4, v5, v6] (.inl (orI a b) :: st) I J := ge (A := (12, 52, 0, 0, 0)) rfl
set_option maxRecDepth 10000 in
theorem g_52_52 : GO x d 52 Q 52 [v0, v1, v2, v3, v4, v5, v6] (.inl a :: st) I J = (nlO (some v2) = true ∧ GO x d 52 Q 53 [v0, v1, v2, some (.inl a), v4, v5, v6] st I J) := (ge (A := (4, 53, 3, 0, 0)) rfl).trans (gst (Nat.le_of_ble_eq_true rfl) _)
set_option maxRecDepth 10000 in
theorem g_52_53 : GO x d 52 Q 53 [v0, some (.inr (.inr w)), v2, v3, v4, v5, v6] st I J = GO x d 52 Q 54 [v0, some (.inr (.inr w)), v2, v3, v4, v5, v6] (.inr (.inr w) :: st) I J := ge (A := (2, 54, 1, 0, 0)) rfl
set_option maxRecDepth 10000 in
theorem g_52_54 : GO x d 52 Q 54 [v0, v1, v2, v3, v4, v5, v6] (.inr (.inr (.inl r)) :: st) I J = (okF r 3 5 ∧ GO x d 52 Q 57 [v0, v1, v2, v3, v4, v5, v6] (.inr (.inr (.inl (rfN r 5))) :: st) I J) := (ge (A := (39, 57, 3, 5, 0)) rfl).trans (gref (f := fun q => GO x d 52 Q 57 [v0, v1, v2, v3, v4, v5, v6] (.inr (.inr (.inl q)) :: st) I J))
set_option maxRecDepth 10000 in
theorem g_52_57 : GO x d 52 Q 57 [v0, v1, v2, v3, v4, v5, some (.inl a)] st I J = GO x d 52 Q 59 [v0, v1, v2, v3, v4, v5, some (.inl a)] (.inl a :: st) I J := ge (A := (1, 59, 6, 0, 0)) rfl
set_option maxRecDepth 10000 in
theorem h_52_59 : GO x d 52 Q 59 [v0, v1, v2, v3, v4, v5, v6] (.inl a :: .inr (.inr (.inr q)) :: st) I J = (q < 4 ∧ 0 ≤ a ∧ a < (roA x q).1 ∧ GO x d 52 Q 60 [v0, v1, v2, v3, v4, v5, v6] (.inl ((roA x q).2 a.toNat) :: st) I J) := ge (A := (44, 60, 0, 0, 0)) rfl
set_option maxRecDepth 10000 in
theorem g_52_59 : GO x d 52 Q 59 [v0, v1, v2, v3, v4, v5, v6] (.inl a :: .inr (.inr (.inl r)) :: st) I J = (okA r 20 ∧ 0 ≤ a ∧ a < lnN r ∧ GO x d 52 Q 60 [v0, v1, v2, v3, v4, v5, v6] (.inl (I r a) :: st) I J) := ge (A := (44, 60, 0, 0, 0)) rfl
set_option maxRecDepth 10000 in
theorem g_52_60 : GO x d 52 Q 60 [v0, v1, v2, v3, v4, v5, v6] (.inl a :: st) I J = (nlO (some v3) = true ∧ GO x d 52 Q 62 [v0, v1, v2, v3, some (.inl a), v5, v6] st I J) := (ge (A := (4, 62, 4, 0, 0)) rfl).trans (gst (Nat.le_of_ble_eq_true rfl) _)
set_option maxRecDepth 10000 in
theorem g_52_62 : GO x d 52 Q 62 [v0, v1, v2, v3, v4, some (.inl a), v6] st I J = (nlO (some v4) = true ∧ GO x d 52 Q 65 [v0, v1, v2, v3, v4, some (.inl (a + (1))), v6] st I J) := ge (A := (7, 65, 5, 0, 1)) rfl
set_option maxRecDepth 10000 in
theorem g_52_65 : GO x d 52 Q 65 [v0, v1, v2, v3, v4, v5, v6] st I J = GO x d 52 Q 11 [v0, v1, v2, v3, v4, v5, v6] st I J := ge (A := (35, 68, 11, 0, 0)) rfl
set_option maxRecDepth 10000 in
theorem g_52_68 : GO x d 52 Q 68 [v0, v1, v2, v3, v4, v5, v6] [] I J = Q none I J := ge (A := (57, 69, 0, 0, 0)) rfl
set_option maxRecDepth 10000 in
theorem e_52 : EX x (d + 1) 52 [.inr (.inr w0), .inr (.inr w1), .inl i0] I J Q = GO x d 52 Q 0 [some (.inr (.inr w0)), some (.inr (.inr w1)), some (.inl i0), none, none, none, none] [] I J := ex_eq (Nat.le_of_ble_eq_true rfl) rfl (Nat.le_of_ble_eq_true rfl) rfl
set_option maxRecDepth 10000 in
theorem g_53_0 : GO x d 53 Q 0 [v0, v1, v2, v3, v4, v5] st I J = GO x d 53 Q 1 [v0, v1, v2, v3, v4, v5] (.inl (0) :: st) I J := ge (A := (0, 1, 0, 0, 0)) rfl
set_option maxRecDepth 10000 in
theorem g_53_1 : GO x d 53 Q 1 [v0, v1, v2, v3, v4, v5] (.inl a :: st) I J = (nlO (some v4) = true ∧ GO x d 53 Q 3 [v0, v1, v2, v3, v4, some (.inl a)] st I J) := (ge (A := (4, 3, 5, 0, 0)) rfl).trans (gst (Nat.le_of_ble_eq_true rfl) _)
set_option maxRecDepth 10000 in
theorem g_53_3 : GO x d 53 Q 3 [v0, v1, v2, v3, v4, some (.inl a)] st I J = GO x d 53 Q 5 [v0, v1, v2, v3, v4, some (.inl a)] (.inl a :: st) I J := ge (A := (1, 5, 5, 0, 0)) rfl
set_option maxRecDepth 10000 in
theorem g_53_5 : GO x d 53 Q 5 [v0, some (.inr (.inr w)), v2, v3, v4, v5] st I J = GO x d 53 Q 6 [v0, some (.inr (.inr w)), v2, v3, v4, v5] (.inr (.inr w) :: st) I J := ge (A := (2, 6, 1, 0, 0)) rfl
set_option maxRecDepth 10000 in
theorem g_53_6 : GO x d 53 Q 6 [v0, v1, v2, v3, v4, v5] (.inr (.inr (.inl r)) :: st) I J = (okO r 3 ∧ GO x d 53 Q 9 [v0, v1, v2, v3, v4, v5] (.inl (I r 3) :: st) I J) := ge (A := (37, 9, 3, 3, 0)) rfl
set_option maxRecDepth 10000 in
theorem g_53_9 : GO x d 53 Q 9 [v0, v1, v2, v3, v4, v5] (.inl b :: .inl a :: st) I J = (inR a ∧ inR b ∧ if a < b then GO x d 53 Q 12 [v0, v1, v2, v3, v4, v5] st I J else GO x d 53 Q 35 [v0, v1, v2, v3, v4, v5] st I J) := (ge (A := (34, 12, 35, 3, 0)) rfl).trans (ggec)
set_option maxRecDepth 10000 in
theorem g_53_12 : GO x d 53 Q 12 [some (.inr (.inr w)), v1, v2, v3, v4, v5] st I J = GO x d 53 Q 13 [some (.inr (.inr w)), v1, v2, v3, v4, v5] (.inr (.inr w) :: st) I J := ge (A := (2, 13, 0, 0, 0)) rfl
set_option maxRecDepth 10000 in
theorem g_53_13 : GO x d 53 Q 13 [v0, some (.inr (.inr w)), v2, v3, v4, v5] st I J = GO x d 53 Q 14 [v0, some (.inr (.inr w)), v2, v3, v4, v5] (.inr (.inr w) :: st) I J := ge (A := (2, 14, 1, 0, 0)) rfl
set_option maxRecDepth 10000 in
theorem g_53_14 : GO x d 53 Q 14 [v0, v1, some (.inl a), v3, v4, v5] st I J = GO x d 53 Q 15 [v0, v1, some (.inl a), v3, v4, v5] (.inl a :: st) I J := ge (A := (1, 15, 2, 0, 0)) rfl
set_option maxRecDepth 10000 in
theorem g_53_15 : GO x d 53 Q 15 [v0, v1, v2, some (.inl a), v4, v5] st I J = GO x d 53 Q 16 [v0, v1, v2, some (.inl a), v4, v5] (.inl a :: st) I J := ge (A := (1, 16, 3, 0, 0)) rfl
set_option maxRecDepth 10000 in
theorem g_53_16 : GO x d 53 Q 16 [v0, v1, v2, v3, v4, some (.inl a)] st I J = GO x d 53 Q 18 [v0, v1, v2, v3, v4, some (.inl a)] (.inl a :: st) I J := ge (A := (1, 18, 5, 0, 0)) rfl
set_option maxRecDepth 10000 in
theorem g_53_18 : GO x d 53 Q 18 [v0, v1, v2, v3, v4, v5] [.inl i0, .inl i1, .inl i2, .inr (.inr w0), .inr (.inr (.inl r))] I J = (okO r 6 ∧ EX x d 51 [.inr (.inr (.inl r)), .inr (.inr w0), .inl i2, .inl i1, .inl i0] I J (fun r1 I1 J1 => GO x d 53 Q 21 [v0, v1, v2, v3, v4, v5] (r1.toList ++ []) I1 J1)) := (ge (A := (53, 21, 51, 4, 0)) rfl).trans (gtrue (Nat.le_of_ble_eq_true rfl))
set_option maxRecDepth 10000 in
theorem g_53_21 : GO x d 53 Q 21 [v0, v1, v2, v3, some (.inl a), v5] st I J = GO x d 53 Q 23 [v0, v1, v2, v3, some (.inl a), v5] (.inl a :: st) I J := ge (A := (1, 23, 4, 0, 0)) rfl
set_option maxRecDepth 10000 in
theorem g_53_23 : GO x d 53 Q 23 [v0, v1, v2, v3, v4, v5] (.inl b :: .inl a :: st) I J = (inR a ∧ inR b ∧ if a = b then GO x d 53 Q 26 [v0, v1, v2, v3, v4, v5] st I J else GO x d 53 Q 29 [v0, v1, v2, v3, v4, v5] st I J) := (ge (A := (34, 26, 29, 1, 0)) rfl).trans (gicn (p := a = b) inferInstance)
set_option maxRecDepth 10000 in
theorem g_53_26 : GO x d 53 Q 26 [v0, v1, v2, v3, v4, some (.inl a)] st I J = GO x d 53 Q 28 [v0, v1, v2, v3, v4, some (.inl a)] (.inl a :: st) I J := ge (A := (1, 28, 5, 0, 0)) rfl
set_option maxRecDepth 10000 in
theorem g_53_28 : GO x d 53 Q 28 [v0, v1, v2, v3, v4, v5] [.inl a] I J = Q (some (.inl a)) I J := ge (A := (55, 29, 0, 0, 0)) rfl
set_option maxRecDepth 10000 in
theorem g_53_29 : GO x d 53 Q 29 [v0, v1, v2, v3, v4, some (.inl a)] st I J = (nlO (some v4) = true ∧ GO x d 53 Q 32 [v0, v1, v2, v3, v4, some (.inl (a + (1)))] st I J) := ge (A := (7, 32, 5, 0, 1)) rfl
set_option maxRecDepth 10000 in
theorem g_53_32 : GO x d 53 Q 32 [v0, v1, v2, v3, v4, v5] st I J = GO x d 53 Q 3 [v0, v1, v2, v3, v4, v5] st I J := ge (A := (35, 35, 3, 0, 0)) rfl
set_option maxRecDepth 10000 in
theorem g_53_35 : GO x d 53 Q 35 [v0, v1, v2, v3, v4, v5] st I J = GO x d 53 Q 36 [v0, v1, v2, v3, v4, v5] (.inl (0) :: st) I J := ge (A := (0, 36, 0, 0, 0)) rfl
set_option maxRecDepth 10000 in
theorem g_53_36 : GO x d 53 Q 36 [v0, v1, v2, v3, v4, v5] [.inl a] I J = Q (some (.inl a)) I J := ge (A := (55, 37, 0, 0, 0)) rfl
set_option maxRecDepth 10000 in
theorem e_53 : EX x (d + 1) 53 [.inr (.inr w0), .inr (.inr w1), .inl i0, .inl i1, .inl i2] I J Q = GO x d 53 Q 0 [some (.inr (.inr w0)), some (.inr (.inr w1)), some (.inl i0), some (.inl i1), some (.inl i2), none] [] I J := ex_eq (Nat.le_of_ble_eq_true rfl) rfl (Nat.le_of_ble_eq_true rfl) rfl
set_option maxRecDepth 10000 in
theorem g_55_0 : GO x d 55 Q 0 [some (.inr (.inr w)), v1] st I J = GO x d 55 Q 1 [some (.inr (.inr w)), v1] (.inr (.inr w) :: st) I J := ge (A := (2, 1, 0, 0, 0)) rfl
set_option maxRecDepth 10000 in
theorem g_55_1 : GO x d 55 Q 1 [v0, v1] (.inr (.inr (.inl r)) :: st) I J = (okO r 7 ∧ GO x d 55 Q 4 [v0, v1] (.inl (I r 3) :: st) I J) := ge (A := (37, 4, 7, 3, 0)) rfl
set_option maxRecDepth 10000 in
theorem g_55_4 : GO x d 55 Q 4 [v0, v1] (.inl a :: st) I J = (inR a ∧ if a < 0 then GO x d 55 Q 16 [v0, v1] st I J else GO x d 55 Q 7 [v0, v1] st I J) := (ge (A := (33, 7, 16, 2, 0)) rfl).trans (gif (p := a < 0) inferInstance)
set_option maxRecDepth 10000 in
theorem g_55_7 : GO x d 55 Q 7 [some (.inr (.inr w)), v1] st I J = GO x d 55 Q 8 [some (.inr (.inr w)), v1] (.inr (.inr w) :: st) I J := ge (A := (2, 8, 0, 0, 0)) rfl
set_option maxRecDepth 10000 in
theorem g_55_8 : GO x d 55 Q 8 [v0, v1] (.inr (.inr (.inl r)) :: st) I J = (okO r 7 ∧ GO x d 55 Q 11 [v0, v1] (.inl (I r 3) :: st) I J) := ge (A := (37, 11, 7, 3, 0)) rfl
set_option maxRecDepth 10000 in
theorem g_55_11 : GO x d 55 Q 11 [v0, v1] st I J = GO x d 55 Q 13 [v0, v1] (.inl (120) :: st) I J := ge (A := (0, 13, 0, 0, 120)) rfl
set_option maxRecDepth 10000 in
theorem g_55_13 : GO x d 55 Q 13 [v0, v1] (.inl b :: .inl a :: st) I J = (inR a ∧ inR b ∧ if a < b then GO x d 55 Q 18 [v0, v1] st I J else GO x d 55 Q 16 [v0, v1] st I J) := (ge (A := (34, 16, 18, 2, 0)) rfl).trans (gic (p := a < b) inferInstance)
set_option maxRecDepth 10000 in
theorem g_55_16 : GO x d 55 Q 16 [v0, v1] st I J = GO x d 55 Q 17 [v0, v1] (.inl (0) :: st) I J := ge (A := (0, 17, 0, 0, 0)) rfl
set_option maxRecDepth 10000 in
theorem g_55_17 : GO x d 55 Q 17 [v0, v1] [.inl a] I J = (ret01 a ∧ Q (some (.inl a)) I J) := ge (A := (56, 18, 0, 0, 0)) rfl
set_option maxRecDepth 10000 in
theorem g_55_18 : GO x d 55 Q 18 [some (.inr (.inr w)), v1] st I J = GO x d 55 Q 19 [some (.inr (.inr w)), v1] (.inr (.inr w) :: st) I J := ge (A := (2, 19, 0, 0, 0)) rfl
set_option maxRecDepth 10000 in
theorem g_55_19 : GO x d 55 Q 19 [v0, v1] (.inr (.inr (.inl r)) :: st) I J = (okF r 7 0 ∧ GO x d 55 Q 22 [v0, v1] (.inr (.inr (.inl (rfN r 0))) :: st) I J) := (ge (A := (39, 22, 7, 0, 0)) rfl).trans (gref (f := fun q => GO x d 55 Q 22 [v0, v1] (.inr (.inr (.inl q)) :: st) I J))
set_option maxRecDepth 10000 in
theorem g_55_22 : GO x d 55 Q 22 [some (.inr (.inr w)), v1] st I J = GO x d 55 Q 23 [some (.inr (.inr w)), v1] (.inr (.inr w) :: st) I J := ge (A := (2, 23, 0, 0, 0)) rfl
set_option maxRecDepth 10000 in
theorem g_55_23 : GO x d 55 Q 23 [v0, v1] (.inr (.inr (.inl r)) :: st) I J = (okO r 7 ∧ GO x d 55 Q 26 [v0, v1] (.inl (I r 3) :: st) I J) := ge (A := (37, 26, 7, 3, 0)) rfl
set_option maxRecDepth 10000 in
theorem g_55_26 : GO x d 55 Q 26 [v0, some (.inl a)] st I J = GO x d 55 Q 27 [v0, some (.inl a)] (.inl a :: st) I J := ge (A := (1, 27, 1, 0, 0)) rfl
set_option maxRecDepth 10000 in
theorem g_55_27 : GO x d 55 Q 27 [v0, v1] (.inl b :: .inl a :: .inr (.inr (.inl r)) :: st) I J = (okA r 20 ∧ 0 ≤ a ∧ a < lnN r ∧ GO x d 55 Q 28 [v0, v1] st (up I r a b) J) := ge (A := (45, 28, 0, 0, 0)) rfl
set_option maxRecDepth 10000 in
theorem g_55_28 : GO x d 55 Q 28 [some (.inr (.inr w)), v1] st I J = GO x d 55 Q 29 [some (.inr (.inr w)), v1] (.inr (.inr w) :: st) I J := ge (A := (2, 29, 0, 0, 0)) rfl
set_option maxRecDepth 10000 in
theorem g_55_29 : GO x d 55 Q 29 [v0, v1] (.inr (.inr w) :: st) I J = GO x d 55 Q 30 [v0, v1] (.inr (.inr w) :: .inr (.inr w) :: st) I J := ge (A := (31, 30, 0, 0, 0)) rfl
set_option maxRecDepth 10000 in
theorem g_55_30 : GO x d 55 Q 30 [v0, v1] (.inr (.inr (.inl r)) :: st) I J = (okO r 7 ∧ GO x d 55 Q 33 [v0, v1] (.inl (I r 3) :: st) I J) := ge (A := (37, 33, 7, 3, 0)) rfl
set_option maxRecDepth 10000 in
theorem g_55_33 : GO x d 55 Q 33 [v0, v1] st I J = GO x d 55 Q 34 [v0, v1] (.inl (1) :: st) I J := ge (A := (0, 34, 0, 0, 1)) rfl
set_option maxRecDepth 10000 in
theorem g_55_34 : GO x d 55 Q 34 [v0, v1] (.inl b :: .inl a :: st) I J = GO x d 55 Q 35 [v0, v1] (.inl (a + b) :: st) I J := ge (A := (8, 35, 0, 0, 0)) rfl
set_option maxRecDepth 10000 in
theorem g_55_35 : GO x d 55 Q 35 [v0, v1] (.inl a :: .inr (.inr (.inl r)) :: st) I J = (okO r 7 ∧ GO x d 55 Q 38 [v0, v1] st (up I r 3 a) J) := ge (A := (40, 38, 7, 3, 0)) rfl
set_option maxRecDepth 10000 in
theorem g_55_38 : GO x d 55 Q 38 [v0, v1] st I J = GO x d 55 Q 39 [v0, v1] (.inl (1) :: st) I J := ge (A := (0, 39, 0, 0, 1)) rfl
set_option maxRecDepth 10000 in
theorem g_55_39 : GO x d 55 Q 39 [v0, v1] [.inl a] I J = (ret01 a ∧ Q (some (.inl a)) I J) := ge (A := (56, 40, 0, 0, 0)) rfl
set_option maxRecDepth 10000 in
theorem e_55 : EX x (d + 1) 55 [.inr (.inr w0), .inl i0] I J Q = GO x d 55 Q 0 [some (.inr (.inr w0)), some (.inl i0)] [] I J := ex_eq (Nat.le_of_ble_eq_true rfl) rfl (Nat.le_of_ble_eq_true rfl) rfl
set_option maxRecDepth 10000 in
theorem g_56_0 : GO x d 56 Q 0 [some (.inr (.inr w)), v1] st I J = GO x d 56 Q 1 [some (.inr (.inr w)), v1] (.inr (.inr w) :: st) I J := ge (A := (2, 1, 0, 0, 0)) rfl
set_option maxRecDepth 10000 in
theorem g_56_1 : GO x d 56 Q 1 [v0, v1] st I J = GO x d 56 Q 2 [v0, v1] (.inl (0) :: st) I J := ge (A := (0, 2, 0, 0, 0)) rfl
set_option maxRecDepth 10000 in
theorem g_56_2 : GO x d 56 Q 2 [v0, v1] (.inl a :: .inr (.inr (.inl r)) :: st) I J = (okO r 7 ∧ GO x d 56 Q 5 [v0, v1] st (up I r 1 a) J) := ge (A := (40, 5, 7, 1, 0)) rfl
set_option maxRecDepth 10000 in
theorem g_56_5 : GO x d 56 Q 5 [some (.inr (.inr w)), v1] st I J = GO x d 56 Q 6 [some (.inr (.inr w)), v1] (.inr (.inr w) :: st) I J := ge (A := (2, 6, 0, 0, 0)) rfl
set_option maxRecDepth 10000 in
theorem g_56_6 : GO x d 56 Q 6 [v0, v1] st I J = GO x d 56 Q 7 [v0, v1] (.inl (1) :: st) I J := ge (A := (0, 7, 0, 0, 1)) rfl
set_option maxRecDepth 10000 in
theorem g_56_7 : GO x d 56 Q 7 [v0, v1] (.inl a :: .inr (.inr (.inl r)) :: st) I J = (okO r 7 ∧ ret01 a ∧ GO x d 56 Q 10 [v0, v1] st (up I r 2 a) J) := ge (A := (41, 10, 7, 2, 0)) rfl
set_option maxRecDepth 10000 in
theorem g_56_10 : GO x d 56 Q 10 [v0, some (.inr (.inr w))] st I J = GO x d 56 Q 11 [v0, some (.inr (.inr w))] (.inr (.inr w) :: st) I J := ge (A := (2, 11, 1, 0, 0)) rfl
set_option maxRecDepth 10000 in
theorem g_56_11 : GO x d 56 Q 11 [v0, v1] [.inr (.inr (.inl r))] I J = (okO r 3 ∧ EX x d 12 [.inr (.inr (.inl r))] I J (fun r1 I1 J1 => GO x d 56 Q 14 [v0, v1] (r1.toList ++ []) I1 J1)) := (ge (A := (53, 14, 12, 0, 0)) rfl).trans (gtrue (Nat.le_of_ble_eq_true rfl))
set_option maxRecDepth 10000 in
theorem g_56_14 : GO x d 56 Q 14 [some (.inr (.inr w)), v1] st I J = GO x d 56 Q 15 [some (.inr (.inr w)), v1] (.inr (.inr w) :: st) I J := ge (A := (2, 15, 0, 0, 0)) rfl
set_option maxRecDepth 10000 in
theorem g_56_15 : GO x d 56 Q 15 [v0, some (.inr (.inr w))] st I J = GO x d 56 Q 16 [v0, some (.inr (.inr w))] (.inr (.inr w) :: st) I J := ge (A := (2, 16, 1, 0, 0)) rfl
set_option maxRecDepth 10000 in
theorem g_56_16 : GO x d 56 Q 16 [v0, v1] [.inr (.inr w0), .inr (.inr (.inl r))] I J = (okO r 7 ∧ EX x d 57 [.inr (.inr (.inl r)), .inr (.inr w0)] I J (fun r1 I1 J1 => GO x d 56 Q 19 [v0, v1] (r1.toList ++ []) I1 J1)) := (ge (A := (53, 19, 57, 1, 0)) rfl).trans (gtrue (Nat.le_of_ble_eq_true rfl))
set_option maxRecDepth 10000 in
theorem g_56_19 : GO x d 56 Q 19 [some (.inr (.inr w)), v1] st I J = GO x d 56 Q 20 [some (.inr (.inr w)), v1] (.inr (.inr w) :: st) I J := ge (A := (2, 20, 0, 0, 0)) rfl
set_option maxRecDepth 10000 in
theorem g_56_20 : GO x d 56 Q 20 [v0, some (.inr (.inr w))] st I J = GO x d 56 Q 21 [v0, some (.inr (.inr w))] (.inr (.inr w) :: st) I J := ge (A := (2, 21, 1, 0, 0)) rfl
set_option maxRecDepth 10000 in
theorem g_56_21 : GO x d 56 Q 21 [v0, v1] [.inr (.inr w0), .inr (.inr (.inl r))] I J = (okO r 7 ∧ EX x d 58 [.inr (.inr (.inl r)), .inr (.inr w0)] I J (fun r1 I1 J1 => GO x d 56 Q 24 [v0, v1] (r1.toList ++ []) I1 J1)) := (ge (A := (53, 24, 58, 1, 0)) rfl).trans (gtrue (Nat.le_of_ble_eq_true rfl))
set_option maxRecDepth 10000 in
theorem g_56_24 : GO x d 56 Q 24 [some (.inr (.inr w)), v1] st I J = GO x d 56 Q 25 [some (.inr (.inr w)), v1] (.inr (.inr w) :: st) I J := ge (A := (2, 25, 0, 0, 0)) rfl
set_option maxRecDepth 10000 in
theorem g_56_25 : GO x d 56 Q 25 [v0, some (.inr (.inr w))] st I J = GO x d 56 Q 26 [v0, some (.inr (.inr w))] (.inr (.inr w) :: st) I J := ge (A := (2, 26, 1, 0, 0)) rfl
set_option maxRecDepth 10000 in
theorem g_56_26 : GO x d 56 Q 26 [v0, v1] [.inr (.inr w0), .inr (.inr (.inl r))] I J = (okO r 7 ∧ EX x d 59 [.inr (.inr (.inl r)), .inr (.inr w0)] I J (fun r1 I1 J1 => GO x d 56 Q 29 [v0, v1] (r1.toList ++ []) I1 J1)) := (ge (A := (53, 29, 59, 1, 0)) rfl).trans (gtrue (Nat.le_of_ble_eq_true rfl))
set_option maxRecDepth 10000 in
theorem g_56_29 : GO x d 56 Q 29 [some (.inr (.inr w)), v1] st I J = GO x d 56 Q 30 [some (.inr (.inr w)), v1] (.inr (.inr w) :: st) I J := ge (A := (2, 30, 0, 0, 0)) rfl
set_option maxRecDepth 10000 in
theorem g_56_30 : GO x d 56 Q 30 [v0, v1] (.inr (.inr (.inl r)) :: st) I J = (okO r 7 ∧ GO x d 56 Q 33 [v0, v1] (.inl (I r 2) :: st) I J) := ge (A := (37, 33, 7, 2, 0)) rfl
set_option maxRecDepth 10000 in
theorem g_56_33 : GO x d 56 Q 33 [v0, v1] [.inl a] I J = (ret01 a ∧ Q (some (.inl a)) I J) := ge (A := (56, 34, 0, 0, 0)) rfl
set_option maxRecDepth 10000 in
theorem e_56 : EX x (d + 1) 56 [.inr (.inr w0), .inr (.inr w1)] I J Q = GO x d 56 Q 0 [some (.inr (.inr w0)), some (.inr (.inr w1))] [] I J := ex_eq (Nat.le_of_ble_eq_true rfl) rfl (Nat.le_of_ble_eq_true rfl) rfl
set_option maxRecDepth 10000 in
theorem g_57_0 : GO x d 57 Q 0 [some (.inr (.inr w)), v1, v2] st I J = GO x d 57 Q 1 [some (.inr (.inr w)), v1, v2] (.inr (.inr w) :: st) I J := ge (A := (2, 1, 0, 0, 0)) rfl
set_option maxRecDepth 10000 in
theorem g_57_1 : GO x d 57 Q 1 [v0, v1, v2] st I J = GO x d 57 Q 3 [v0, v1, v2] (.inl (104) :: st) I J := ge (A := (0, 3, 0, 0, 104)) rfl
set_option maxRecDepth 10000 in
theorem g_57_3 : GO x d 57 Q 3 [v0, v1, v2] [.inl i0, .inr (.inr (.inl r))] I J = (okO r 7 ∧ EX x d 60 [.inr (.inr (.inl r)), .inl i0] I J (fun r1 I1 J1 => GO x d 57 Q 6 [v0, v1, v2] (r1.toList ++ []) I1 J1)) := (ge (A := (53, 6, 60, 1, 0)) rfl).trans (gtrue (Nat.le_of_ble_eq_true rfl))
set_option maxRecDepth 10000 in
theorem g_57_6 : GO x d 57 Q 6 [v0, some (.inr (.inr w)), v2] st I J = GO x d 57 Q 7 [v0, some (.inr (.inr w)), v2] (.inr (.inr w) :: st) I J := ge (A := (2, 7, 1, 0, 0)) rfl
set_option maxRecDepth 10000 in
theorem g_57_7 : GO x d 57 Q 7 [some (.inr (.inr w)), v1, v2] st I J = GO x d 57 Q 8 [some (.inr (.inr w)), v1, v2] (.inr (.inr w) :: st) I J := ge (A := (2, 8, 0, 0, 0)) rfl
set_option maxRecDepth 10000 in
theorem g_57_8 : GO x d 57 Q 8 [v0, v1, v2] st I J = GO x d 57 Q 9 [v0, v1, v2] (.inl (1) :: st) I J := ge (A := (0, 9, 0, 0, 1)) rfl
set_option maxRecDepth 10000 in
theorem g_57_9 : GO x d 57 Q 9 [v0, v1, v2] st I J = GO x d 57 Q 11 [v0, v1, v2] (.inl (24) :: st) I J := ge (A := (0, 11, 0, 0, 24)) rfl
set_option maxRecDepth 10000 in
theorem g_57_11 : GO x d 57 Q 11 [v0, v1, v2] [.inl i0, .inl i1, .inr (.inr (.inl r)), .inr (.inr w0)] I J = (okO r 7 ∧ EX x d 61 [.inr (.inr (.inl r)), .inl i1, .inl i0] I J (fun r1 I1 J1 => GO x d 57 Q 14 [v0, v1, v2] (r1.toList ++ [.inr (.inr w0)]) I1 J1)) := (ge (A := (53, 14, 61, 2, 0)) rfl).trans (gtrue (Nat.le_of_ble_eq_true rfl))
set_option maxRecDepth 10000 in
theorem g_57_14 : GO x d 57 Q 14 [v0, v1, v2] (.inl a :: .inr (.inr (.inl r)) :: st) I J = (okO r 3 ∧ GO x d 57 Q 17 [v0, v1, v2] st (up I r 1 a) J) := ge (A := (40, 17, 3, 1, 0)) rfl
set_option maxRecDepth 10000 in
theorem g_57_17 : GO x d 57 Q 17 [v0, v1, v2] st I J = GO x d 57 Q 18 [v0, v1, v2] (.inl (0) :: st) I J := ge (A := (0, 18, 0, 0, 0)) rfl
set_option maxRecDepth 10000 in
theorem g_57_18 : GO x d 57 Q 18 [v0, v1, v2] (.inl a :: st) I J = (nlO (some v1) = true ∧ GO x d 57 Q 19 [v0, v1, some (.inl a)] st I J) := (ge (A := (4, 19, 2, 0, 0)) rfl).trans (gst (Nat.le_of_ble_eq_true rfl) _)
set_option maxRecDepth 10000 in
theorem g_57_19 : GO x d 57 Q 19 [v0, v1, some (.inl a)] st I J = GO x d 57 Q 20 [v0, v1, some (.inl a)] (.inl a :: st) I J := ge (A := (1, 20, 2, 0, 0)) rfl
set_option maxRecDepth 10000 in
theorem g_57_20 : GO x d 57 Q 20 [v0, v1, v2] st I J = GO x d 57 Q 21 [v0, v1, v2] (.inl (4) :: st) I J := ge (A := (0, 21, 0, 0, 4)) rfl
set_option maxRecDepth 10000 in
theorem g_57_21 : GO x d 57 Q 21 [v0, v1, v2] (.inl b :: .inl a :: st) I J = (inR a ∧ inR b ∧ if a < b then GO x d 57 Q 24 [v0, v1, v2] st I J else GO x d 57 Q 49 [v0, v1, v2] st I J) := (ge (A := (34, 24, 49, 3, 0)) rfl).trans (ggec)
set_option maxRecDepth 10000 in
theorem g_57_24 : GO x d 57 Q 24 [some (.inr (.inr w)), v1, v2] st I J = GO x d 57 Q 25 [some (.inr (.inr w)), v1, v2] (.inr (.inr w) :: st) I J := ge (A := (2, 25, 0, 0, 0)) rfl
set_option maxRecDepth 10000 in
theorem g_57_25 : GO x d 57 Q 25 [v0, v1, v2] st I J = GO x d 57 Q 27 [v0, v1, v2] (.inl (44) :: st) I J := ge (A := (0, 27, 0, 0, 44)) rfl
set_option maxRecDepth 10000 in
theorem g_57_27 : GO x d 57 Q 27 [v0, v1, v2] [.inl i0, .inr (.inr (.inl r))] I J = (okO r 7 ∧ EX x d 60 [.inr (.inr (.inl r)), .inl i0] I J (fun r1 I1 J1 => GO x d 57 Q 30 [v0, v1, v2] (r1.toList ++ []) I1 J1)) := (ge (A := (53, 30, 60, 1, 0)) rfl).trans (gtrue (Nat.le_of_ble_eq_true rfl))
set_option maxRecDepth 10000 in
theorem g_57_30 : GO x d 57 Q 30 [v0, some (.inr (.inr w)), v2] st I J = GO x d 57 Q 31 [v0, some (.inr (.inr w)), v2] (.inr (.inr w) :: st) I J := ge (A := (2, 31, 1, 0, 0)) rfl
set_option maxRecDepth 10000 in
theorem g_57_31 : GO x d 57 Q 31 [v0, v1, v2] (.inr (.inr (.inl r)) :: st) I J = (okF r 3 2 ∧ GO x d 57 Q 34 [v0, v1, v2] (.inr (.inr (.inl (rfN r 2))) :: st) I J) := (ge (A := (39, 34, 3, 2, 0)) rfl).trans (gref (f := fun q => GO x d 57 Q 34 [v0, v1, v2] (.inr (.inr (.inl q)) :: st) I J))
set_option maxRecDepth 10000 in
theorem g_57_34 : GO x d 57 Q 34 [v0, v1, some (.inl a)] st I J = GO x d 57 Q 35 [v0, v1, some (.inl a)] (.inl a :: st) I J := ge (A := (1, 35, 2, 0, 0)) rfl
set_option maxRecDepth 10000 in
theorem g_57_35 : GO x d 57 Q 35 [some (.inr (.inr w)), v1, v2] st I J = GO x d 57 Q 36 [some (.inr (.inr w)), v1, v2] (.inr (.inr w) :: st) I J := ge (A := (2, 36, 0, 0, 0)) rfl
set_option maxRecDepth 10000 in
theorem g_57_36 : GO x d 57 Q 36 [v0, v1, v2] st I J = GO x d 57 Q 37 [v0, v1, v2] (.inl (0) :: st) I J := ge (A := (0, 37, 0, 0, 0)) rfl
set_option maxRecDepth 10000 in
theorem g_57_37 : GO x d 57 Q 37 [v0, v1, v2] st I J = GO x d 57 Q 39 [v0, v1, v2] (.inl (15) :: st) I J := ge (A := (0, 39, 0, 0, 15)) rfl
set_option maxRecDepth 10000 in
theorem g_57_39 : GO x d 57 Q 39 [v0, v1, v2] [.inl i0, .inl i1, .inr (.inr (.inl r)), .inl i2, .inr (.inr w0)] I J = (okO r 7 ∧ EX x d 61 [.inr (.inr (.inl r)), .inl i1, .inl i0] I J (fun r1 I1 J1 => GO x d 57 Q 42 [v0, v1, v2] (r1.toList ++ [.inl i2, .inr (.inr w0)]) I1 J1)) := (ge (A := (53, 42, 61, 2, 0)) rfl).trans (gtrue (Nat.le_of_ble_eq_true rfl))
set_option maxRecDepth 10000 in
theorem g_57_42 : GO x d 57 Q 42 [v0, v1, v2] (.inl b :: .inl a :: .inr (.inr (.inl r)) :: st) I J = (okA r 20 ∧ 0 ≤ a ∧ a < lnN r ∧ GO x d 57 Q 43 [v0, v1, v2] st (up I r a b) J) := ge (A := (45, 43, 0, 0, 0)) rfl
set_option maxRecDepth 10000 in
theorem g_57_43 : GO x d 57 Q 43 [v0, v1, some (.inl a)] st I J = (nlO (some v1) = true ∧ GO x d 57 Q 46 [v0, v1, some (.inl (a + (1)))] st I J) := ge (A := (7, 46, 2, 0, 1)) rfl
set_option maxRecDepth 10000 in
theorem g_57_46 : GO x d 57 Q 46 [v0, v1, v2] st I J = GO x d 57 Q 19 [v0, v1, v2] st I J := ge (A := (35, 49, 19, 0, 0)) rfl
set_option maxRecDepth 10000 in
theorem g_57_49 : GO x d 57 Q 49 [some (.inr (.inr w)), v1, v2] st I J = GO x d 57 Q 50 [some (.inr (.inr w)), v1, v2] (.inr (.inr w) :: st) I J := ge (A := (2, 50, 0, 0, 0)) rfl
set_option maxRecDepth 10000 in
theorem g_57_50 : GO x d 57 Q 50 [v0, v1, v2] st I J = GO x d 57 Q 52 [v0, v1, v2] (.inl (59) :: st) I J := ge (A := (0, 52, 0, 0, 59)) rfl
set_option maxRecDepth 10000 in
theorem g_57_52 : GO x d 57 Q 52 [v0, v1, v2] [.inl i0, .inr (.inr (.inl r))] I J = (okO r 7 ∧ EX x d 60 [.inr (.inr (.inl r)), .inl i0] I J (fun r1 I1 J1 => GO x d 57 Q 55 [v0, v1, v2] (r1.toList ++ []) I1 J1)) := (ge (A := (53, 55, 60, 1, 0)) rfl).trans (gtrue (Nat.le_of_ble_eq_true rfl))
set_option maxRecDepth 10000 in
theorem g_57_55 : GO x d 57 Q 55 [v0, v1, v2] [] I J = Q none I J := ge (A := (57, 56, 0, 0, 0)) rfl
set_option maxRecDepth 10000 in
theorem e_57 : EX x (d + 1) 57 [.inr (.inr w0), .inr (.inr w1)] I J Q = GO x d 57 Q 0 [some (.inr (.inr w0)), some (.inr (.inr w1)), none] [] I J := ex_eq (Nat.le_of_ble_eq_true rfl) rfl (Nat.le_of_ble_eq_true rfl) rfl
end
