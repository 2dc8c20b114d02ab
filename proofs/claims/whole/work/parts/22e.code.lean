section
variable {x : RO} {d : Nat} {Q : QT} {I : MI} {J : MJ} {v0 v1 v2 v3 v4 v5 v6 v7 v8 v9 v10 v11 v12 : Option AV} {st : List AV} {a b e : Int} {r q : Nat} {w w2 : Nat ⊕ Nat} {y z : Int64}
variable {i0 i1 i2 i3 i4 i5 i6 i7 i8 i9 : Int} {w0 w1 w3 w4 w5 w6 w7 w8 w9 : Nat ⊕ Nat} {l0 l1 l2 l3 l4 : Int64}
set_option maxRecDepth 10000 in
theorem g_120_0 : GO x d 120 Q 0 [v0, some (.inl a)] st I J = GO x d 120 Q 1 [v0, some (.inl a)] (.inl a :: st) I J := ge (A := (1, 1, 1, 0, 0)) rfl
set_option maxRecDepth 10000 in
theorem g_120_1 : GO x d 120 Q 1 [v0, v1] st I J = GO x d 120 Q 2 [v0, v1] (.inl (0) :: st) I J := ge (A := (0, 2, 0, 0, 0)) rfl
set_option maxRecDepth 10000 in
theorem g_120_2 : GO x d 120 Q 2 [v0, v1] st I J = GO x d 120 Q 5 [v0, v1] (.inl (255) :: st) I J := ge (A := (0, 5, 0, 0, 255)) rfl
set_option maxRecDepth 10000 in
theorem g_120_5 : GO x d 120 Q 5 [v0, v1] [.inl i0, .inl i1, .inl i2] I J = EX x d 109 [.inl i2, .inl i1, .inl i0] I J (fun r1 I1 J1 => GO x d 120 Q 8 [v0, v1] (r1.toList ++ []) I1 J1) := (ge (A := (52, 8, 109, 3, 0)) rfl).trans (gtrue2 (Nat.le_of_ble_eq_true rfl) (Nat.le_of_ble_eq_true rfl))
set_option maxRecDepth 10000 in
theorem g_120_8 : GO x d 120 Q 8 [v0, v1] (.inl a :: st) I J = (inR a ∧ if a = 0 then GO x d 120 Q 11 [v0, v1] st I J else GO x d 120 Q 14 [v0, v1] st I J) := (ge (A := (33, 11, 14, 1, 0)) rfl).trans (gifn (p := a = 0) inferInstance)
set_option maxRecDepth 10000 in
theorem g_120_11 : GO x d 120 Q 11 [v0, v1] st I J = GO x d 120 Q 13 [v0, v1] (.inl (-1000001) :: st) I J := ge (A := (0, 13, 0, 0, -1000001)) rfl
set_option maxRecDepth 10000 in
theorem g_120_13 : GO x d 120 Q 13 [v0, v1] [.inl a] I J = Q (some (.inl a)) I J := ge (A := (55, 14, 0, 0, 0)) rfl
set_option maxRecDepth 10000 in
theorem g_120_14 : GO x d 120 Q 14 [some (.inr (.inr w)), v1] st I J = GO x d 120 Q 15 [some (.inr (.inr w)), v1] (.inr (.inr w) :: st) I J := ge (A := (2, 15, 0, 0, 0)) rfl
set_option maxRecDepth 10000 in
theorem g_120_15 : GO x d 120 Q 15 [v0, v1] (.inr (.inr (.inl r)) :: st) I J = (okO r 10 ∧ GO x d 120 Q 18 [v0, v1] (.inl (I r 1) :: st) I J) := ge (A := (37, 18, 10, 1, 0)) rfl
set_option maxRecDepth 10000 in
theorem g_120_18 : GO x d 120 Q 18 [v0, v1] st I J = GO x d 120 Q 20 [v0, v1] (.inl (120) :: st) I J := ge (A := (0, 20, 0, 0, 120)) rfl
set_option maxRecDepth 10000 in
theorem g_120_20 : GO x d 120 Q 20 [v0, v1] (.inl b :: .inl a :: st) I J = (inR a ∧ inR b ∧ if a = b then GO x d 120 Q 23 [v0, v1] st I J else GO x d 120 Q 26 [v0, v1] st I J) := (ge (A := (34, 23, 26, 1, 0)) rfl).trans (gicn (p := a = b) inferInstance)
set_option maxRecDepth 10000 in
theorem g_120_23 : GO x d 120 Q 23 [v0, v1] st I J = GO x d 120 Q 25 [v0, v1] (.inl (-1000003) :: st) I J := ge (A := (0, 25, 0, 0, -1000003)) rfl
set_option maxRecDepth 10000 in
theorem g_120_25 : GO x d 120 Q 25 [v0, v1] [.inl a] I J = Q (some (.inl a)) I J := ge (A := (55, 26, 0, 0, 0)) rfl
set_option maxRecDepth 10000 in
theorem g_120_26 : GO x d 120 Q 26 [some (.inr (.inr w)), v1] st I J = GO x d 120 Q 27 [some (.inr (.inr w)), v1] (.inr (.inr w) :: st) I J := ge (A := (2, 27, 0, 0, 0)) rfl
set_option maxRecDepth 10000 in
theorem g_120_27 : GO x d 120 Q 27 [v0, v1] (.inr (.inr (.inl r)) :: st) I J = (okF r 10 0 ∧ GO x d 120 Q 30 [v0, v1] (.inr (.inr (.inl (rfN r 0))) :: st) I J) := (ge (A := (39, 30, 10, 0, 0)) rfl).trans (gref (f := fun q => GO x d 120 Q 30 [v0, v1] (.inr (.inr (.inl q)) :: st) I J))
set_option maxRecDepth 10000 in
theorem g_120_30 : GO x d 120 Q 30 [some (.inr (.inr w)), v1] st I J = GO x d 120 Q 31 [some (.inr (.inr w)), v1] (.inr (.inr w) :: st) I J := ge (A := (2, 31, 0, 0, 0)) rfl
set_option maxRecDepth 10000 in
theorem g_120_31 : GO x d 120 Q 31 [v0, v1] (.inr (.inr (.inl r)) :: st) I J = (okO r 10 ∧ GO x d 120 Q 34 [v0, v1] (.inl (I r 1) :: st) I J) := ge (A := (37, 34, 10, 1, 0)) rfl
set_option maxRecDepth 10000 in
theorem g_120_34 : GO x d 120 Q 34 [v0, some (.inl a)] st I J = GO x d 120 Q 35 [v0, some (.inl a)] (.inl a :: st) I J := ge (A := (1, 35, 1, 0, 0)) rfl
set_option maxRecDepth 10000 in
theorem g_120_35 : GO x d 120 Q 35 [v0, v1] (.inl b :: .inl a :: .inr (.inr (.inl r)) :: st) I J = (okA r 20 ∧ 0 ≤ a ∧ a < lnN r ∧ GO x d 120 Q 36 [v0, v1] st (up I r a b) J) := ge (A := (45, 36, 0, 0, 0)) rfl
set_option maxRecDepth 10000 in
theorem g_120_36 : GO x d 120 Q 36 [some (.inr (.inr w)), v1] st I J = GO x d 120 Q 37 [some (.inr (.inr w)), v1] (.inr (.inr w) :: st) I J := ge (A := (2, 37, 0, 0, 0)) rfl
set_option maxRecDepth 10000 in
theorem g_120_37 : GO x d 120 Q 37 [v0, v1] (.inr (.inr w) :: st) I J = GO x d 120 Q 38 [v0, v1] (.inr (.inr w) :: .inr (.inr w) :: st) I J := ge (A := (31, 38, 0, 0, 0)) rfl
set_option maxRecDepth 10000 in
theorem g_120_38 : GO x d 120 Q 38 [v0, v1] (.inr (.inr (.inl r)) :: st) I J = (okO r 10 ∧ GO x d 120 Q 41 [v0, v1] (.inl (I r 1) :: st) I J) := ge (A := (37, 41, 10, 1, 0)) rfl
set_option maxRecDepth 10000 in
theorem g_120_41 : GO x d 120 Q 41 [v0, v1] st I J = GO x d 120 Q 42 [v0, v1] (.inl (1) :: st) I J := ge (A := (0, 42, 0, 0, 1)) rfl
set_option maxRecDepth 10000 in
theorem g_120_42 : GO x d 120 Q 42 [v0, v1] (.inl b :: .inl a :: st) I J = GO x d 120 Q 43 [v0, v1] (.inl (a + b) :: st) I J := ge (A := (8, 43, 0, 0, 0)) rfl
set_option maxRecDepth 10000 in
theorem g_120_43 : GO x d 120 Q 43 [v0, v1] (.inl a :: .inr (.inr (.inl r)) :: st) I J = (okO r 10 ∧ GO x d 120 Q 46 [v0, v1] st (up I r 1 a) J) := ge (A := (40, 46, 10, 1, 0)) rfl
set_option maxRecDepth 10000 in
theorem g_120_46 : GO x d 120 Q 46 [some (.inr (.inr w)), v1] st I J = GO x d 120 Q 47 [some (.inr (.inr w)), v1] (.inr (.inr w) :: st) I J := ge (A := (2, 47, 0, 0, 0)) rfl
set_option maxRecDepth 10000 in
theorem g_120_47 : GO x d 120 Q 47 [v0, v1] (.inr (.inr (.inl r)) :: st) I J = (okO r 10 ∧ GO x d 120 Q 50 [v0, v1] (.inl (I r 1) :: st) I J) := ge (A := (37, 50, 10, 1, 0)) rfl
set_option maxRecDepth 10000 in
theorem g_120_50 : GO x d 120 Q 50 [v0, v1] [.inl a] I J = Q (some (.inl a)) I J := ge (A := (55, 51, 0, 0, 0)) rfl
set_option maxRecDepth 10000 in
theorem e_120 : EX x (d + 1) 120 [.inr (.inr w0), .inl i0] I J Q = GO x d 120 Q 0 [some (.inr (.inr w0)), some (.inl i0)] [] I J := ex_eq (Nat.le_of_ble_eq_true rfl) rfl (Nat.le_of_ble_eq_true rfl) rfl
set_option maxRecDepth 10000 in
theorem g_121_0 : GO x d 121 Q 0 [v0, some (.inl a)] st I J = GO x d 121 Q 1 [v0, some (.inl a)] (.inl a :: st) I J := ge (A := (1, 1, 1, 0, 0)) rfl
set_option maxRecDepth 10000 in
theorem g_121_1 : GO x d 121 Q 1 [some (.inr (.inr w)), v1] st I J = GO x d 121 Q 2 [some (.inr (.inr w)), v1] (.inr (.inr w) :: st) I J := ge (A := (2, 2, 0, 0, 0)) rfl
set_option maxRecDepth 10000 in
theorem g_121_2 : GO x d 121 Q 2 [v0, v1] (.inr (.inr (.inl r)) :: st) I J = (okO r 10 ∧ GO x d 121 Q 5 [v0, v1] (.inl (I r 1) :: st) I J) := ge (A := (37, 5, 10, 1, 0)) rfl
set_option maxRecDepth 10000 in
theorem g_121_5 : GO x d 121 Q 5 [v0, v1] (.inl b :: .inl a :: st) I J = (inR a ∧ inR b ∧ if a < b then GO x d 121 Q 8 [v0, v1] st I J else GO x d 121 Q 17 [v0, v1] st I J) := (ge (A := (34, 8, 17, 3, 0)) rfl).trans (ggec)
set_option maxRecDepth 10000 in
theorem g_121_8 : GO x d 121 Q 8 [some (.inr (.inr w)), v1] st I J = GO x d 121 Q 9 [some (.inr (.inr w)), v1] (.inr (.inr w) :: st) I J := ge (A := (2, 9, 0, 0, 0)) rfl
set_option maxRecDepth 10000 in
theorem g_121_9 : GO x d 121 Q 9 [v0, v1] (.inr (.inr (.inl r)) :: st) I J = (okF r 10 0 ∧ GO x d 121 Q 12 [v0, v1] (.inr (.inr (.inl (rfN r 0))) :: st) I J) := (ge (A := (39, 12, 10, 0, 0)) rfl).trans (gref (f := fun q => GO x d 121 Q 12 [v0, v1] (.inr (.inr (.inl q)) :: st) I J))
set_option maxRecDepth 10000 in
theorem g_121_12 : GO x d 121 Q 12 [v0, some (.inl a)] st I J = GO x d 121 Q 13 [v0, some (.inl a)] (.inl a :: st) I J := ge (A := (1, 13, 1, 0, 0)) rfl
set_option maxRecDepth 10000 in
theorem h_121_13 : GO x d 121 Q 13 [v0, v1] (.inl a :: .inr (.inr (.inr q)) :: st) I J = (q < 4 ∧ 0 ≤ a ∧ a < (roA x q).1 ∧ GO x d 121 Q 14 [v0, v1] (.inl ((roA x q).2 a.toNat) :: st) I J) := ge (A := (44, 14, 0, 0, 0)) rfl
set_option maxRecDepth 10000 in
theorem g_121_13 : GO x d 121 Q 13 [v0, v1] (.inl a :: .inr (.inr (.inl r)) :: st) I J = (okA r 20 ∧ 0 ≤ a ∧ a < lnN r ∧ GO x d 121 Q 14 [v0, v1] (.inl (I r a) :: st) I J) := ge (A := (44, 14, 0, 0, 0)) rfl
set_option maxRecDepth 10000 in
theorem g_121_14 : GO x d 121 Q 14 [v0, v1] st I J = GO x d 121 Q 18 [v0, v1] st I J := ge (A := (35, 17, 18, 0, 0)) rfl
set_option maxRecDepth 10000 in
theorem g_121_17 : GO x d 121 Q 17 [v0, v1] st I J = GO x d 121 Q 18 [v0, v1] (.inl (-1) :: st) I J := ge (A := (0, 18, 0, 0, -1)) rfl
set_option maxRecDepth 10000 in
theorem g_121_18 : GO x d 121 Q 18 [v0, v1] [.inl a] I J = Q (some (.inl a)) I J := ge (A := (55, 19, 0, 0, 0)) rfl
set_option maxRecDepth 10000 in
theorem e_121 : EX x (d + 1) 121 [.inr (.inr w0), .inl i0] I J Q = GO x d 121 Q 0 [some (.inr (.inr w0)), some (.inl i0)] [] I J := ex_eq (Nat.le_of_ble_eq_true rfl) rfl (Nat.le_of_ble_eq_true rfl) rfl
set_option maxRecDepth 10000 in
theorem g_122_0 : GO x d 122 Q 0 [some (.inr (.inr w)), v1, v2] st I J = GO x d 122 Q 1 [some (.inr (.inr w)), v1, v2] (.inr (.inr w) :: st) I J := ge (A := (2, 1, 0, 0, 0)) rfl
set_option maxRecDepth 10000 in
theorem g_122_1 : GO x d 122 Q 1 [some (.inr (.inr w)), v1, v2] st I J = GO x d 122 Q 2 [some (.inr (.inr w)), v1, v2] (.inr (.inr w) :: st) I J := ge (A := (2, 2, 0, 0, 0)) rfl
set_option maxRecDepth 10000 in
theorem g_122_2 : GO x d 122 Q 2 [v0, v1, v2] (.inr (.inr (.inl r)) :: st) I J = (okO r 10 ∧ GO x d 122 Q 5 [v0, v1, v2] (.inl (I r 15) :: st) I J) := ge (A := (37, 5, 10, 15, 0)) rfl
set_option maxRecDepth 10000 in
theorem g_122_5 : GO x d 122 Q 5 [v0, v1, v2] (.inl a :: .inr (.inr (.inl r)) :: st) I J = (okO r 10 ∧ GO x d 122 Q 8 [v0, v1, v2] st (up I r 17 a) J) := ge (A := (40, 8, 10, 17, 0)) rfl
set_option maxRecDepth 10000 in
theorem g_122_8 : GO x d 122 Q 8 [some (.inr (.inr w)), v1, v2] st I J = GO x d 122 Q 9 [some (.inr (.inr w)), v1, v2] (.inr (.inr w) :: st) I J := ge (A := (2, 9, 0, 0, 0)) rfl
set_option maxRecDepth 10000 in
theorem g_122_9 : GO x d 122 Q 9 [some (.inr (.inr w)), v1, v2] st I J = GO x d 122 Q 10 [some (.inr (.inr w)), v1, v2] (.inr (.inr w) :: st) I J := ge (A := (2, 10, 0, 0, 0)) rfl
set_option maxRecDepth 10000 in
theorem g_122_10 : GO x d 122 Q 10 [v0, v1, v2] (.inr (.inr (.inl r)) :: st) I J = (okO r 10 ∧ GO x d 122 Q 13 [v0, v1, v2] (.inl (I r 15) :: st) I J) := ge (A := (37, 13, 10, 15, 0)) rfl
set_option maxRecDepth 10000 in
theorem g_122_13 : GO x d 122 Q 13 [v0, v1, v2] [.inl i0, .inr (.inr (.inl r))] I J = (okO r 10 ∧ EX x d 121 [.inr (.inr (.inl r)), .inl i0] I J (fun r1 I1 J1 => GO x d 122 Q 16 [v0, v1, v2] (r1.toList ++ []) I1 J1)) := (ge (A := (53, 16, 121, 1, 0)) rfl).trans (gtrue (Nat.le_of_ble_eq_true rfl))
set_option maxRecDepth 10000 in
theorem g_122_16 : GO x d 122 Q 16 [v0, v1, v2] (.inl a :: st) I J = (nlO (some v0) = true ∧ GO x d 122 Q 17 [v0, some (.inl a), v2] st I J) := (ge (A := (4, 17, 1, 0, 0)) rfl).trans (gst (Nat.le_of_ble_eq_true rfl) _)
set_option maxRecDepth 10000 in
theorem g_122_17 : GO x d 122 Q 17 [some (.inr (.inr w)), v1, v2] st I J = GO x d 122 Q 18 [some (.inr (.inr w)), v1, v2] (.inr (.inr w) :: st) I J := ge (A := (2, 18, 0, 0, 0)) rfl
set_option maxRecDepth 10000 in
theorem g_122_18 : GO x d 122 Q 18 [v0, some (.inl a), v2] st I J = GO x d 122 Q 19 [v0, some (.inl a), v2] (.inl a :: st) I J := ge (A := (1, 19, 1, 0, 0)) rfl
set_option maxRecDepth 10000 in
theorem g_122_19 : GO x d 122 Q 19 [v0, v1, v2] (.inl a :: st) I J = (inR a ∧ if a < 0 then GO x d 122 Q 22 [v0, v1, v2] st I J else GO x d 122 Q 26 [v0, v1, v2] st I J) := (ge (A := (33, 22, 26, 3, 0)) rfl).trans (gge)
set_option maxRecDepth 10000 in
theorem g_122_22 : GO x d 122 Q 22 [v0, v1, v2] st I J = GO x d 122 Q 23 [v0, v1, v2] (.inl (0) :: st) I J := ge (A := (0, 23, 0, 0, 0)) rfl
set_option maxRecDepth 10000 in
theorem g_122_23 : GO x d 122 Q 23 [v0, v1, v2] st I J = GO x d 122 Q 73 [v0, v1, v2] st I J := ge (A := (35, 26, 73, 0, 0)) rfl
set_option maxRecDepth 10000 in
theorem g_122_26 : GO x d 122 Q 26 [v0, some (.inl a), v2] st I J = GO x d 122 Q 27 [v0, some (.inl a), v2] (.inl a :: st) I J := ge (A := (1, 27, 1, 0, 0)) rfl
set_option maxRecDepth 10000 in
theorem g_122_27 : GO x d 122 Q 27 [v0, v1, v2] st I J = GO x d 122 Q 29 [v0, v1, v2] (.inl (97) :: st) I J := ge (A := (0, 29, 0, 0, 97)) rfl
set_option maxRecDepth 10000 in
theorem g_122_29 : GO x d 122 Q 29 [v0, v1, v2] st I J = GO x d 122 Q 31 [v0, v1, v2] (.inl (122) :: st) I J := ge (A := (0, 31, 0, 0, 122)) rfl
set_option maxRecDepth 10000 in
theorem g_122_31 : GO x d 122 Q 31 [v0, v1, v2] [.inl i0, .inl i1, .inl i2, .inr (.inr w0)] I J = EX x d 109 [.inl i2, .inl i1, .inl i0] I J (fun r1 I1 J1 => GO x d 122 Q 34 [v0, v1, v2] (r1.toList ++ [.inr (.inr w0)]) I1 J1) := (ge (A := (52, 34, 109, 3, 0)) rfl).trans (gtrue2 (Nat.le_of_ble_eq_true rfl) (Nat.le_of_ble_eq_true rfl))
set_option maxRecDepth 10000 in
theorem g_122_34 : GO x d 122 Q 34 [v0, v1, v2] (.inl a :: st) I J = (inR a ∧ if a = 0 then GO x d 122 Q 41 [v0, v1, v2] st I J else GO x d 122 Q 37 [v0, v1, v2] st I J) := (ge (A := (33, 37, 41, 0, 0)) rfl).trans (gif (p := a = 0) inferInstance)
set_option maxRecDepth 10000 in
theorem g_122_37 : GO x d 122 Q 37 [v0, v1, v2] st I J = GO x d 122 Q 38 [v0, v1, v2] (.inl (1) :: st) I J := ge (A := (0, 38, 0, 0, 1)) rfl
set_option maxRecDepth 10000 in
theorem g_122_38 : GO x d 122 Q 38 [v0, v1, v2] st I J = GO x d 122 Q 73 [v0, v1, v2] st I J := ge (A := (35, 41, 73, 0, 0)) rfl
set_option maxRecDepth 10000 in
theorem g_122_41 : GO x d 122 Q 41 [v0, some (.inl a), v2] st I J = GO x d 122 Q 42 [v0, some (.inl a), v2] (.inl a :: st) I J := ge (A := (1, 42, 1, 0, 0)) rfl
set_option maxRecDepth 10000 in
theorem g_122_42 : GO x d 122 Q 42 [v0, v1, v2] st I J = GO x d 122 Q 44 [v0, v1, v2] (.inl (48) :: st) I J := ge (A := (0, 44, 0, 0, 48)) rfl
set_option maxRecDepth 10000 in
theorem g_122_44 : GO x d 122 Q 44 [v0, v1, v2] st I J = GO x d 122 Q 46 [v0, v1, v2] (.inl (57) :: st) I J := ge (A := (0, 46, 0, 0, 57)) rfl
set_option maxRecDepth 10000 in
theorem g_122_46 : GO x d 122 Q 46 [v0, v1, v2] [.inl i0, .inl i1, .inl i2, .inr (.inr w0)] I J = EX x d 109 [.inl i2, .inl i1, .inl i0] I J (fun r1 I1 J1 => GO x d 122 Q 49 [v0, v1, v2] (r1.toList ++ [.inr (.inr w0)]) I1 J1) := (ge (A := (52, 49, 109, 3, 0)) rfl).trans (gtrue2 (Nat.le_of_ble_eq_true rfl) (Nat.le_of_ble_eq_true rfl))
set_option maxRecDepth 10000 in
theorem g_122_49 : GO x d 122 Q 49 [v0, v1, v2] (.inl a :: st) I J = (inR a ∧ if a = 0 then GO x d 122 Q 56 [v0, v1, v2] st I J else GO x d 122 Q 52 [v0, v1, v2] st I J) := (ge (A := (33, 52, 56, 0, 0)) rfl).trans (gif (p := a = 0) inferInstance)
set_option maxRecDepth 10000 in
theorem g_122_52 : GO x d 122 Q 52 [v0, v1, v2] st I J = GO x d 122 Q 53 [v0, v1, v2] (.inl (2) :: st) I J := ge (A := (0, 53, 0, 0, 2)) rfl
set_option maxRecDepth 10000 in
theorem g_122_53 : GO x d 122 Q 53 [v0, v1, v2] st I J = GO x d 122 Q 73 [v0, v1, v2] st I J := ge (A := (35, 56, 73, 0, 0)) rfl
set_option maxRecDepth 10000 in
theorem g_122_56 : GO x d 122 Q 56 [v0, some (.inl a), v2] st I J = GO x d 122 Q 57 [v0, some (.inl a), v2] (.inl a :: st) I J := ge (A := (1, 57, 1, 0, 0)) rfl
set_option maxRecDepth 10000 in
theorem g_122_57 : GO x d 122 Q 57 [v0, v1, v2] st I J = GO x d 122 Q 59 [v0, v1, v2] (.inl (44) :: st) I J := ge (A := (0, 59, 0, 0, 44)) rfl
set_option maxRecDepth 10000 in
theorem g_122_59 : GO x d 122 Q 59 [v0, v1, v2] (.inl b :: .inl a :: st) I J = (inR a ∧ inR b ∧ if a = b then GO x d 122 Q 68 [v0, v1, v2] st I J else GO x d 122 Q 62 [v0, v1, v2] st I J) := (ge (A := (34, 62, 68, 0, 0)) rfl).trans (gic (p := a = b) inferInstance)
set_option maxRecDepth 10000 in
theorem g_122_62 : GO x d 122 Q 62 [v0, some (.inl a), v2] st I J = GO x d 122 Q 63 [v0, some (.inl a), v2] (.inl a :: st) I J := ge (A := (1, 63, 1, 0, 0)) rfl
set_option maxRecDepth 10000 in
theorem g_122_63 : GO x d 122 Q 63 [v0, v1, v2] st I J = GO x d 122 Q 65 [v0, v1, v2] (.inl (59) :: st) I J := ge (A := (0, 65, 0, 0, 59)) rfl
set_option maxRecDepth 10000 in
theorem g_122_65 : GO x d 122 Q 65 [v0, v1, v2] (.inl b :: .inl a :: st) I J = (inR a ∧ inR b ∧ if a = b then GO x d 122 Q 68 [v0, v1, v2] st I J else GO x d 122 Q 72 [v0, v1, v2] st I J) := (ge (A := (34, 68, 72, 1, 0)) rfl).trans (gicn (p := a = b) inferInstance)
set_option maxRecDepth 10000 in
theorem g_122_68 : GO x d 122 Q 68 [v0, v1, v2] st I J = GO x d 122 Q 69 [v0, v1, v2] (.inl (3) :: st) I J := ge (A := (0, 69, 0, 0, 3)) rfl
set_option maxRecDepth 10000 in
theorem g_122_69 : GO x d 122 Q 69 [v0, v1, v2] st I J = GO x d 122 Q 73 [v0, v1, v2] st I J := ge (A := (35, 72, 73, 0, 0)) rfl
set_option maxRecDepth 10000 in
theorem g_122_72 : GO x d 122 Q 72 [v0, v1, v2] st I J = GO x d 122 Q 73 [v0, v1, v2] (.inl (4) :: st) I J := ge (A := (0, 73, 0, 0, 4)) rfl
set_option maxRecDepth 10000 in
theorem g_122_73 : GO x d 122 Q 73 [v0, v1, v2] (.inl a :: .inr (.inr (.inl r)) :: st) I J = (okO r 10 ∧ GO x d 122 Q 76 [v0, v1, v2] st (up I r 16 a) J) := ge (A := (40, 76, 10, 16, 0)) rfl
set_option maxRecDepth 10000 in
theorem g_122_76 : GO x d 122 Q 76 [some (.inr (.inr w)), v1, v2] st I J = GO x d 122 Q 77 [some (.inr (.inr w)), v1, v2] (.inr (.inr w) :: st) I J := ge (A := (2, 77, 0, 0, 0)) rfl
set_option maxRecDepth 10000 in
theorem g_122_77 : GO x d 122 Q 77 [v0, some (.inl a), v2] st I J = GO x d 122 Q 78 [v0, some (.inl a), v2] (.inl a :: st) I J := ge (A := (1, 78, 1, 0, 0)) rfl
set_option maxRecDepth 10000 in
theorem g_122_78 : GO x d 122 Q 78 [v0, v1, v2] (.inl a :: .inr (.inr (.inl r)) :: st) I J = (okO r 10 ∧ GO x d 122 Q 81 [v0, v1, v2] st (up I r 18 a) J) := ge (A := (40, 81, 10, 18, 0)) rfl
set_option maxRecDepth 10000 in
theorem g_122_81 : GO x d 122 Q 81 [some (.inr (.inr w)), v1, v2] st I J = GO x d 122 Q 82 [some (.inr (.inr w)), v1, v2] (.inr (.inr w) :: st) I J := ge (A := (2, 82, 0, 0, 0)) rfl
set_option maxRecDepth 10000 in
theorem g_122_82 : GO x d 122 Q 82 [v0, v1, v2] (.inr (.inr w) :: st) I J = GO x d 122 Q 83 [v0, v1, v2] (.inr (.inr w) :: .inr (.inr w) :: st) I J := ge (A := (31, 83, 0, 0, 0)) rfl
set_option maxRecDepth 10000 in
theorem g_122_83 : GO x d 122 Q 83 [v0, v1, v2] (.inr (.inr (.inl r)) :: st) I J = (okO r 10 ∧ GO x d 122 Q 86 [v0, v1, v2] (.inl (I r 15) :: st) I J) := ge (A := (37, 86, 10, 15, 0)) rfl
set_option maxRecDepth 10000 in
theorem g_122_86 : GO x d 122 Q 86 [some (.inr (.inr w)), v1, v2] st I J = GO x d 122 Q 87 [some (.inr (.inr w)), v1, v2] (.inr (.inr w) :: st) I J := ge (A := (2, 87, 0, 0, 0)) rfl
set_option maxRecDepth 10000 in
theorem g_122_87 : GO x d 122 Q 87 [v0, v1, v2] (.inr (.inr (.inl r)) :: st) I J = (okO r 10 ∧ GO x d 122 Q 90 [v0, v1, v2] (.inl (I r 16) :: st) I J) := ge (A := (37, 90, 10, 16, 0)) rfl
set_option maxRecDepth 10000 in
theorem g_122_90 : GO x d 122 Q 90 [v0, v1, v2] (.inl a :: st) I J = (inR a ∧ if a = 0 then GO x d 122 Q 93 [v0, v1, v2] st I J else GO x d 122 Q 97 [v0, v1, v2] st I J) := (ge (A := (33, 93, 97, 1, 0)) rfl).trans (gifn (p := a = 0) inferInstance)
set_option maxRecDepth 10000 in
theorem g_122_93 : GO x d 122 Q 93 [v0, v1, v2] st I J = GO x d 122 Q 94 [v0, v1, v2] (.inl (0) :: st) I J := ge (A := (0, 94, 0, 0, 0)) rfl
set_option maxRecDepth 10000 in
theorem g_122_94 : GO x d 122 Q 94 [v0, v1, v2] st I J = GO x d 122 Q 98 [v0, v1, v2] st I J := ge (A := (35, 97, 98, 0, 0)) rfl
set_option maxRecDepth 10000 in
theorem g_122_97 : GO x d 122 Q 97 [v0, v1, v2] st I J = GO x d 122 Q 98 [v0, v1, v2] (.inl (1) :: st) I J := ge (A := (0, 98, 0, 0, 1)) rfl
set_option maxRecDepth 10000 in
theorem g_122_98 : GO x d 122 Q 98 [v0, v1, v2] (.inl b :: .inl a :: st) I J = GO x d 122 Q 99 [v0, v1, v2] (.inl (a + b) :: st) I J := ge (A := (8, 99, 0, 0, 0)) rfl
set_option maxRecDepth 10000 in
theorem g_122_99 : GO x d 122 Q 99 [v0, v1, v2] (.inl a :: .inr (.inr (.inl r)) :: st) I J = (okO r 10 ∧ GO x d 122 Q 102 [v0, v1, v2] st (up I r 15 a) J) := ge (A := (40, 102, 10, 15, 0)) rfl
set_option maxRecDepth 10000 in
theorem g_122_102 : GO x d 122 Q 102 [some (.inr (.inr w)), v1, v2] st I J = GO x d 122 Q 103 [some (.inr (.inr w)), v1, v2] (.inr (.inr w) :: st) I J := ge (A := (2, 103, 0, 0, 0)) rfl
set_option maxRecDepth 10000 in
theorem g_122_103 : GO x d 122 Q 103 [v0, v1, v2] (.inr (.inr (.inl r)) :: st) I J = (okO r 10 ∧ GO x d 122 Q 106 [v0, v1, v2] (.inl (I r 16) :: st) I J) := ge (A := (37, 106, 10, 16, 0)) rfl
set_option maxRecDepth 10000 in
theorem g_122_106 : GO x d 122 Q 106 [v0, v1, v2] st I J = GO x d 122 Q 107 [v0, v1, v2] (.inl (2) :: st) I J := ge (A := (0, 107, 0, 0, 2)) rfl
set_option maxRecDepth 10000 in
theorem g_122_107 : GO x d 122 Q 107 [v0, v1, v2] (.inl b :: .inl a :: st) I J = (inR a ∧ inR b ∧ if a = b then GO x d 122 Q 110 [v0, v1, v2] st I J else GO x d 122 Q 204 [v0, v1, v2] st I J) := (ge (A := (34, 110, 204, 1, 0)) rfl).trans (gicn (p := a = b) inferInstance)
set_option maxRecDepth 10000 in
theorem g_122_110 : GO x d 122 Q 110 [some (.inr (.inr w)), v1, v2] st I J = GO x d 122 Q 111 [some (.inr (.inr w)), v1, v2] (.inr (.inr w) :: st) I J := ge (A := (2, 111, 0, 0, 0)) rfl
set_option maxRecDepth 10000 in
theorem g_122_111 : GO x d 122 Q 111 [v0, some (.inl a), v2] st I J = GO x d 122 Q 112 [v0, some (.inl a), v2] (.inl a :: st) I J := ge (A := (1, 112, 1, 0, 0)) rfl
set_option maxRecDepth 10000 in
theorem g_122_112 : GO x d 122 Q 112 [v0, v1, v2] st I J = GO x d 122 Q 114 [v0, v1, v2] (.inl (48) :: st) I J := ge (A := (0, 114, 0, 0, 48)) rfl
set_option maxRecDepth 10000 in
theorem g_122_114 : GO x d 122 Q 114 [v0, v1, v2] (.inl b :: .inl a :: st) I J = GO x d 122 Q 115 [v0, v1, v2] (.inl (a - b) :: st) I J := ge (A := (9, 115, 0, 0, 0)) rfl
set_option maxRecDepth 10000 in
theorem g_122_115 : GO x d 122 Q 115 [v0, v1, v2] (.inl a :: .inr (.inr (.inl r)) :: st) I J = (okO r 10 ∧ GO x d 122 Q 118 [v0, v1, v2] st (up I r 18 a) J) := ge (A := (40, 118, 10, 18, 0)) rfl
set_option maxRecDepth 10000 in
theorem g_122_118 : GO x d 122 Q 118 [v0, v1, v2] st I J = GO x d 122 Q 119 [v0, v1, v2] (.inl (1) :: st) I J := ge (A := (0, 119, 0, 0, 1)) rfl
set_option maxRecDepth 10000 in
theorem g_122_119 : GO x d 122 Q 119 [v0, v1, v2] (.inl a :: st) I J = (nlO (some v1) = true ∧ GO x d 122 Q 120 [v0, v1, some (.inl a)] st I J) := (ge (A := (4, 120, 2, 0, 0)) rfl).trans (gst (Nat.le_of_ble_eq_true rfl) _)
set_option maxRecDepth 10000 in
theorem g_122_120 : GO x d 122 Q 120 [some (.inr (.inr w)), v1, v2] st I J = GO x d 122 Q 121 [some (.inr (.inr w)), v1, v2] (.inr (.inr w) :: st) I J := ge (A := (2, 121, 0, 0, 0)) rfl
set_option maxRecDepth 10000 in
theorem g_122_121 : GO x d 122 Q 121 [some (.inr (.inr w)), v1, v2] st I J = GO x d 122 Q 122 [some (.inr (.inr w)), v1, v2] (.inr (.inr w) :: st) I J := ge (A := (2, 122, 0, 0, 0)) rfl
set_option maxRecDepth 10000 in
theorem g_122_122 : GO x d 122 Q 122 [v0, v1, v2] (.inr (.inr (.inl r)) :: st) I J = (okO r 10 ∧ GO x d 122 Q 125 [v0, v1, v2] (.inl (I r 15) :: st) I J) := ge (A := (37, 125, 10, 15, 0)) rfl
set_option maxRecDepth 10000 in
theorem g_122_125 : GO x d 122 Q 125 [v0, v1, v2] [.inl i0, .inr (.inr (.inl r))] I J = (okO r 10 ∧ EX x d 121 [.inr (.inr (.inl r)), .inl i0] I J (fun r1 I1 J1 => GO x d 122 Q 128 [v0, v1, v2] (r1.toList ++ []) I1 J1)) := (ge (A := (53, 128, 121, 1, 0)) rfl).trans (gtrue (Nat.le_of_ble_eq_true rfl))
set_option maxRecDepth 10000 in
theorem g_122_128 : GO x d 122 Q 128 [v0, v1, v2] st I J = GO x d 122 Q 130 [v0, v1, v2] (.inl (48) :: st) I J := ge (A := (0, 130, 0, 0, 48)) rfl
set_option maxRecDepth 10000 in
theorem g_122_130 : GO x d 122 Q 130 [v0, v1, v2] st I J = GO x d 122 Q 132 [v0, v1, v2] (.inl (57) :: st) I J := ge (A := (0, 132, 0, 0, 57)) rfl
set_option maxRecDepth 10000 in
theorem g_122_132 : GO x d 122 Q 132 [v0, v1, v2] [.inl i0, .inl i1, .inl i2] I J = EX x d 109 [.inl i2, .inl i1, .inl i0] I J (fun r1 I1 J1 => GO x d 122 Q 135 [v0, v1, v2] (r1.toList ++ []) I1 J1) := (ge (A := (52, 135, 109, 3, 0)) rfl).trans (gtrue2 (Nat.le_of_ble_eq_true rfl) (Nat.le_of_ble_eq_true rfl))
set_option maxRecDepth 10000 in
theorem g_122_135 : GO x d 122 Q 135 [v0, v1, v2] (.inl a :: st) I J = (inR a ∧ if a = 0 then GO x d 122 Q 190 [v0, v1, v2] st I J else GO x d 122 Q 138 [v0, v1, v2] st I J) := (ge (A := (33, 138, 190, 0, 0)) rfl).trans (gif (p := a = 0) inferInstance)
set_option maxRecDepth 10000 in
theorem g_122_138 : GO x d 122 Q 138 [some (.inr (.inr w)), v1, v2] st I J = GO x d 122 Q 139 [some (.inr (.inr w)), v1, v2] (.inr (.inr w) :: st) I J := ge (A := (2, 139, 0, 0, 0)) rfl
set_option maxRecDepth 10000 in
theorem g_122_139 : GO x d 122 Q 139 [v0, v1, some (.inl a)] st I J = GO x d 122 Q 140 [v0, v1, some (.inl a)] (.inl a :: st) I J := ge (A := (1, 140, 2, 0, 0)) rfl
set_option maxRecDepth 10000 in
theorem g_122_140 : GO x d 122 Q 140 [v0, v1, v2] st I J = GO x d 122 Q 141 [v0, v1, v2] (.inl (3) :: st) I J := ge (A := (0, 141, 0, 0, 3)) rfl
set_option maxRecDepth 10000 in
theorem g_122_141 : GO x d 122 Q 141 [v0, v1, v2] (.inl b :: .inl a :: st) I J = (inR a ∧ inR b ∧ if a < b then GO x d 122 Q 144 [v0, v1, v2] st I J else GO x d 122 Q 167 [v0, v1, v2] st I J) := (ge (A := (34, 144, 167, 3, 0)) rfl).trans (ggec)
set_option maxRecDepth 10000 in
theorem g_122_144 : GO x d 122 Q 144 [v0, v1, v2] st I J = GO x d 122 Q 146 [v0, v1, v2] (.inl (10) :: st) I J := ge (A := (0, 146, 0, 0, 10)) rfl
set_option maxRecDepth 10000 in
theorem g_122_146 : GO x d 122 Q 146 [some (.inr (.inr w)), v1, v2] st I J = GO x d 122 Q 147 [some (.inr (.inr w)), v1, v2] (.inr (.inr w) :: st) I J := ge (A := (2, 147, 0, 0, 0)) rfl
set_option maxRecDepth 10000 in
theorem g_122_147 : GO x d 122 Q 147 [v0, v1, v2] (.inr (.inr (.inl r)) :: st) I J = (okO r 10 ∧ GO x d 122 Q 150 [v0, v1, v2] (.inl (I r 18) :: st) I J) := ge (A := (37, 150, 10, 18, 0)) rfl
set_option maxRecDepth 10000 in
theorem g_122_150 : GO x d 122 Q 150 [v0, v1, v2] (.inl b :: .inl a :: st) I J = GO x d 122 Q 151 [v0, v1, v2] (.inl (a * b) :: st) I J := ge (A := (10, 151, 0, 0, 0)) rfl
set_option maxRecDepth 10000 in
theorem g_122_151 : GO x d 122 Q 151 [some (.inr (.inr w)), v1, v2] st I J = GO x d 122 Q 152 [some (.inr (.inr w)), v1, v2] (.inr (.inr w) :: st) I J := ge (A := (2, 152, 0, 0, 0)) rfl
set_option maxRecDepth 10000 in
theorem g_122_152 : GO x d 122 Q 152 [v0, v1, v2] (.inr (.inr (.inl r)) :: st) I J = (okF r 10 0 ∧ GO x d 122 Q 155 [v0, v1, v2] (.inr (.inr (.inl (rfN r 0))) :: st) I J) := (ge (A := (39, 155, 10, 0, 0)) rfl).trans (gref (f := fun q => GO x d 122 Q 155 [v0, v1, v2] (.inr (.inr (.inl q)) :: st) I J))
set_option maxRecDepth 10000 in
theorem g_122_155 : GO x d 122 Q 155 [some (.inr (.inr w)), v1, v2] st I J = GO x d 122 Q 156 [some (.inr (.inr w)), v1, v2] (.inr (.inr w) :: st) I J := ge (A := (2, 156, 0, 0, 0)) rfl
set_option maxRecDepth 10000 in
theorem g_122_156 : GO x d 122 Q 156 [v0, v1, v2] (.inr (.inr (.inl r)) :: st) I J = (okO r 10 ∧ GO x d 122 Q 159 [v0, v1, v2] (.inl (I r 15) :: st) I J) := ge (A := (37, 159, 10, 15, 0)) rfl
set_option maxRecDepth 10000 in
theorem h_122_159 : GO x d 122 Q 159 [v0, v1, v2] (.inl a :: .inr (.inr (.inr q)) :: st) I J = (q < 4 ∧ 0 ≤ a ∧ a < (roA x q).1 ∧ GO x d 122 Q 160 [v0, v1, v2] (.inl ((roA x q).2 a.toNat) :: st) I J) := ge (A := (44, 160, 0, 0, 0)) rfl
set_option maxRecDepth 10000 in
theorem g_122_159 : GO x d 122 Q 159 [v0, v1, v2] (.inl a :: .inr (.inr (.inl r)) :: st) I J = (okA r 20 ∧ 0 ≤ a ∧ a < lnN r ∧ GO x d 122 Q 160 [v0, v1, v2] (.inl (I r a) :: st) I J) := ge (A := (44, 160, 0, 0, 0)) rfl
set_option maxRecDepth 10000 in
theorem g_122_160 : GO x d 122 Q 160 [v0, v1, v2] (.inl b :: .inl a :: st) I J = GO x d 122 Q 161 [v0, v1, v2] (.inl (a + b) :: st) I J := ge (A := (8, 161, 0, 0, 0)) rfl
set_option maxRecDepth 10000 in
theorem g_122_161 : GO x d 122 Q 161 [v0, v1, v2] st I J = GO x d 122 Q 163 [v0, v1, v2] (.inl (48) :: st) I J := ge (A := (0, 163, 0, 0, 48)) rfl
set_option maxRecDepth 10000 in
theorem g_122_163 : GO x d 122 Q 163 [v0, v1, v2] (.inl b :: .inl a :: st) I J = GO x d 122 Q 164 [v0, v1, v2] (.inl (a - b) :: st) I J := ge (A := (9, 164, 0, 0, 0)) rfl
set_option maxRecDepth 10000 in
theorem g_122_164 : GO x d 122 Q 164 [v0, v1, v2] st I J = GO x d 122 Q 171 [v0, v1, v2] st I J := ge (A := (35, 167, 171, 0, 0)) rfl
set_option maxRecDepth 10000 in
theorem g_122_167 : GO x d 122 Q 167 [some (.inr (.inr w)), v1, v2] st I J = GO x d 122 Q 168 [some (.inr (.inr w)), v1, v2] (.inr (.inr w) :: st) I J := ge (A := (2, 168, 0, 0, 0)) rfl
set_option maxRecDepth 10000 in
theorem g_122_168 : GO x d 122 Q 168 [v0, v1, v2] (.inr (.inr (.inl r)) :: st) I J = (okO r 10 ∧ GO x d 122 Q 171 [v0, v1, v2] (.inl (I r 18) :: st) I J) := ge (A := (37, 171, 10, 18, 0)) rfl
set_option maxRecDepth 10000 in
theorem g_122_171 : GO x d 122 Q 171 [v0, v1, v2] (.inl a :: .inr (.inr (.inl r)) :: st) I J = (okO r 10 ∧ GO x d 122 Q 174 [v0, v1, v2] st (up I r 18 a) J) := ge (A := (40, 174, 10, 18, 0)) rfl
set_option maxRecDepth 10000 in
theorem g_122_174 : GO x d 122 Q 174 [v0, v1, some (.inl a)] st I J = (nlO (some v1) = true ∧ GO x d 122 Q 177 [v0, v1, some (.inl (a + (1)))] st I J) := ge (A := (7, 177, 2, 0, 1)) rfl
set_option maxRecDepth 10000 in
theorem g_122_177 : GO x d 122 Q 177 [some (.inr (.inr w)), v1, v2] st I J = GO x d 122 Q 178 [some (.inr (.inr w)), v1, v2] (.inr (.inr w) :: st) I J := ge (A := (2, 178, 0, 0, 0)) rfl
set_option maxRecDepth 10000 in
theorem g_122_178 : GO x d 122 Q 178 [v0, v1, v2] (.inr (.inr w) :: st) I J = GO x d 122 Q 179 [v0, v1, v2] (.inr (.inr w) :: .inr (.inr w) :: st) I J := ge (A := (31, 179, 0, 0, 0)) rfl
set_option maxRecDepth 10000 in
theorem g_122_179 : GO x d 122 Q 179 [v0, v1, v2] (.inr (.inr (.inl r)) :: st) I J = (okO r 10 ∧ GO x d 122 Q 182 [v0, v1, v2] (.inl (I r 15) :: st) I J) := ge (A := (37, 182, 10, 15, 0)) rfl
set_option maxRecDepth 10000 in
theorem g_122_182 : GO x d 122 Q 182 [v0, v1, v2] st I J = GO x d 122 Q 183 [v0, v1, v2] (.inl (1) :: st) I J := ge (A := (0, 183, 0, 0, 1)) rfl
set_option maxRecDepth 10000 in
theorem g_122_183 : GO x d 122 Q 183 [v0, v1, v2] (.inl b :: .inl a :: st) I J = GO x d 122 Q 184 [v0, v1, v2] (.inl (a + b) :: st) I J := ge (A := (8, 184, 0, 0, 0)) rfl
set_option maxRecDepth 10000 in
theorem g_122_184 : GO x d 122 Q 184 [v0, v1, v2] (.inl a :: .inr (.inr (.inl r)) :: st) I J = (okO r 10 ∧ GO x d 122 Q 187 [v0, v1, v2] st (up I r 15 a) J) := ge (A := (40, 187, 10, 15, 0)) rfl
set_option maxRecDepth 10000 in
theorem g_122_187 : GO x d 122 Q 187 [v0, v1, v2] st I J = GO x d 122 Q 120 [v0, v1, v2] st I J := ge (A := (35, 190, 120, 0, 0)) rfl
set_option maxRecDepth 10000 in
theorem g_122_190 : GO x d 122 Q 190 [some (.inr (.inr w)), v1, v2] st I J = GO x d 122 Q 191 [some (.inr (.inr w)), v1, v2] (.inr (.inr w) :: st) I J := ge (A := (2, 191, 0, 0, 0)) rfl
set_option maxRecDepth 10000 in
theorem g_122_191 : GO x d 122 Q 191 [v0, v1, some (.inl a)] st I J = GO x d 122 Q 192 [v0, v1, some (.inl a)] (.inl a :: st) I J := ge (A := (1, 192, 2, 0, 0)) rfl
set_option maxRecDepth 10000 in
theorem g_122_192 : GO x d 122 Q 192 [v0, v1, v2] st I J = GO x d 122 Q 193 [v0, v1, v2] (.inl (3) :: st) I J := ge (A := (0, 193, 0, 0, 3)) rfl
set_option maxRecDepth 10000 in
theorem g_122_193 : GO x d 122 Q 193 [v0, v1, v2] (.inl b :: .inl a :: st) I J = (inR a ∧ inR b ∧ if b < a then GO x d 122 Q 196 [v0, v1, v2] st I J else GO x d 122 Q 200 [v0, v1, v2] st I J) := (ge (A := (34, 196, 200, 5, 0)) rfl).trans (ggec)
set_option maxRecDepth 10000 in
theorem g_122_196 : GO x d 122 Q 196 [v0, v1, v2] st I J = GO x d 122 Q 197 [v0, v1, v2] (.inl (4) :: st) I J := ge (A := (0, 197, 0, 0, 4)) rfl
set_option maxRecDepth 10000 in
theorem g_122_197 : GO x d 122 Q 197 [v0, v1, v2] st I J = GO x d 122 Q 201 [v0, v1, v2] st I J := ge (A := (35, 200, 201, 0, 0)) rfl
set_option maxRecDepth 10000 in
theorem g_122_200 : GO x d 122 Q 200 [v0, v1, v2] st I J = GO x d 122 Q 201 [v0, v1, v2] (.inl (2) :: st) I J := ge (A := (0, 201, 0, 0, 2)) rfl
set_option maxRecDepth 10000 in
theorem g_122_201 : GO x d 122 Q 201 [v0, v1, v2] (.inl a :: .inr (.inr (.inl r)) :: st) I J = (okO r 10 ∧ GO x d 122 Q 204 [v0, v1, v2] st (up I r 16 a) J) := ge (A := (40, 204, 10, 16, 0)) rfl
set_option maxRecDepth 10000 in
theorem g_122_204 : GO x d 122 Q 204 [v0, v1, v2] [] I J = Q none I J := ge (A := (57, 205, 0, 0, 0)) rfl
set_option maxRecDepth 10000 in
theorem e_122 : EX x (d + 1) 122 [.inr (.inr w0)] I J Q = GO x d 122 Q 0 [some (.inr (.inr w0)), none, none] [] I J := ex_eq (Nat.le_of_ble_eq_true rfl) rfl (Nat.le_of_ble_eq_true rfl) rfl
set_option maxRecDepth 10000 in
theorem g_123_0 : GO x d 123 Q 0 [some (.inr (.inr w)), v1] st I J = GO x d 123 Q 1 [some (.inr (.inr w)), v1] (.inr (.inr w) :: st) I J := ge (A := (2, 1, 0, 0, 0)) rfl
set_option maxRecDepth 10000 in
theorem g_123_1 : GO x d 123 Q 1 [v0, some (.inl a)] st I J = GO x d 123 Q 2 [v0, some (.inl a)] (.inl a :: st) I J := ge (A := (1, 2, 1, 0, 0)) rfl
set_option maxRecDepth 10000 in
theorem g_123_2 : GO x d 123 Q 2 [v0, v1] (.inl a :: .inr (.inr (.inl r)) :: st) I J = (okO r 10 ∧ GO x d 123 Q 5 [v0, v1] st (up I r 19 a) J) := ge (A := (40, 5, 10, 19, 0)) rfl
set_option maxRecDepth 10000 in
theorem g_123_5 : GO x d 123 Q 5 [v0, v1] st I J = GO x d 123 Q 6 [v0, v1] (.inl (0) :: st) I J := ge (A := (0, 6, 0, 0, 0)) rfl
set_option maxRecDepth 10000 in
theorem g_123_6 : GO x d 123 Q 6 [v0, v1] [.inl a] I J = (ret01 a ∧ Q (some (.inl a)) I J) := ge (A := (56, 7, 0, 0, 0)) rfl
set_option maxRecDepth 10000 in
theorem e_123 : EX x (d + 1) 123 [.inr (.inr w0), .inl i0] I J Q = GO x d 123 Q 0 [some (.inr (.inr w0)), some (.inl i0)] [] I J := ex_eq (Nat.le_of_ble_eq_true rfl) rfl (Nat.le_of_ble_eq_true rfl) rfl
set_option maxRecDepth 10000 in
theorem g_124_0 : GO x d 124 Q 0 [some (.inr (.inr w)), v1, v2, v3] st I J = GO x d 124 Q 1 [some (.inr (.inr w)), v1, v2, v3] (.inr (.inr w) :: st) I J := ge (A := (2, 1, 0, 0, 0)) rfl
set_option maxRecDepth 10000 in
theorem g_124_1 : GO x d 124 Q 1 [v0, v1, v2, v3] [.inr (.inr (.inl r))] I J = (okO r 10 ∧ EX x d 122 [.inr (.inr (.inl r))] I J (fun r1 I1 J1 => GO x d 124 Q 4 [v0, v1, v2, v3] (r1.toList ++ []) I1 J1)) := (ge (A := (53, 4, 122, 0, 0)) rfl).trans (gtrue (Nat.le_of_ble_eq_true rfl))
set_option maxRecDepth 10000 in
theorem g_124_4 : GO x d 124 Q 4 [some (.inr (.inr w)), v1, v2, v3] st I J = GO x d 124 Q 5 [some (.inr (.inr w)), v1, v2, v3] (.inr (.inr w) :: st) I J := ge (A := (2, 5, 0, 0, 0)) rfl
set_option maxRecDepth 10000 in
theorem g_124_5 : GO x d 124 Q 5 [v0, v1, v2, v3] (.inr (.inr (.inl r)) :: st) I J = (okO r 10 ∧ GO x d 124 Q 8 [v0, v1, v2, v3] (.inl (I r 16) :: st) I J) := ge (A := (37, 8, 10, 16, 0)) rfl
set_option maxRecDepth 10000 in
theorem g_124_8 : GO x d 124 Q 8 [v0, v1, v2, v3] st I J = GO x d 124 Q 9 [v0, v1, v2, v3] (.inl (2) :: st) I J := ge (A := (0, 9, 0, 0, 2)) rfl
set_option maxRecDepth 10000 in
theorem g_124_9 : GO x d 124 Q 9 [v0, v1, v2, v3] (.inl b :: .inl a :: st) I J = (inR a ∧ inR b ∧ if a = b then GO x d 124 Q 18 [v0, v1, v2, v3] st I J else GO x d 124 Q 12 [v0, v1, v2, v3] st I J) := (ge (A := (34, 12, 18, 0, 0)) rfl).trans (gic (p := a = b) inferInstance)
set_option maxRecDepth 10000 in
theorem g_124_12 : GO x d 124 Q 12 [some (.inr (.inr w)), v1, v2, v3] st I J = GO x d 124 Q 13 [some (.inr (.inr w)), v1, v2, v3] (.inr (.inr w) :: st) I J := ge (A := (2, 13, 0, 0, 0)) rfl
set_option maxRecDepth 10000 in
theorem g_124_13 : GO x d 124 Q 13 [v0, v1, v2, v3] st I J = GO x d 124 Q 14 [v0, v1, v2, v3] (.inl (1) :: st) I J := ge (A := (0, 14, 0, 0, 1)) rfl
set_option maxRecDepth 10000 in
theorem g_124_14 : GO x d 124 Q 14 [v0, v1, v2, v3] [.inl i0, .inr (.inr (.inl r))] I J = (okO r 10 ∧ EX x d 123 [.inr (.inr (.inl r)), .inl i0] I J (fun r1 I1 J1 => GO x d 124 Q 17 [v0, v1, v2, v3] (r1.toList ++ []) I1 J1)) := (ge (A := (53, 17, 123, 1, 0)) rfl).trans (gtrue (Nat.le_of_ble_eq_true rfl))
set_option maxRecDepth 10000 in
theorem g_124_17 : GO x d 124 Q 17 [v0, v1, v2, v3] [.inl a] I J = (ret01 a ∧ Q (some (.inl a)) I J) := ge (A := (56, 18, 0, 0, 0)) rfl
set_option maxRecDepth 10000 in
theorem g_124_18 : GO x d 124 Q 18 [some (.inr (.inr w)), v1, v2, v3] st I J = GO x d 124 Q 19 [some (.inr (.inr w)), v1, v2, v3] (.inr (.inr w) :: st) I J := ge (A := (2, 19, 0, 0, 0)) rfl
set_option maxRecDepth 10000 in
theorem g_124_19 : GO x d 124 Q 19 [v0, v1, v2, v3] (.inr (.inr (.inl r)) :: st) I J = (okF r 10 3 ∧ GO x d 124 Q 22 [v0, v1, v2, v3] (.inr (.inr (.inl (rfN r 3))) :: st) I J) := (ge (A := (39, 22, 10, 3, 0)) rfl).trans (gref (f := fun q => GO x d 124 Q 22 [v0, v1, v2, v3] (.inr (.inr (.inl q)) :: st) I J))
set_option maxRecDepth 10000 in
theorem g_124_22 : GO x d 124 Q 22 [v0, some (.inl a), v2, v3] st I J = GO x d 124 Q 23 [v0, some (.inl a), v2, v3] (.inl a :: st) I J := ge (A := (1, 23, 1, 0, 0)) rfl
set_option maxRecDepth 10000 in
theorem g_124_23 : GO x d 124 Q 23 [some (.inr (.inr w)), v1, v2, v3] st I J = GO x d 124 Q 24 [some (.inr (.inr w)), v1, v2, v3] (.inr (.inr w) :: st) I J := ge (A := (2, 24, 0, 0, 0)) rfl
set_option maxRecDepth 10000 in
theorem g_124_24 : GO x d 124 Q 24 [v0, v1, v2, v3] (.inr (.inr (.inl r)) :: st) I J = (okO r 10 ∧ GO x d 124 Q 27 [v0, v1, v2, v3] (.inl (I r 18) :: st) I J) := ge (A := (37, 27, 10, 18, 0)) rfl
set_option maxRecDepth 10000 in
theorem g_124_27 : GO x d 124 Q 27 [v0, v1, v2, v3] (.inl b :: .inl a :: .inr (.inr (.inl r)) :: st) I J = (okA r 20 ∧ 0 ≤ a ∧ a < lnN r ∧ GO x d 124 Q 28 [v0, v1, v2, v3] st (up I r a b) J) := ge (A := (45, 28, 0, 0, 0)) rfl
set_option maxRecDepth 10000 in
theorem g_124_28 : GO x d 124 Q 28 [some (.inr (.inr w)), v1, v2, v3] st I J = GO x d 124 Q 29 [some (.inr (.inr w)), v1, v2, v3] (.inr (.inr w) :: st) I J := ge (A := (2, 29, 0, 0, 0)) rfl
set_option maxRecDepth 10000 in
theorem g_124_29 : GO x d 124 Q 29 [v0, v1, v2, v3] (.inr (.inr (.inl r)) :: st) I J = (okO r 10 ∧ GO x d 124 Q 32 [v0, v1, v2, v3] (.inl (I r 18) :: st) I J) := ge (A := (37, 32, 10, 18, 0)) rfl
set_option maxRecDepth 10000 in
theorem g_124_32 : GO x d 124 Q 32 [v0, v1, some (.inl a), v3] st I J = GO x d 124 Q 33 [v0, v1, some (.inl a), v3] (.inl a :: st) I J := ge (A := (1, 33, 2, 0, 0)) rfl
set_option maxRecDepth 10000 in
theorem g_124_33 : GO x d 124 Q 33 [v0, v1, v2, some (.inl a)] st I J = GO x d 124 Q 34 [v0, v1, v2, some (.inl a)] (.inl a :: st) I J := ge (A := (1, 34, 3, 0, 0)) rfl
set_option maxRecDepth 10000 in
theorem g_124_34 : GO x d 124 Q 34 [v0, v1, v2, v3] [.inl i0, .inl i1, .inl i2] I J = EX x d 109 [.inl i2, .inl i1, .inl i0] I J (fun r1 I1 J1 => GO x d 124 Q 37 [v0, v1, v2, v3] (r1.toList ++ []) I1 J1) := (ge (A := (52, 37, 109, 3, 0)) rfl).trans (gtrue2 (Nat.le_of_ble_eq_true rfl) (Nat.le_of_ble_eq_true rfl))
set_option maxRecDepth 10000 in
theorem g_124_37 : GO x d 124 Q 37 [v0, v1, v2, v3] (.inl a :: st) I J = (inR a ∧ if a = 0 then GO x d 124 Q 40 [v0, v1, v2, v3] st I J else GO x d 124 Q 48 [v0, v1, v2, v3] st I J) := (ge (A := (33, 40, 48, 1, 0)) rfl).trans (gifn (p := a = 0) inferInstance)
set_option maxRecDepth 10000 in
theorem g_124_40 : GO x d 124 Q 40 [some (.inr (.inr w)), v1, v2, v3] st I J = GO x d 124 Q 41 [some (.inr (.inr w)), v1, v2, v3] (.inr (.inr w) :: st) I J := ge (A := (2, 41, 0, 0, 0)) rfl
set_option maxRecDepth 10000 in
theorem g_124_41 : GO x d 124 Q 41 [v0, v1, v2, v3] st I J = GO x d 124 Q 42 [v0, v1, v2, v3] (.inl (2) :: st) I J := ge (A := (0, 42, 0, 0, 2)) rfl
set_option maxRecDepth 10000 in
theorem g_124_42 : GO x d 124 Q 42 [v0, v1, v2, v3] [.inl i0, .inr (.inr (.inl r))] I J = (okO r 10 ∧ EX x d 123 [.inr (.inr (.inl r)), .inl i0] I J (fun r1 I1 J1 => GO x d 124 Q 45 [v0, v1, v2, v3] (r1.toList ++ []) I1 J1)) := (ge (A := (53, 45, 123, 1, 0)) rfl).trans (gtrue (Nat.le_of_ble_eq_true rfl))
set_option maxRecDepth 10000 in
theorem g_124_45 : GO x d 124 Q 45 [v0, v1, v2, v3] (.inl a :: st) I J = (inR a ∧ if a = 0 then GO x d 124 Q 52 [v0, v1, v2, v3] st I J else GO x d 124 Q 48 [v0, v1, v2, v3] st I J) := (ge (A := (33, 48, 52, 0, 0)) rfl).trans (gif (p := a = 0) inferInstance)
set_option maxRecDepth 10000 in
theorem g_124_48 : GO x d 124 Q 48 [v0, v1, v2, v3] st I J = GO x d 124 Q 49 [v0, v1, v2, v3] (.inl (1) :: st) I J := ge (A := (0, 49, 0, 0, 1)) rfl
set_option maxRecDepth 10000 in
theorem g_124_49 : GO x d 124 Q 49 [v0, v1, v2, v3] st I J = GO x d 124 Q 53 [v0, v1, v2, v3] st I J := ge (A := (35, 52, 53, 0, 0)) rfl
set_option maxRecDepth 10000 in
theorem g_124_52 : GO x d 124 Q 52 [v0, v1, v2, v3] st I J = GO x d 124 Q 53 [v0, v1, v2, v3] (.inl (0) :: st) I J := ge (A := (0, 53, 0, 0, 0)) rfl
set_option maxRecDepth 10000 in
theorem g_124_53 : GO x d 124 Q 53 [v0, v1, v2, v3] [.inl a] I J = (ret01 a ∧ Q (some (.inl a)) I J) := ge (A := (56, 54, 0, 0, 0)) rfl
set_option maxRecDepth 10000 in
theorem e_124 : EX x (d + 1) 124 [.inr (.inr w0), .inl i0, .inl i1, .inl i2] I J Q = GO x d 124 Q 0 [some (.inr (.inr w0)), some (.inl i0), some (.inl i1), some (.inl i2)] [] I J := ex_eq (Nat.le_of_ble_eq_true rfl) rfl (Nat.le_of_ble_eq_true rfl) rfl
set_option maxRecDepth 10000 in
theorem g_125_0 : GO x d 125 Q 0 [some (.inr (.inr w)), v1] st I J = GO x d 125 Q 1 [some (.inr (.inr w)), v1] (.inr (.inr w) :: st) I J := ge (A := (2, 1, 0, 0, 0)) rfl
set_option maxRecDepth 10000 in
theorem g_125_1 : GO x d 125 Q 1 [v0, v1] [.inr (.inr (.inl r))] I J = (okO r 10 ∧ EX x d 122 [.inr (.inr (.inl r))] I J (fun r1 I1 J1 => GO x d 125 Q 4 [v0, v1] (r1.toList ++ []) I1 J1)) := (ge (A := (53, 4, 122, 0, 0)) rfl).trans (gtrue (Nat.le_of_ble_eq_true rfl))
set_option maxRecDepth 10000 in
theorem g_125_4 : GO x d 125 Q 4 [some (.inr (.inr w)), v1] st I J = GO x d 125 Q 5 [some (.inr (.inr w)), v1] (.inr (.inr w) :: st) I J := ge (A := (2, 5, 0, 0, 0)) rfl
set_option maxRecDepth 10000 in
theorem g_125_5 : GO x d 125 Q 5 [v0, v1] (.inr (.inr (.inl r)) :: st) I J = (okO r 10 ∧ GO x d 125 Q 8 [v0, v1] (.inl (I r 16) :: st) I J) := ge (A := (37, 8, 10, 16, 0)) rfl
set_option maxRecDepth 10000 in
theorem g_125_8 : GO x d 125 Q 8 [v0, v1] st I J = GO x d 125 Q 9 [v0, v1] (.inl (3) :: st) I J := ge (A := (0, 9, 0, 0, 3)) rfl
set_option maxRecDepth 10000 in
theorem g_125_9 : GO x d 125 Q 9 [v0, v1] (.inl b :: .inl a :: st) I J = (inR a ∧ inR b ∧ if a = b then GO x d 125 Q 12 [v0, v1] st I J else GO x d 125 Q 20 [v0, v1] st I J) := (ge (A := (34, 12, 20, 1, 0)) rfl).trans (gicn (p := a = b) inferInstance)
set_option maxRecDepth 10000 in
theorem g_125_12 : GO x d 125 Q 12 [some (.inr (.inr w)), v1] st I J = GO x d 125 Q 13 [some (.inr (.inr w)), v1] (.inr (.inr w) :: st) I J := ge (A := (2, 13, 0, 0, 0)) rfl
set_option maxRecDepth 10000 in
theorem g_125_13 : GO x d 125 Q 13 [v0, v1] (.inr (.inr (.inl r)) :: st) I J = (okO r 10 ∧ GO x d 125 Q 16 [v0, v1] (.inl (I r 18) :: st) I J) := ge (A := (37, 16, 10, 18, 0)) rfl
set_option maxRecDepth 10000 in
theorem g_125_16 : GO x d 125 Q 16 [v0, some (.inl a)] st I J = GO x d 125 Q 17 [v0, some (.inl a)] (.inl a :: st) I J := ge (A := (1, 17, 1, 0, 0)) rfl
set_option maxRecDepth 10000 in
theorem g_125_17 : GO x d 125 Q 17 [v0, v1] (.inl b :: .inl a :: st) I J = (inR a ∧ inR b ∧ if a = b then GO x d 125 Q 28 [v0, v1] st I J else GO x d 125 Q 20 [v0, v1] st I J) := (ge (A := (34, 20, 28, 0, 0)) rfl).trans (gic (p := a = b) inferInstance)
set_option maxRecDepth 10000 in
theorem g_125_20 : GO x d 125 Q 20 [some (.inr (.inr w)), v1] st I J = GO x d 125 Q 21 [some (.inr (.inr w)), v1] (.inr (.inr w) :: st) I J := ge (A := (2, 21, 0, 0, 0)) rfl
set_option maxRecDepth 10000 in
theorem g_125_21 : GO x d 125 Q 21 [v0, v1] st I J = GO x d 125 Q 22 [v0, v1] (.inl (1) :: st) I J := ge (A := (0, 22, 0, 0, 1)) rfl
set_option maxRecDepth 10000 in
theorem g_125_22 : GO x d 125 Q 22 [v0, v1] [.inl i0, .inr (.inr (.inl r))] I J = (okO r 10 ∧ EX x d 123 [.inr (.inr (.inl r)), .inl i0] I J (fun r1 I1 J1 => GO x d 125 Q 25 [v0, v1] (r1.toList ++ []) I1 J1)) := (ge (A := (53, 25, 123, 1, 0)) rfl).trans (gtrue (Nat.le_of_ble_eq_true rfl))
set_option maxRecDepth 10000 in
theorem g_125_25 : GO x d 125 Q 25 [v0, v1] (.inl a :: st) I J = (inR a ∧ if a = 0 then GO x d 125 Q 32 [v0, v1] st I J else GO x d 125 Q 28 [v0, v1] st I J) := (ge (A := (33, 28, 32, 0, 0)) rfl).trans (gif (p := a = 0) inferInstance)
set_option maxRecDepth 10000 in
theorem g_125_28 : GO x d 125 Q 28 [v0, v1] st I J = GO x d 125 Q 29 [v0, v1] (.inl (1) :: st) I J := ge (A := (0, 29, 0, 0, 1)) rfl
set_option maxRecDepth 10000 in
theorem g_125_29 : GO x d 125 Q 29 [v0, v1] st I J = GO x d 125 Q 33 [v0, v1] st I J := ge (A := (35, 32, 33, 0, 0)) rfl
set_option maxRecDepth 10000 in
theorem g_125_32 : GO x d 125 Q 32 [v0, v1] st I J = GO x d 125 Q 33 [v0, v1] (.inl (0) :: st) I J := ge (A := (0, 33, 0, 0, 0)) rfl
set_option maxRecDepth 10000 in
theorem g_125_33 : GO x d 125 Q 33 [v0, v1] [.inl a] I J = (ret01 a ∧ Q (some (.inl a)) I J) := ge (A := (56, 34, 0, 0, 0)) rfl
set_option maxRecDepth 10000 in
theorem e_125 : EX x (d + 1) 125 [.inr (.inr w0), .inl i0] I J Q = GO x d 125 Q 0 [some (.inr (.inr w0)), some (.inl i0)] [] I J := ex_eq (Nat.le_of_ble_eq_true rfl) rfl (Nat.le_of_ble_eq_true rfl) rfl
set_option maxRecDepth 10000 in
theorem g_126_0 : GO x d 126 Q 0 [v0, v1] st I J = GO x d 126 Q 1 [v0, v1] (.inl (0) :: st) I J := ge (A := (0, 1, 0, 0, 0)) rfl
set_option maxRecDepth 10000 in
theorem g_126_1 : GO x d 126 Q 1 [v0, v1] (.inl a :: st) I J = (nlO (some v0) = true ∧ GO x d 126 Q 2 [v0, some (.inl a)] st I J) := (ge (A := (4, 2, 1, 0, 0)) rfl).trans (gst (Nat.le_of_ble_eq_true rfl) _)
set_option maxRecDepth 10000 in
theorem g_126_2 : GO x d 126 Q 2 [v0, some (.inl a)] st I J = GO x d 126 Q 3 [v0, some (.inl a)] (.inl a :: st) I J := ge (A := (1, 3, 1, 0, 0)) rfl
set_option maxRecDepth 10000 in
theorem g_126_3 : GO x d 126 Q 3 [v0, v1] st I J = GO x d 126 Q 5 [v0, v1] (.inl (53) :: st) I J := ge (A := (0, 5, 0, 0, 53)) rfl
set_option maxRecDepth 10000 in
theorem g_126_5 : GO x d 126 Q 5 [v0, v1] (.inl b :: .inl a :: st) I J = (inR a ∧ inR b ∧ if a < b then GO x d 126 Q 8 [v0, v1] st I J else GO x d 126 Q 48 [v0, v1] st I J) := (ge (A := (34, 8, 48, 3, 0)) rfl).trans (ggec)
set_option maxRecDepth 10000 in
theorem g_126_8 : GO x d 126 Q 8 [some (.inr (.inr w)), v1] st I J = GO x d 126 Q 9 [some (.inr (.inr w)), v1] (.inr (.inr w) :: st) I J := ge (A := (2, 9, 0, 0, 0)) rfl
set_option maxRecDepth 10000 in
theorem g_126_9 : GO x d 126 Q 9 [v0, v1] (.inr (.inr (.inl r)) :: st) I J = (okF r 10 3 ∧ GO x d 126 Q 12 [v0, v1] (.inr (.inr (.inl (rfN r 3))) :: st) I J) := (ge (A := (39, 12, 10, 3, 0)) rfl).trans (gref (f := fun q => GO x d 126 Q 12 [v0, v1] (.inr (.inr (.inl q)) :: st) I J))
set_option maxRecDepth 10000 in
theorem g_126_12 : GO x d 126 Q 12 [v0, some (.inl a)] st I J = GO x d 126 Q 13 [v0, some (.inl a)] (.inl a :: st) I J := ge (A := (1, 13, 1, 0, 0)) rfl
set_option maxRecDepth 10000 in
theorem g_126_13 : GO x d 126 Q 13 [v0, some (.inl a)] st I J = GO x d 126 Q 14 [v0, some (.inl a)] (.inl a :: st) I J := ge (A := (1, 14, 1, 0, 0)) rfl
set_option maxRecDepth 10000 in
theorem g_126_14 : GO x d 126 Q 14 [v0, v1] st I J = GO x d 126 Q 16 [v0, v1] (.inl (30) :: st) I J := ge (A := (0, 16, 0, 0, 30)) rfl
set_option maxRecDepth 10000 in
theorem g_126_16 : GO x d 126 Q 16 [v0, v1] (.inl b :: .inl a :: st) I J = (inR a ∧ inR b ∧ if a = b then GO x d 126 Q 36 [v0, v1] st I J else GO x d 126 Q 19 [v0, v1] st I J) := (ge (A := (34, 19, 36, 0, 0)) rfl).trans (gic (p := a = b) inferInstance)
set_option maxRecDepth 10000 in
theorem g_126_19 : GO x d 126 Q 19 [v0, some (.inl a)] st I J = GO x d 126 Q 20 [v0, some (.inl a)] (.inl a :: st) I J := ge (A := (1, 20, 1, 0, 0)) rfl
set_option maxRecDepth 10000 in
theorem g_126_20 : GO x d 126 Q 20 [v0, v1] st I J = GO x d 126 Q 22 [v0, v1] (.inl (32) :: st) I J := ge (A := (0, 22, 0, 0, 32)) rfl
set_option maxRecDepth 10000 in
theorem g_126_22 : GO x d 126 Q 22 [v0, v1] st I J = GO x d 126 Q 24 [v0, v1] (.inl (39) :: st) I J := ge (A := (0, 24, 0, 0, 39)) rfl
set_option maxRecDepth 10000 in
theorem g_126_24 : GO x d 126 Q 24 [v0, v1] [.inl i0, .inl i1, .inl i2, .inl i3, .inr (.inr w0)] I J = EX x d 109 [.inl i2, .inl i1, .inl i0] I J (fun r1 I1 J1 => GO x d 126 Q 27 [v0, v1] (r1.toList ++ [.inl i3, .inr (.inr w0)]) I1 J1) := (ge (A := (52, 27, 109, 3, 0)) rfl).trans (gtrue2 (Nat.le_of_ble_eq_true rfl) (Nat.le_of_ble_eq_true rfl))
set_option maxRecDepth 10000 in
theorem g_126_27 : GO x d 126 Q 27 [v0, v1] (.inl a :: st) I J = (inR a ∧ if a = 0 then GO x d 126 Q 30 [v0, v1] st I J else GO x d 126 Q 36 [v0, v1] st I J) := (ge (A := (33, 30, 36, 1, 0)) rfl).trans (gifn (p := a = 0) inferInstance)
set_option maxRecDepth 10000 in
theorem g_126_30 : GO x d 126 Q 30 [v0, some (.inl a)] st I J = GO x d 126 Q 31 [v0, some (.inl a)] (.inl a :: st) I J := ge (A := (1, 31, 1, 0, 0)) rfl
set_option maxRecDepth 10000 in
theorem g_126_31 : GO x d 126 Q 31 [v0, v1] st I J = GO x d 126 Q 33 [v0, v1] (.inl (48) :: st) I J := ge (A := (0, 33, 0, 0, 48)) rfl
set_option maxRecDepth 10000 in
theorem g_126_33 : GO x d 126 Q 33 [v0, v1] (.inl b :: .inl a :: st) I J = (inR a ∧ inR b ∧ if a < b then GO x d 126 Q 40 [v0, v1] st I J else GO x d 126 Q 36 [v0, v1] st I J) := (ge (A := (34, 36, 40, 2, 0)) rfl).trans (gic (p := a < b) inferInstance)
set_option maxRecDepth 10000 in
theorem g_126_36 : GO x d 126 Q 36 [v0, v1] st I J = GO x d 126 Q 37 [v0, v1] (.inl (-1) :: st) I J := ge (A := (0, 37, 0, 0, -1)) rfl
set_option maxRecDepth 10000 in
theorem g_126_37 : GO x d 126 Q 37 [v0, v1] st I J = GO x d 126 Q 41 [v0, v1] st I J := ge (A := (35, 40, 41, 0, 0)) rfl
set_option maxRecDepth 10000 in
theorem g_126_40 : GO x d 126 Q 40 [v0, v1] st I J = GO x d 126 Q 41 [v0, v1] (.inl (0) :: st) I J := ge (A := (0, 41, 0, 0, 0)) rfl
set_option maxRecDepth 10000 in
theorem g_126_41 : GO x d 126 Q 41 [v0, v1] (.inl b :: .inl a :: .inr (.inr (.inl r)) :: st) I J = (okA r 20 ∧ 0 ≤ a ∧ a < lnN r ∧ GO x d 126 Q 42 [v0, v1] st (up I r a b) J) := ge (A := (45, 42, 0, 0, 0)) rfl
set_option maxRecDepth 10000 in
theorem g_126_42 : GO x d 126 Q 42 [v0, some (.inl a)] st I J = (nlO (some v0) = true ∧ GO x d 126 Q 45 [v0, some (.inl (a + (1)))] st I J) := ge (A := (7, 45, 1, 0, 1)) rfl
set_option maxRecDepth 10000 in
theorem g_126_45 : GO x d 126 Q 45 [v0, v1] st I J = GO x d 126 Q 2 [v0, v1] st I J := ge (A := (35, 48, 2, 0, 0)) rfl
set_option maxRecDepth 10000 in
theorem g_126_48 : GO x d 126 Q 48 [v0, v1] [] I J = Q none I J := ge (A := (57, 49, 0, 0, 0)) rfl
set_option maxRecDepth 10000 in
theorem e_126 : EX x (d + 1) 126 [.inr (.inr w0)] I J Q = GO x d 126 Q 0 [some (.inr (.inr w0)), none] [] I J := ex_eq (Nat.le_of_ble_eq_true rfl) rfl (Nat.le_of_ble_eq_true rfl) rfl
set_option maxRecDepth 10000 in
theorem g_127_0 : GO x d 127 Q 0 [some (.inr (.inr w)), v1, v2] st I J = GO x d 127 Q 1 [some (.inr (.inr w)), v1, v2] (.inr (.inr w) :: st) I J := ge (A := (2, 1, 0, 0, 0)) rfl
set_option maxRecDepth 10000 in
theorem g_127_1 : GO x d 127 Q 1 [v0, v1, v2] [.inr (.inr (.inl r))] I J = (okO r 10 ∧ EX x d 122 [.inr (.inr (.inl r))] I J (fun r1 I1 J1 => GO x d 127 Q 4 [v0, v1, v2] (r1.toList ++ []) I1 J1)) := (ge (A := (53, 4, 122, 0, 0)) rfl).trans (gtrue (Nat.le_of_ble_eq_true rfl))
set_option maxRecDepth 10000 in
theorem g_127_4 : GO x d 127 Q 4 [some (.inr (.inr w)), v1, v2] st I J = GO x d 127 Q 5 [some (.inr (.inr w)), v1, v2] (.inr (.inr w) :: st) I J := ge (A := (2, 5, 0, 0, 0)) rfl
set_option maxRecDepth 10000 in
theorem g_127_5 : GO x d 127 Q 5 [v0, v1, v2] (.inr (.inr (.inl r)) :: st) I J = (okO r 10 ∧ GO x d 127 Q 8 [v0, v1, v2] (.inl (I r 16) :: st) I J) := ge (A := (37, 8, 10, 16, 0)) rfl
set_option maxRecDepth 10000 in
theorem g_127_8 : GO x d 127 Q 8 [v0, v1, v2] st I J = GO x d 127 Q 9 [v0, v1, v2] (.inl (1) :: st) I J := ge (A := (0, 9, 0, 0, 1)) rfl
set_option maxRecDepth 10000 in
theorem g_127_9 : GO x d 127 Q 9 [v0, v1, v2] (.inl b :: .inl a :: st) I J = (inR a ∧ inR b ∧ if a = b then GO x d 127 Q 12 [v0, v1, v2] st I J else GO x d 127 Q 21 [v0, v1, v2] st I J) := (ge (A := (34, 12, 21, 1, 0)) rfl).trans (gicn (p := a = b) inferInstance)
set_option maxRecDepth 10000 in
theorem g_127_12 : GO x d 127 Q 12 [some (.inr (.inr w)), v1, v2] st I J = GO x d 127 Q 13 [some (.inr (.inr w)), v1, v2] (.inr (.inr w) :: st) I J := ge (A := (2, 13, 0, 0, 0)) rfl
set_option maxRecDepth 10000 in
theorem g_127_13 : GO x d 127 Q 13 [v0, v1, v2] (.inr (.inr (.inl r)) :: st) I J = (okO r 10 ∧ GO x d 127 Q 16 [v0, v1, v2] (.inl (I r 18) :: st) I J) := ge (A := (37, 16, 10, 18, 0)) rfl
set_option maxRecDepth 10000 in
theorem g_127_16 : GO x d 127 Q 16 [v0, v1, v2] st I J = GO x d 127 Q 18 [v0, v1, v2] (.inl (104) :: st) I J := ge (A := (0, 18, 0, 0, 104)) rfl
set_option maxRecDepth 10000 in
theorem g_127_18 : GO x d 127 Q 18 [v0, v1, v2] (.inl b :: .inl a :: st) I J = (inR a ∧ inR b ∧ if a = b then GO x d 127 Q 27 [v0, v1, v2] st I J else GO x d 127 Q 21 [v0, v1, v2] st I J) := (ge (A := (34, 21, 27, 0, 0)) rfl).trans (gic (p := a = b) inferInstance)
set_option maxRecDepth 10000 in
theorem g_127_21 : GO x d 127 Q 21 [some (.inr (.inr w)), v1, v2] st I J = GO x d 127 Q 22 [some (.inr (.inr w)), v1, v2] (.inr (.inr w) :: st) I J := ge (A := (2, 22, 0, 0, 0)) rfl
set_option maxRecDepth 10000 in
theorem g_127_22 : GO x d 127 Q 22 [v0, v1, v2] st I J = GO x d 127 Q 23 [v0, v1, v2] (.inl (1) :: st) I J := ge (A := (0, 23, 0, 0, 1)) rfl
set_option maxRecDepth 10000 in
theorem g_127_23 : GO x d 127 Q 23 [v0, v1, v2] [.inl i0, .inr (.inr (.inl r))] I J = (okO r 10 ∧ EX x d 123 [.inr (.inr (.inl r)), .inl i0] I J (fun r1 I1 J1 => GO x d 127 Q 26 [v0, v1, v2] (r1.toList ++ []) I1 J1)) := (ge (A := (53, 26, 123, 1, 0)) rfl).trans (gtrue (Nat.le_of_ble_eq_true rfl))
set_option maxRecDepth 10000 in
theorem g_127_26 : GO x d 127 Q 26 [v0, v1, v2] [.inl a] I J = (ret01 a ∧ Q (some (.inl a)) I J) := ge (A := (56, 27, 0, 0, 0)) rfl
set_option maxRecDepth 10000 in
theorem g_127_27 : GO x d 127 Q 27 [some (.inr (.inr w)), v1, v2] st I J = GO x d 127 Q 28 [some (.inr (.inr w)), v1, v2] (.inr (.inr w) :: st) I J := ge (A := (2, 28, 0, 0, 0)) rfl
set_option maxRecDepth 10000 in
theorem g_127_28 : GO x d 127 Q 28 [v0, v1, v2] st I J = GO x d 127 Q 29 [v0, v1, v2] (.inl (3) :: st) I J := ge (A := (0, 29, 0, 0, 3)) rfl
set_option maxRecDepth 10000 in
theorem g_127_29 : GO x d 127 Q 29 [v0, v1, v2] st I J = GO x d 127 Q 30 [v0, v1, v2] (.inl (1) :: st) I J := ge (A := (0, 30, 0, 0, 1)) rfl
set_option maxRecDepth 10000 in
theorem g_127_30 : GO x d 127 Q 30 [v0, v1, v2] st I J = GO x d 127 Q 32 [v0, v1, v2] (.inl (24) :: st) I J := ge (A := (0, 32, 0, 0, 24)) rfl
set_option maxRecDepth 10000 in
theorem g_127_32 : GO x d 127 Q 32 [v0, v1, v2] [.inl i0, .inl i1, .inl i2, .inr (.inr (.inl r))] I J = (okO r 10 ∧ EX x d 124 [.inr (.inr (.inl r)), .inl i2, .inl i1, .inl i0] I J (fun r1 I1 J1 => GO x d 127 Q 35 [v0, v1, v2] (r1.toList ++ []) I1 J1)) := (ge (A := (53, 35, 124, 3, 0)) rfl).trans (gtrue (Nat.le_of_ble_eq_true rfl))
set_option maxRecDepth 10000 in
theorem g_127_35 : GO x d 127 Q 35 [v0, v1, v2] (.inl a :: st) I J = (nlO (some v0) = true ∧ GO x d 127 Q 36 [v0, some (.inl a), v2] st I J) := (ge (A := (4, 36, 1, 0, 0)) rfl).trans (gst (Nat.le_of_ble_eq_true rfl) _)
set_option maxRecDepth 10000 in
theorem g_127_36 : GO x d 127 Q 36 [v0, v1, v2] st I J = GO x d 127 Q 37 [v0, v1, v2] (.inl (0) :: st) I J := ge (A := (0, 37, 0, 0, 0)) rfl
set_option maxRecDepth 10000 in
theorem g_127_37 : GO x d 127 Q 37 [v0, v1, v2] (.inl a :: st) I J = (nlO (some v1) = true ∧ GO x d 127 Q 38 [v0, v1, some (.inl a)] st I J) := (ge (A := (4, 38, 2, 0, 0)) rfl).trans (gst (Nat.le_of_ble_eq_true rfl) _)
set_option maxRecDepth 10000 in
theorem g_127_38 : GO x d 127 Q 38 [v0, v1, some (.inl a)] st I J = GO x d 127 Q 39 [v0, v1, some (.inl a)] (.inl a :: st) I J := ge (A := (1, 39, 2, 0, 0)) rfl
set_option maxRecDepth 10000 in
theorem g_127_39 : GO x d 127 Q 39 [v0, v1, v2] st I J = GO x d 127 Q 40 [v0, v1, v2] (.inl (4) :: st) I J := ge (A := (0, 40, 0, 0, 4)) rfl
set_option maxRecDepth 10000 in
theorem g_127_40 : GO x d 127 Q 40 [v0, v1, v2] (.inl b :: .inl a :: st) I J = (inR a ∧ inR b ∧ if a < b then GO x d 127 Q 43 [v0, v1, v2] st I J else GO x d 127 Q 81 [v0, v1, v2] st I J) := (ge (A := (34, 43, 81, 3, 0)) rfl).trans (ggec)
set_option maxRecDepth 10000 in
theorem g_127_43 : GO x d 127 Q 43 [v0, some (.inl a), v2] st I J = GO x d 127 Q 44 [v0, some (.inl a), v2] (.inl a :: st) I J := ge (A := (1, 44, 1, 0, 0)) rfl
set_option maxRecDepth 10000 in
theorem g_127_44 : GO x d 127 Q 44 [v0, v1, v2] (.inl a :: st) I J = (inR a ∧ if a = 0 then GO x d 127 Q 81 [v0, v1, v2] st I J else GO x d 127 Q 47 [v0, v1, v2] st I J) := (ge (A := (33, 47, 81, 0, 0)) rfl).trans (gif (p := a = 0) inferInstance)
set_option maxRecDepth 10000 in
theorem g_127_47 : GO x d 127 Q 47 [some (.inr (.inr w)), v1, v2] st I J = GO x d 127 Q 48 [some (.inr (.inr w)), v1, v2] (.inr (.inr w) :: st) I J := ge (A := (2, 48, 0, 0, 0)) rfl
set_option maxRecDepth 10000 in
theorem g_127_48 : GO x d 127 Q 48 [v0, v1, v2] st I J = GO x d 127 Q 50 [v0, v1, v2] (.inl (44) :: st) I J := ge (A := (0, 50, 0, 0, 44)) rfl
set_option maxRecDepth 10000 in
theorem g_127_50 : GO x d 127 Q 50 [v0, v1, v2] [.inl i0, .inr (.inr (.inl r))] I J = (okO r 10 ∧ EX x d 125 [.inr (.inr (.inl r)), .inl i0] I J (fun r1 I1 J1 => GO x d 127 Q 53 [v0, v1, v2] (r1.toList ++ []) I1 J1)) := (ge (A := (53, 53, 125, 1, 0)) rfl).trans (gtrue (Nat.le_of_ble_eq_true rfl))
set_option maxRecDepth 10000 in
theorem g_127_53 : GO x d 127 Q 53 [v0, v1, v2] (.inl a :: st) I J = (inR a ∧ if a = 0 then GO x d 127 Q 73 [v0, v1, v2] st I J else GO x d 127 Q 56 [v0, v1, v2] st I J) := (ge (A := (33, 56, 73, 0, 0)) rfl).trans (gif (p := a = 0) inferInstance)
set_option maxRecDepth 10000 in
theorem g_127_56 : GO x d 127 Q 56 [some (.inr (.inr w)), v1, v2] st I J = GO x d 127 Q 57 [some (.inr (.inr w)), v1, v2] (.inr (.inr w) :: st) I J := ge (A := (2, 57, 0, 0, 0)) rfl
set_option maxRecDepth 10000 in
theorem g_127_57 : GO x d 127 Q 57 [v0, v1, v2] st I J = GO x d 127 Q 58 [v0, v1, v2] (.inl (4) :: st) I J := ge (A := (0, 58, 0, 0, 4)) rfl
set_option maxRecDepth 10000 in
theorem g_127_58 : GO x d 127 Q 58 [v0, v1, some (.inl a)] st I J = GO x d 127 Q 59 [v0, v1, some (.inl a)] (.inl a :: st) I J := ge (A := (1, 59, 2, 0, 0)) rfl
set_option maxRecDepth 10000 in
theorem g_127_59 : GO x d 127 Q 59 [v0, v1, v2] (.inl b :: .inl a :: st) I J = GO x d 127 Q 60 [v0, v1, v2] (.inl (a + b) :: st) I J := ge (A := (8, 60, 0, 0, 0)) rfl
set_option maxRecDepth 10000 in
theorem g_127_60 : GO x d 127 Q 60 [v0, v1, v2] st I J = GO x d 127 Q 61 [v0, v1, v2] (.inl (0) :: st) I J := ge (A := (0, 61, 0, 0, 0)) rfl
set_option maxRecDepth 10000 in
theorem g_127_61 : GO x d 127 Q 61 [v0, v1, v2] st I J = GO x d 127 Q 63 [v0, v1, v2] (.inl (15) :: st) I J := ge (A := (0, 63, 0, 0, 15)) rfl
set_option maxRecDepth 10000 in
theorem g_127_63 : GO x d 127 Q 63 [v0, v1, v2] [.inl i0, .inl i1, .inl i2, .inr (.inr (.inl r))] I J = (okO r 10 ∧ EX x d 124 [.inr (.inr (.inl r)), .inl i2, .inl i1, .inl i0] I J (fun r1 I1 J1 => GO x d 127 Q 66 [v0, v1, v2] (r1.toList ++ []) I1 J1)) := (ge (A := (53, 66, 124, 3, 0)) rfl).trans (gtrue (Nat.le_of_ble_eq_true rfl))
set_option maxRecDepth 10000 in
theorem g_127_66 : GO x d 127 Q 66 [v0, v1, v2] (.inl a :: st) I J = (inR a ∧ if a = 0 then GO x d 127 Q 73 [v0, v1, v2] st I J else GO x d 127 Q 69 [v0, v1, v2] st I J) := (ge (A := (33, 69, 73, 0, 0)) rfl).trans (gif (p := a = 0) inferInstance)
set_option maxRecDepth 10000 in
theorem g_127_69 : GO x d 127 Q 69 [v0, v1, v2] st I J = GO x d 127 Q 70 [v0, v1, v2] (.inl (1) :: st) I J := ge (A := (0, 70, 0, 0, 1)) rfl
set_option maxRecDepth 10000 in
theorem g_127_70 : GO x d 127 Q 70 [v0, v1, v2] st I J = GO x d 127 Q 74 [v0, v1, v2] st I J := ge (A := (35, 73, 74, 0, 0)) rfl
set_option maxRecDepth 10000 in
theorem g_127_73 : GO x d 127 Q 73 [v0, v1, v2] st I J = GO x d 127 Q 74 [v0, v1, v2] (.inl (0) :: st) I J := ge (A := (0, 74, 0, 0, 0)) rfl
set_option maxRecDepth 10000 in
theorem g_127_74 : GO x d 127 Q 74 [v0, v1, v2] (.inl a :: st) I J = (nlO (some v0) = true ∧ GO x d 127 Q 75 [v0, some (.inl a), v2] st I J) := (ge (A := (4, 75, 1, 0, 0)) rfl).trans (gst (Nat.le_of_ble_eq_true rfl) _)
set_option maxRecDepth 10000 in
theorem g_127_75 : GO x d 127 Q 75 [v0, v1, some (.inl a)] st I J = (nlO (some v1) = true ∧ GO x d 127 Q 78 [v0, v1, some (.inl (a + (1)))] st I J) := ge (A := (7, 78, 2, 0, 1)) rfl
set_option maxRecDepth 10000 in
theorem g_127_78 : GO x d 127 Q 78 [v0, v1, v2] st I J = GO x d 127 Q 38 [v0, v1, v2] st I J := ge (A := (35, 81, 38, 0, 0)) rfl
set_option maxRecDepth 10000 in
theorem g_127_81 : GO x d 127 Q 81 [v0, some (.inl a), v2] st I J = GO x d 127 Q 82 [v0, some (.inl a), v2] (.inl a :: st) I J := ge (A := (1, 82, 1, 0, 0)) rfl
set_option maxRecDepth 10000 in
theorem g_127_82 : GO x d 127 Q 82 [v0, v1, v2] (.inl a :: st) I J = (inR a ∧ if a = 0 then GO x d 127 Q 98 [v0, v1, v2] st I J else GO x d 127 Q 85 [v0, v1, v2] st I J) := (ge (A := (33, 85, 98, 0, 0)) rfl).trans (gif (p := a = 0) inferInstance)
set_option maxRecDepth 10000 in
theorem g_127_85 : GO x d 127 Q 85 [some (.inr (.inr w)), v1, v2] st I J = GO x d 127 Q 86 [some (.inr (.inr w)), v1, v2] (.inr (.inr w) :: st) I J := ge (A := (2, 86, 0, 0, 0)) rfl
set_option maxRecDepth 10000 in
theorem g_127_86 : GO x d 127 Q 86 [v0, v1, v2] st I J = GO x d 127 Q 88 [v0, v1, v2] (.inl (59) :: st) I J := ge (A := (0, 88, 0, 0, 59)) rfl
set_option maxRecDepth 10000 in
theorem g_127_88 : GO x d 127 Q 88 [v0, v1, v2] [.inl i0, .inr (.inr (.inl r))] I J = (okO r 10 ∧ EX x d 125 [.inr (.inr (.inl r)), .inl i0] I J (fun r1 I1 J1 => GO x d 127 Q 91 [v0, v1, v2] (r1.toList ++ []) I1 J1)) := (ge (A := (53, 91, 125, 1, 0)) rfl).trans (gtrue (Nat.le_of_ble_eq_true rfl))
set_option maxRecDepth 10000 in
theorem g_127_91 : GO x d 127 Q 91 [v0, v1, v2] (.inl a :: st) I J = (inR a ∧ if a = 0 then GO x d 127 Q 98 [v0, v1, v2] st I J else GO x d 127 Q 94 [v0, v1, v2] st I J) := (ge (A := (33, 94, 98, 0, 0)) rfl).trans (gif (p := a = 0) inferInstance)
set_option maxRecDepth 10000 in
theorem g_127_94 : GO x d 127 Q 94 [v0, v1, v2] st I J = GO x d 127 Q 95 [v0, v1, v2] (.inl (1) :: st) I J := ge (A := (0, 95, 0, 0, 1)) rfl
set_option maxRecDepth 10000 in
theorem g_127_95 : GO x d 127 Q 95 [v0, v1, v2] st I J = GO x d 127 Q 99 [v0, v1, v2] st I J := ge (A := (35, 98, 99, 0, 0)) rfl
set_option maxRecDepth 10000 in
theorem g_127_98 : GO x d 127 Q 98 [v0, v1, v2] st I J = GO x d 127 Q 99 [v0, v1, v2] (.inl (0) :: st) I J := ge (A := (0, 99, 0, 0, 0)) rfl
set_option maxRecDepth 10000 in
theorem g_127_99 : GO x d 127 Q 99 [v0, v1, v2] [.inl a] I J = (ret01 a ∧ Q (some (.inl a)) I J) := ge (A := (56, 100, 0, 0, 0)) rfl
set_option maxRecDepth 10000 in
theorem e_127 : EX x (d + 1) 127 [.inr (.inr w0)] I J Q = GO x d 127 Q 0 [some (.inr (.inr w0)), none, none] [] I J := ex_eq (Nat.le_of_ble_eq_true rfl) rfl (Nat.le_of_ble_eq_true rfl) rfl
set_option maxRecDepth 10000 in
theorem g_128_0 : GO x d 128 Q 0 [some (.inl a)] st I J = GO x d 128 Q 1 [some (.inl a)] (.inl a :: st) I J := ge (A := (1, 1, 0, 0, 0)) rfl
set_option maxRecDepth 10000 in
theorem g_128_1 : GO x d 128 Q 1 [v0] st I J = GO x d 128 Q 3 [v0] (.inl (112) :: st) I J := ge (A := (0, 3, 0, 0, 112)) rfl
set_option maxRecDepth 10000 in
theorem g_128_3 : GO x d 128 Q 3 [v0] (.inl b :: .inl a :: st) I J = (inR a ∧ inR b ∧ if a = b then GO x d 128 Q 6 [v0] st I J else GO x d 128 Q 10 [v0] st I J) := (ge (A := (34, 6, 10, 1, 0)) rfl).trans (gicn (p := a = b) inferInstance)
set_option maxRecDepth 10000 in
theorem g_128_6 : GO x d 128 Q 6 [v0] st I J = GO x d 128 Q 7 [v0] (.inl (1) :: st) I J := ge (A := (0, 7, 0, 0, 1)) rfl
set_option maxRecDepth 10000 in
theorem g_128_7 : GO x d 128 Q 7 [v0] st I J = GO x d 128 Q 51 [v0] st I J := ge (A := (35, 10, 51, 0, 0)) rfl
set_option maxRecDepth 10000 in
theorem g_128_10 : GO x d 128 Q 10 [some (.inl a)] st I J = GO x d 128 Q 11 [some (.inl a)] (.inl a :: st) I J := ge (A := (1, 11, 0, 0, 0)) rfl
set_option maxRecDepth 10000 in
theorem g_128_11 : GO x d 128 Q 11 [v0] st I J = GO x d 128 Q 13 [v0] (.inl (105) :: st) I J := ge (A := (0, 13, 0, 0, 105)) rfl
set_option maxRecDepth 10000 in
theorem g_128_13 : GO x d 128 Q 13 [v0] (.inl b :: .inl a :: st) I J = (inR a ∧ inR b ∧ if a = b then GO x d 128 Q 16 [v0] st I J else GO x d 128 Q 20 [v0] st I J) := (ge (A := (34, 16, 20, 1, 0)) rfl).trans (gicn (p := a = b) inferInstance)
set_option maxRecDepth 10000 in
theorem g_128_16 : GO x d 128 Q 16 [v0] st I J = GO x d 128 Q 17 [v0] (.inl (2) :: st) I J := ge (A := (0, 17, 0, 0, 2)) rfl
set_option maxRecDepth 10000 in
theorem g_128_17 : GO x d 128 Q 17 [v0] st I J = GO x d 128 Q 51 [v0] st I J := ge (A := (35, 20, 51, 0, 0)) rfl
set_option maxRecDepth 10000 in
theorem g_128_20 : GO x d 128 Q 20 [some (.inl a)] st I J = GO x d 128 Q 21 [some (.inl a)] (.inl a :: st) I J := ge (A := (1, 21, 0, 0, 0)) rfl
set_option maxRecDepth 10000 in
theorem g_128_21 : GO x d 128 Q 21 [v0] st I J = GO x d 128 Q 23 [v0] (.inl (101) :: st) I J := ge (A := (0, 23, 0, 0, 101)) rfl
set_option maxRecDepth 10000 in
theorem g_128_23 : GO x d 128 Q 23 [v0] (.inl b :: .inl a :: st) I J = (inR a ∧ inR b ∧ if a = b then GO x d 128 Q 26 [v0] st I J else GO x d 128 Q 30 [v0] st I J) := (ge (A := (34, 26, 30, 1, 0)) rfl).trans (gicn (p := a = b) inferInstance)
set_option maxRecDepth 10000 in
theorem g_128_26 : GO x d 128 Q 26 [v0] st I J = GO x d 128 Q 27 [v0] (.inl (3) :: st) I J := ge (A := (0, 27, 0, 0, 3)) rfl
set_option maxRecDepth 10000 in
theorem g_128_27 : GO x d 128 Q 27 [v0] st I J = GO x d 128 Q 51 [v0] st I J := ge (A := (35, 30, 51, 0, 0)) rfl
set_option maxRecDepth 10000 in
theorem g_128_30 : GO x d 128 Q 30 [some (.inl a)] st I J = GO x d 128 Q 31 [some (.inl a)] (.inl a :: st) I J := ge (A := (1, 31, 0, 0, 0)) rfl
set_option maxRecDepth 10000 in
theorem g_128_31 : GO x d 128 Q 31 [v0] st I J = GO x d 128 Q 33 [v0] (.inl (102) :: st) I J := ge (A := (0, 33, 0, 0, 102)) rfl
set_option maxRecDepth 10000 in
theorem g_128_33 : GO x d 128 Q 33 [v0] (.inl b :: .inl a :: st) I J = (inR a ∧ inR b ∧ if a = b then GO x d 128 Q 36 [v0] st I J else GO x d 128 Q 40 [v0] st I J) := (ge (A := (34, 36, 40, 1, 0)) rfl).trans (gicn (p := a = b) inferInstance)
set_option maxRecDepth 10000 in
theorem g_128_36 : GO x d 128 Q 36 [v0] st I J = GO x d 128 Q 37 [v0] (.inl (4) :: st) I J := ge (A := (0, 37, 0, 0, 4)) rfl
set_option maxRecDepth 10000 in
theorem g_128_37 : GO x d 128 Q 37 [v0] st I J = GO x d 128 Q 51 [v0] st I J := ge (A := (35, 40, 51, 0, 0)) rfl
set_option maxRecDepth 10000 in
theorem g_128_40 : GO x d 128 Q 40 [some (.inl a)] st I J = GO x d 128 Q 41 [some (.inl a)] (.inl a :: st) I J := ge (A := (1, 41, 0, 0, 0)) rfl
set_option maxRecDepth 10000 in
theorem g_128_41 : GO x d 128 Q 41 [v0] st I J = GO x d 128 Q 43 [v0] (.inl (110) :: st) I J := ge (A := (0, 43, 0, 0, 110)) rfl
set_option maxRecDepth 10000 in
theorem g_128_43 : GO x d 128 Q 43 [v0] (.inl b :: .inl a :: st) I J = (inR a ∧ inR b ∧ if a = b then GO x d 128 Q 46 [v0] st I J else GO x d 128 Q 50 [v0] st I J) := (ge (A := (34, 46, 50, 1, 0)) rfl).trans (gicn (p := a = b) inferInstance)
set_option maxRecDepth 10000 in
theorem g_128_46 : GO x d 128 Q 46 [v0] st I J = GO x d 128 Q 47 [v0] (.inl (5) :: st) I J := ge (A := (0, 47, 0, 0, 5)) rfl
set_option maxRecDepth 10000 in
theorem g_128_47 : GO x d 128 Q 47 [v0] st I J = GO x d 128 Q 51 [v0] st I J := ge (A := (35, 50, 51, 0, 0)) rfl
set_option maxRecDepth 10000 in
theorem g_128_50 : GO x d 128 Q 50 [v0] st I J = GO x d 128 Q 51 [v0] (.inl (0) :: st) I J := ge (A := (0, 51, 0, 0, 0)) rfl
set_option maxRecDepth 10000 in
theorem g_128_51 : GO x d 128 Q 51 [v0] [.inl a] I J = Q (some (.inl a)) I J := ge (A := (55, 52, 0, 0, 0)) rfl
set_option maxRecDepth 10000 in
theorem e_128 : EX x (d + 1) 128 [.inl i0] I J Q = GO x d 128 Q 0 [some (.inl i0)] [] I J := ex_eq (Nat.le_of_ble_eq_true rfl) rfl (Nat.le_of_ble_eq_true rfl) rfl
set_option maxRecDepth 10000 in
theorem g_129_0 : GO x d 129 Q 0 [some (.inr (.inr w)), v1, v2] st I J = GO x d 129 Q 1 [some (.inr (.inr w)), v1, v2] (.inr (.inr w) :: st) I J := ge (A := (2, 1, 0, 0, 0)) rfl
set_option maxRecDepth 10000 in
theorem g_129_1 : GO x d 129 Q 1 [v0, v1, v2] (.inr (.inr (.inl r)) :: st) I J = (okO r 10 ∧ GO x d 129 Q 4 [v0, v1, v2] (.inl (I r 16) :: st) I J) := ge (A := (37, 4, 10, 16, 0)) rfl
set_option maxRecDepth 10000 in
theorem g_129_4 : GO x d 129 Q 4 [v0, v1, v2] st I J = GO x d 129 Q 5 [v0, v1, v2] (.inl (1) :: st) I J := ge (A := (0, 5, 0, 0, 1)) rfl
set_option maxRecDepth 10000 in
theorem g_129_5 : GO x d 129 Q 5 [v0, v1, v2] (.inl b :: .inl a :: st) I J = (inR a ∧ inR b ∧ if a = b then GO x d 129 Q 8 [v0, v1, v2] st I J else GO x d 129 Q 80 [v0, v1, v2] st I J) := (ge (A := (34, 8, 80, 1, 0)) rfl).trans (gicn (p := a = b) inferInstance)
set_option maxRecDepth 10000 in
theorem g_129_8 : GO x d 129 Q 8 [some (.inr (.inr w)), v1, v2] st I J = GO x d 129 Q 9 [some (.inr (.inr w)), v1, v2] (.inr (.inr w) :: st) I J := ge (A := (2, 9, 0, 0, 0)) rfl
set_option maxRecDepth 10000 in
theorem g_129_9 : GO x d 129 Q 9 [v0, v1, v2] (.inr (.inr (.inl r)) :: st) I J = (okO r 10 ∧ GO x d 129 Q 12 [v0, v1, v2] (.inl (I r 18) :: st) I J) := ge (A := (37, 12, 10, 18, 0)) rfl
set_option maxRecDepth 10000 in
theorem g_129_12 : GO x d 129 Q 12 [v0, v1, v2] st I J = GO x d 129 Q 14 [v0, v1, v2] (.inl (116) :: st) I J := ge (A := (0, 14, 0, 0, 116)) rfl
set_option maxRecDepth 10000 in
theorem g_129_14 : GO x d 129 Q 14 [v0, v1, v2] (.inl b :: .inl a :: st) I J = (inR a ∧ inR b ∧ if a = b then GO x d 129 Q 17 [v0, v1, v2] st I J else GO x d 129 Q 80 [v0, v1, v2] st I J) := (ge (A := (34, 17, 80, 1, 0)) rfl).trans (gicn (p := a = b) inferInstance)
set_option maxRecDepth 10000 in
theorem g_129_17 : GO x d 129 Q 17 [some (.inr (.inr w)), v1, v2] st I J = GO x d 129 Q 18 [some (.inr (.inr w)), v1, v2] (.inr (.inr w) :: st) I J := ge (A := (2, 18, 0, 0, 0)) rfl
set_option maxRecDepth 10000 in
theorem g_129_18 : GO x d 129 Q 18 [v0, v1, v2] (.inr (.inr (.inl r)) :: st) I J = (okF r 10 3 ∧ GO x d 129 Q 21 [v0, v1, v2] (.inr (.inr (.inl (rfN r 3))) :: st) I J) := (ge (A := (39, 21, 10, 3, 0)) rfl).trans (gref (f := fun q => GO x d 129 Q 21 [v0, v1, v2] (.inr (.inr (.inl q)) :: st) I J))
set_option maxRecDepth 10000 in
theorem g_129_21 : GO x d 129 Q 21 [v0, v1, v2] st I J = GO x d 129 Q 22 [v0, v1, v2] (.inl (2) :: st) I J := ge (A := (0, 22, 0, 0, 2)) rfl
set_option maxRecDepth 10000 in
theorem h_129_22 : GO x d 129 Q 22 [v0, v1, v2] (.inl a :: .inr (.inr (.inr q)) :: st) I J = (q < 4 ∧ 0 ≤ a ∧ a < (roA x q).1 ∧ GO x d 129 Q 23 [v0, v1, v2] (.inl ((roA x q).2 a.toNat) :: st) I J) := ge (A := (44, 23, 0, 0, 0)) rfl
set_option maxRecDepth 10000 in
theorem g_129_22 : GO x d 129 Q 22 [v0, v1, v2] (.inl a :: .inr (.inr (.inl r)) :: st) I J = (okA r 20 ∧ 0 ≤ a ∧ a < lnN r ∧ GO x d 129 Q 23 [v0, v1, v2] (.inl (I r a) :: st) I J) := ge (A := (44, 23, 0, 0, 0)) rfl
set_option maxRecDepth 10000 in
theorem g_129_23 : GO x d 129 Q 23 [v0, v1, v2] (.inl a :: st) I J = (nlO (some v0) = true ∧ GO x d 129 Q 24 [v0, some (.inl a), v2] st I J) := (ge (A := (4, 24, 1, 0, 0)) rfl).trans (gst (Nat.le_of_ble_eq_true rfl) _)
set_option maxRecDepth 10000 in
theorem g_129_24 : GO x d 129 Q 24 [v0, some (.inl a), v2] st I J = GO x d 129 Q 25 [v0, some (.inl a), v2] (.inl a :: st) I J := ge (A := (1, 25, 1, 0, 0)) rfl
set_option maxRecDepth 10000 in
theorem g_129_25 : GO x d 129 Q 25 [v0, v1, v2] st I J = GO x d 129 Q 26 [v0, v1, v2] (.inl (5) :: st) I J := ge (A := (0, 26, 0, 0, 5)) rfl
set_option maxRecDepth 10000 in
theorem g_129_26 : GO x d 129 Q 26 [v0, v1, v2] (.inl b :: .inl a :: st) I J = (inR a ∧ inR b ∧ if a = b then GO x d 129 Q 29 [v0, v1, v2] st I J else GO x d 129 Q 35 [v0, v1, v2] st I J) := (ge (A := (34, 29, 35, 1, 0)) rfl).trans (gicn (p := a = b) inferInstance)
set_option maxRecDepth 10000 in
theorem g_129_29 : GO x d 129 Q 29 [some (.inr (.inr w)), v1, v2] st I J = GO x d 129 Q 30 [some (.inr (.inr w)), v1, v2] (.inr (.inr w) :: st) I J := ge (A := (2, 30, 0, 0, 0)) rfl
set_option maxRecDepth 10000 in
theorem g_129_30 : GO x d 129 Q 30 [v0, v1, v2] st I J = GO x d 129 Q 31 [v0, v1, v2] (.inl (3) :: st) I J := ge (A := (0, 31, 0, 0, 3)) rfl
set_option maxRecDepth 10000 in
theorem g_129_31 : GO x d 129 Q 31 [v0, v1, v2] [.inl i0, .inr (.inr (.inl r))] I J = (okO r 10 ∧ EX x d 123 [.inr (.inr (.inl r)), .inl i0] I J (fun r1 I1 J1 => GO x d 129 Q 34 [v0, v1, v2] (r1.toList ++ []) I1 J1)) := (ge (A := (53, 34, 123, 1, 0)) rfl).trans (gtrue (Nat.le_of_ble_eq_true rfl))
set_option maxRecDepth 10000 in
theorem g_129_34 : GO x d 129 Q 34 [v0, v1, v2] [.inl a] I J = (ret01 a ∧ Q (some (.inl a)) I J) := ge (A := (56, 35, 0, 0, 0)) rfl
set_option maxRecDepth 10000 in
theorem g_129_35 : GO x d 129 Q 35 [some (.inr (.inr w)), v1, v2] st I J = GO x d 129 Q 36 [some (.inr (.inr w)), v1, v2] (.inr (.inr w) :: st) I J := ge (A := (2, 36, 0, 0, 0)) rfl
set_option maxRecDepth 10000 in
theorem g_129_36 : GO x d 129 Q 36 [v0, v1, v2] st I J = GO x d 129 Q 38 [v0, v1, v2] (.inl (24) :: st) I J := ge (A := (0, 38, 0, 0, 24)) rfl
set_option maxRecDepth 10000 in
theorem g_129_38 : GO x d 129 Q 38 [v0, some (.inl a), v2] st I J = GO x d 129 Q 39 [v0, some (.inl a), v2] (.inl a :: st) I J := ge (A := (1, 39, 1, 0, 0)) rfl
set_option maxRecDepth 10000 in
theorem g_129_39 : GO x d 129 Q 39 [v0, v1, v2] (.inl b :: .inl a :: st) I J = GO x d 129 Q 40 [v0, v1, v2] (.inl (a + b) :: st) I J := ge (A := (8, 40, 0, 0, 0)) rfl
set_option maxRecDepth 10000 in
theorem g_129_40 : GO x d 129 Q 40 [v0, v1, v2] st I J = GO x d 129 Q 41 [v0, v1, v2] (.inl (1) :: st) I J := ge (A := (0, 41, 0, 0, 1)) rfl
set_option maxRecDepth 10000 in
theorem g_129_41 : GO x d 129 Q 41 [v0, v1, v2] st I J = GO x d 129 Q 42 [v0, v1, v2] (.inl (1) :: st) I J := ge (A := (0, 42, 0, 0, 1)) rfl
set_option maxRecDepth 10000 in
theorem g_129_42 : GO x d 129 Q 42 [some (.inr (.inr w)), v1, v2] st I J = GO x d 129 Q 43 [some (.inr (.inr w)), v1, v2] (.inr (.inr w) :: st) I J := ge (A := (2, 43, 0, 0, 0)) rfl
set_option maxRecDepth 10000 in
theorem g_129_43 : GO x d 129 Q 43 [v0, v1, v2] (.inr (.inr (.inl r)) :: st) I J = (okF r 10 3 ∧ GO x d 129 Q 46 [v0, v1, v2] (.inr (.inr (.inl (rfN r 3))) :: st) I J) := (ge (A := (39, 46, 10, 3, 0)) rfl).trans (gref (f := fun q => GO x d 129 Q 46 [v0, v1, v2] (.inr (.inr (.inl q)) :: st) I J))
set_option maxRecDepth 10000 in
theorem g_129_46 : GO x d 129 Q 46 [v0, v1, v2] st I J = GO x d 129 Q 47 [v0, v1, v2] (.inl (1) :: st) I J := ge (A := (0, 47, 0, 0, 1)) rfl
set_option maxRecDepth 10000 in
theorem h_129_47 : GO x d 129 Q 47 [v0, v1, v2] (.inl a :: .inr (.inr (.inr q)) :: st) I J = (q < 4 ∧ 0 ≤ a ∧ a < (roA x q).1 ∧ GO x d 129 Q 48 [v0, v1, v2] (.inl ((roA x q).2 a.toNat) :: st) I J) := ge (A := (44, 48, 0, 0, 0)) rfl
set_option maxRecDepth 10000 in
theorem g_129_47 : GO x d 129 Q 47 [v0, v1, v2] (.inl a :: .inr (.inr (.inl r)) :: st) I J = (okA r 20 ∧ 0 ≤ a ∧ a < lnN r ∧ GO x d 129 Q 48 [v0, v1, v2] (.inl (I r a) :: st) I J) := ge (A := (44, 48, 0, 0, 0)) rfl
set_option maxRecDepth 10000 in
theorem g_129_48 : GO x d 129 Q 48 [v0, v1, v2] (.inl b :: .inl a :: st) I J = GO x d 129 Q 49 [v0, v1, v2] (.inl (shlI a b) :: st) I J := ge (A := (14, 49, 0, 0, 0)) rfl
set_option maxRecDepth 10000 in
theorem g_129_49 : GO x d 129 Q 49 [v0, v1, v2] st I J = GO x d 129 Q 50 [v0, v1, v2] (.inl (1) :: st) I J := ge (A := (0, 50, 0, 0, 1)) rfl
set_option maxRecDepth 10000 in
theorem g_129_50 : GO x d 129 Q 50 [v0, v1, v2] (.inl b :: .inl a :: st) I J = GO x d 129 Q 51 [v0, v1, v2] (.inl (a - b) :: st) I J := ge (A := (9, 51, 0, 0, 0)) rfl
set_option maxRecDepth 10000 in
theorem g_129_51 : GO x d 129 Q 51 [v0, v1, v2] [.inl i0, .inl i1, .inl i2, .inr (.inr (.inl r))] I J = (okO r 10 ∧ EX x d 124 [.inr (.inr (.inl r)), .inl i2, .inl i1, .inl i0] I J (fun r1 I1 J1 => GO x d 129 Q 54 [v0, v1, v2] (r1.toList ++ []) I1 J1)) := (ge (A := (53, 54, 124, 3, 0)) rfl).trans (gtrue (Nat.le_of_ble_eq_true rfl))
set_option maxRecDepth 10000 in
theorem g_129_54 : GO x d 129 Q 54 [v0, v1, v2] (.inl a :: st) I J = (inR a ∧ if a = 0 then GO x d 129 Q 66 [v0, v1, v2] st I J else GO x d 129 Q 57 [v0, v1, v2] st I J) := (ge (A := (33, 57, 66, 0, 0)) rfl).trans (gif (p := a = 0) inferInstance)
set_option maxRecDepth 10000 in
theorem g_129_57 : GO x d 129 Q 57 [some (.inr (.inr w)), v1, v2] st I J = GO x d 129 Q 58 [some (.inr (.inr w)), v1, v2] (.inr (.inr w) :: st) I J := ge (A := (2, 58, 0, 0, 0)) rfl
set_option maxRecDepth 10000 in
theorem g_129_58 : GO x d 129 Q 58 [v0, v1, v2] st I J = GO x d 129 Q 60 [v0, v1, v2] (.inl (59) :: st) I J := ge (A := (0, 60, 0, 0, 59)) rfl
set_option maxRecDepth 10000 in
theorem g_129_60 : GO x d 129 Q 60 [v0, v1, v2] [.inl i0, .inr (.inr (.inl r))] I J = (okO r 10 ∧ EX x d 125 [.inr (.inr (.inl r)), .inl i0] I J (fun r1 I1 J1 => GO x d 129 Q 63 [v0, v1, v2] (r1.toList ++ []) I1 J1)) := (ge (A := (53, 63, 125, 1, 0)) rfl).trans (gtrue (Nat.le_of_ble_eq_true rfl))
set_option maxRecDepth 10000 in
theorem g_129_63 : GO x d 129 Q 63 [v0, v1, v2] (.inl a :: st) I J = (inR a ∧ if a = 0 then GO x d 129 Q 66 [v0, v1, v2] st I J else GO x d 129 Q 68 [v0, v1, v2] st I J) := (ge (A := (33, 66, 68, 1, 0)) rfl).trans (gifn (p := a = 0) inferInstance)
set_option maxRecDepth 10000 in
theorem g_129_66 : GO x d 129 Q 66 [v0, v1, v2] st I J = GO x d 129 Q 67 [v0, v1, v2] (.inl (0) :: st) I J := ge (A := (0, 67, 0, 0, 0)) rfl
set_option maxRecDepth 10000 in
theorem g_129_67 : GO x d 129 Q 67 [v0, v1, v2] [.inl a] I J = (ret01 a ∧ Q (some (.inl a)) I J) := ge (A := (56, 68, 0, 0, 0)) rfl
set_option maxRecDepth 10000 in
theorem g_129_68 : GO x d 129 Q 68 [some (.inr (.inr w)), v1, v2] st I J = GO x d 129 Q 69 [some (.inr (.inr w)), v1, v2] (.inr (.inr w) :: st) I J := ge (A := (2, 69, 0, 0, 0)) rfl
set_option maxRecDepth 10000 in
theorem g_129_69 : GO x d 129 Q 69 [v0, v1, v2] (.inr (.inr (.inl r)) :: st) I J = (okF r 10 3 ∧ GO x d 129 Q 72 [v0, v1, v2] (.inr (.inr (.inl (rfN r 3))) :: st) I J) := (ge (A := (39, 72, 10, 3, 0)) rfl).trans (gref (f := fun q => GO x d 129 Q 72 [v0, v1, v2] (.inr (.inr (.inl q)) :: st) I J))
set_option maxRecDepth 10000 in
theorem g_129_72 : GO x d 129 Q 72 [v0, v1, v2] st I J = GO x d 129 Q 73 [v0, v1, v2] (.inl (2) :: st) I J := ge (A := (0, 73, 0, 0, 2)) rfl
set_option maxRecDepth 10000 in
theorem g_129_73 : GO x d 129 Q 73 [v0, v1, v2] (.inl a :: .inr (.inr w) :: st) I J = GO x d 129 Q 74 [v0, v1, v2] (.inl a :: .inr (.inr w) :: .inl a :: .inr (.inr w) :: st) I J := ge (A := (32, 74, 0, 0, 0)) rfl
set_option maxRecDepth 10000 in
theorem h_129_74 : GO x d 129 Q 74 [v0, v1, v2] (.inl a :: .inr (.inr (.inr q)) :: st) I J = (q < 4 ∧ 0 ≤ a ∧ a < (roA x q).1 ∧ GO x d 129 Q 75 [v0, v1, v2] (.inl ((roA x q).2 a.toNat) :: st) I J) := ge (A := (44, 75, 0, 0, 0)) rfl
set_option maxRecDepth 10000 in
theorem g_129_74 : GO x d 129 Q 74 [v0, v1, v2] (.inl a :: .inr (.inr (.inl r)) :: st) I J = (okA r 20 ∧ 0 ≤ a ∧ a < lnN r ∧ GO x d 129 Q 75 [v0, v1, v2] (.inl (I r a) :: st) I J) := ge (A := (44, 75, 0, 0, 0)) rfl
set_option maxRecDepth 10000 in
theorem g_129_75 : GO x d 129 Q 75 [v0, v1, v2] st I J = GO x d 129 Q 76 [v0, v1, v2] (.inl (1) :: st) I J := ge (A := (0, 76, 0, 0, 1)) rfl
set_option maxRecDepth 10000 in
theorem g_129_76 : GO x d 129 Q 76 [v0, v1, v2] (.inl b :: .inl a :: st) I J = GO x d 129 Q 77 [v0, v1, v2] (.inl (a + b) :: st) I J := ge (A := (8, 77, 0, 0, 0)) rfl
set_option maxRecDepth 10000 in
theorem g_129_77 : GO x d 129 Q 77 [v0, v1, v2] (.inl b :: .inl a :: .inr (.inr (.inl r)) :: st) I J = (okA r 20 ∧ 0 ≤ a ∧ a < lnN r ∧ GO x d 129 Q 78 [v0, v1, v2] st (up I r a b) J) := ge (A := (45, 78, 0, 0, 0)) rfl
set_option maxRecDepth 10000 in
theorem g_129_78 : GO x d 129 Q 78 [v0, v1, v2] st I J = GO x d 129 Q 79 [v0, v1, v2] (.inl (1) :: st) I J := ge (A := (0, 79, 0, 0, 1)) rfl
set_option maxRecDepth 10000 in
theorem g_129_79 : GO x d 129 Q 79 [v0, v1, v2] [.inl a] I J = (ret01 a ∧ Q (some (.inl a)) I J) := ge (A := (56, 80, 0, 0, 0)) rfl
set_option maxRecDepth 10000 in
theorem g_129_80 : GO x d 129 Q 80 [some (.inr (.inr w)), v1, v2] st I J = GO x d 129 Q 81 [some (.inr (.inr w)), v1, v2] (.inr (.inr w) :: st) I J := ge (A := (2, 81, 0, 0, 0)) rfl
set_option maxRecDepth 10000 in
theorem g_129_81 : GO x d 129 Q 81 [v0, v1, v2] (.inr (.inr (.inl r)) :: st) I J = (okO r 10 ∧ GO x d 129 Q 84 [v0, v1, v2] (.inl (I r 16) :: st) I J) := ge (A := (37, 84, 10, 16, 0)) rfl
set_option maxRecDepth 10000 in
theorem g_129_84 : GO x d 129 Q 84 [v0, v1, v2] st I J = GO x d 129 Q 85 [v0, v1, v2] (.inl (1) :: st) I J := ge (A := (0, 85, 0, 0, 1)) rfl
set_option maxRecDepth 10000 in
theorem g_129_85 : GO x d 129 Q 85 [v0, v1, v2] (.inl b :: .inl a :: st) I J = (inR a ∧ inR b ∧ if a = b then GO x d 129 Q 88 [v0, v1, v2] st I J else GO x d 129 Q 98 [v0, v1, v2] st I J) := (ge (A := (34, 88, 98, 1, 0)) rfl).trans (gicn (p := a = b) inferInstance)
set_option maxRecDepth 10000 in
theorem g_129_88 : GO x d 129 Q 88 [some (.inr (.inr w)), v1, v2] st I J = GO x d 129 Q 89 [some (.inr (.inr w)), v1, v2] (.inr (.inr w) :: st) I J := ge (A := (2, 89, 0, 0, 0)) rfl
set_option maxRecDepth 10000 in
theorem g_129_89 : GO x d 129 Q 89 [v0, v1, v2] (.inr (.inr (.inl r)) :: st) I J = (okO r 10 ∧ GO x d 129 Q 92 [v0, v1, v2] (.inl (I r 18) :: st) I J) := ge (A := (37, 92, 10, 18, 0)) rfl
set_option maxRecDepth 10000 in
theorem g_129_92 : GO x d 129 Q 92 [v0, v1, v2] [.inl i0] I J = EX x d 128 [.inl i0] I J (fun r1 I1 J1 => GO x d 129 Q 95 [v0, v1, v2] (r1.toList ++ []) I1 J1) := (ge (A := (52, 95, 128, 1, 0)) rfl).trans (gtrue2 (Nat.le_of_ble_eq_true rfl) (Nat.le_of_ble_eq_true rfl))
set_option maxRecDepth 10000 in
theorem g_129_95 : GO x d 129 Q 95 [v0, v1, v2] st I J = GO x d 129 Q 99 [v0, v1, v2] st I J := ge (A := (35, 98, 99, 0, 0)) rfl
set_option maxRecDepth 10000 in
theorem g_129_98 : GO x d 129 Q 98 [v0, v1, v2] st I J = GO x d 129 Q 99 [v0, v1, v2] (.inl (0) :: st) I J := ge (A := (0, 99, 0, 0, 0)) rfl
set_option maxRecDepth 10000 in
theorem g_129_99 : GO x d 129 Q 99 [v0, v1, v2] (.inl a :: st) I J = (nlO (some v0) = true ∧ GO x d 129 Q 100 [v0, some (.inl a), v2] st I J) := (ge (A := (4, 100, 1, 0, 0)) rfl).trans (gst (Nat.le_of_ble_eq_true rfl) _)
set_option maxRecDepth 10000 in
theorem g_129_100 : GO x d 129 Q 100 [v0, some (.inl a), v2] st I J = GO x d 129 Q 101 [v0, some (.inl a), v2] (.inl a :: st) I J := ge (A := (1, 101, 1, 0, 0)) rfl
set_option maxRecDepth 10000 in
theorem g_129_101 : GO x d 129 Q 101 [v0, v1, v2] (.inl a :: st) I J = (inR a ∧ if a = 0 then GO x d 129 Q 113 [v0, v1, v2] st I J else GO x d 129 Q 104 [v0, v1, v2] st I J) := (ge (A := (33, 104, 113, 0, 0)) rfl).trans (gif (p := a = 0) inferInstance)
set_option maxRecDepth 10000 in
theorem g_129_104 : GO x d 129 Q 104 [some (.inr (.inr w)), v1, v2] st I J = GO x d 129 Q 105 [some (.inr (.inr w)), v1, v2] (.inr (.inr w) :: st) I J := ge (A := (2, 105, 0, 0, 0)) rfl
set_option maxRecDepth 10000 in
theorem g_129_105 : GO x d 129 Q 105 [v0, v1, v2] (.inr (.inr (.inl r)) :: st) I J = (okF r 10 3 ∧ GO x d 129 Q 108 [v0, v1, v2] (.inr (.inr (.inl (rfN r 3))) :: st) I J) := (ge (A := (39, 108, 10, 3, 0)) rfl).trans (gref (f := fun q => GO x d 129 Q 108 [v0, v1, v2] (.inr (.inr (.inl q)) :: st) I J))
set_option maxRecDepth 10000 in
theorem g_129_108 : GO x d 129 Q 108 [v0, v1, v2] st I J = GO x d 129 Q 109 [v0, v1, v2] (.inl (2) :: st) I J := ge (A := (0, 109, 0, 0, 2)) rfl
set_option maxRecDepth 10000 in
theorem h_129_109 : GO x d 129 Q 109 [v0, v1, v2] (.inl a :: .inr (.inr (.inr q)) :: st) I J = (q < 4 ∧ 0 ≤ a ∧ a < (roA x q).1 ∧ GO x d 129 Q 110 [v0, v1, v2] (.inl ((roA x q).2 a.toNat) :: st) I J) := ge (A := (44, 110, 0, 0, 0)) rfl
set_option maxRecDepth 10000 in
theorem g_129_109 : GO x d 129 Q 109 [v0, v1, v2] (.inl a :: .inr (.inr (.inl r)) :: st) I J = (okA r 20 ∧ 0 ≤ a ∧ a < lnN r ∧ GO x d 129 Q 110 [v0, v1, v2] (.inl (I r a) :: st) I J) := ge (A := (44, 110, 0, 0, 0)) rfl
set_option maxRecDepth 10000 in
theorem g_129_110 : GO x d 129 Q 110 [v0, v1, v2] (.inl a :: st) I J = (inR a ∧ if 0 < a then GO x d 129 Q 113 [v0, v1, v2] st I J else GO x d 129 Q 119 [v0, v1, v2] st I J) := (ge (A := (33, 113, 119, 5, 0)) rfl).trans (gge)
set_option maxRecDepth 10000 in
theorem g_129_113 : GO x d 129 Q 113 [some (.inr (.inr w)), v1, v2] st I J = GO x d 129 Q 114 [some (.inr (.inr w)), v1, v2] (.inr (.inr w) :: st) I J := ge (A := (2, 114, 0, 0, 0)) rfl
set_option maxRecDepth 10000 in
theorem g_129_114 : GO x d 129 Q 114 [v0, v1, v2] st I J = GO x d 129 Q 115 [v0, v1, v2] (.inl (1) :: st) I J := ge (A := (0, 115, 0, 0, 1)) rfl
set_option maxRecDepth 10000 in
theorem g_129_115 : GO x d 129 Q 115 [v0, v1, v2] [.inl i0, .inr (.inr (.inl r))] I J = (okO r 10 ∧ EX x d 123 [.inr (.inr (.inl r)), .inl i0] I J (fun r1 I1 J1 => GO x d 129 Q 118 [v0, v1, v2] (r1.toList ++ []) I1 J1)) := (ge (A := (53, 118, 123, 1, 0)) rfl).trans (gtrue (Nat.le_of_ble_eq_true rfl))
set_option maxRecDepth 10000 in
theorem g_129_118 : GO x d 129 Q 118 [v0, v1, v2] [.inl a] I J = (ret01 a ∧ Q (some (.inl a)) I J) := ge (A := (56, 119, 0, 0, 0)) rfl
set_option maxRecDepth 10000 in
theorem g_129_119 : GO x d 129 Q 119 [some (.inr (.inr w)), v1, v2] st I J = GO x d 129 Q 120 [some (.inr (.inr w)), v1, v2] (.inr (.inr w) :: st) I J := ge (A := (2, 120, 0, 0, 0)) rfl
set_option maxRecDepth 10000 in
theorem g_129_120 : GO x d 129 Q 120 [v0, v1, v2] (.inr (.inr (.inl r)) :: st) I J = (okF r 10 3 ∧ GO x d 129 Q 123 [v0, v1, v2] (.inr (.inr (.inl (rfN r 3))) :: st) I J) := (ge (A := (39, 123, 10, 3, 0)) rfl).trans (gref (f := fun q => GO x d 129 Q 123 [v0, v1, v2] (.inr (.inr (.inl q)) :: st) I J))
set_option maxRecDepth 10000 in
theorem g_129_123 : GO x d 129 Q 123 [v0, v1, v2] st I J = GO x d 129 Q 124 [v0, v1, v2] (.inl (1) :: st) I J := ge (A := (0, 124, 0, 0, 1)) rfl
set_option maxRecDepth 10000 in
theorem h_129_124 : GO x d 129 Q 124 [v0, v1, v2] (.inl a :: .inr (.inr (.inr q)) :: st) I J = (q < 4 ∧ 0 ≤ a ∧ a < (roA x q).1 ∧ GO x d 129 Q 125 [v0, v1, v2] (.inl ((roA x q).2 a.toNat) :: st) I J) := ge (A := (44, 125, 0, 0, 0)) rfl
set_option maxRecDepth 10000 in
theorem g_129_124 : GO x d 129 Q 124 [v0, v1, v2] (.inl a :: .inr (.inr (.inl r)) :: st) I J = (okA r 20 ∧ 0 ≤ a ∧ a < lnN r ∧ GO x d 129 Q 125 [v0, v1, v2] (.inl (I r a) :: st) I J) := ge (A := (44, 125, 0, 0, 0)) rfl
set_option maxRecDepth 10000 in
theorem g_129_125 : GO x d 129 Q 125 [v0, v1, v2] (.inl a :: st) I J = (nlO (some v1) = true ∧ GO x d 129 Q 126 [v0, v1, some (.inl a)] st I J) := (ge (A := (4, 126, 2, 0, 0)) rfl).trans (gst (Nat.le_of_ble_eq_true rfl) _)
set_option maxRecDepth 10000 in
theorem g_129_126 : GO x d 129 Q 126 [v0, v1, some (.inl a)] st I J = GO x d 129 Q 127 [v0, v1, some (.inl a)] (.inl a :: st) I J := ge (A := (1, 127, 2, 0, 0)) rfl
set_option maxRecDepth 10000 in
theorem g_129_127 : GO x d 129 Q 127 [v0, v1, v2] st I J = GO x d 129 Q 129 [v0, v1, v2] (.inl (8) :: st) I J := ge (A := (0, 129, 0, 0, 8)) rfl
set_option maxRecDepth 10000 in
theorem g_129_129 : GO x d 129 Q 129 [v0, v1, v2] (.inl b :: .inl a :: st) I J = (inR a ∧ inR b ∧ if a = b then GO x d 129 Q 132 [v0, v1, v2] st I J else GO x d 129 Q 138 [v0, v1, v2] st I J) := (ge (A := (34, 132, 138, 1, 0)) rfl).trans (gicn (p := a = b) inferInstance)
set_option maxRecDepth 10000 in
theorem g_129_132 : GO x d 129 Q 132 [some (.inr (.inr w)), v1, v2] st I J = GO x d 129 Q 133 [some (.inr (.inr w)), v1, v2] (.inr (.inr w) :: st) I J := ge (A := (2, 133, 0, 0, 0)) rfl
set_option maxRecDepth 10000 in
theorem g_129_133 : GO x d 129 Q 133 [v0, v1, v2] st I J = GO x d 129 Q 134 [v0, v1, v2] (.inl (3) :: st) I J := ge (A := (0, 134, 0, 0, 3)) rfl
set_option maxRecDepth 10000 in
theorem g_129_134 : GO x d 129 Q 134 [v0, v1, v2] [.inl i0, .inr (.inr (.inl r))] I J = (okO r 10 ∧ EX x d 123 [.inr (.inr (.inl r)), .inl i0] I J (fun r1 I1 J1 => GO x d 129 Q 137 [v0, v1, v2] (r1.toList ++ []) I1 J1)) := (ge (A := (53, 137, 123, 1, 0)) rfl).trans (gtrue (Nat.le_of_ble_eq_true rfl))
set_option maxRecDepth 10000 in
theorem g_129_137 : GO x d 129 Q 137 [v0, v1, v2] [.inl a] I J = (ret01 a ∧ Q (some (.inl a)) I J) := ge (A := (56, 138, 0, 0, 0)) rfl
set_option maxRecDepth 10000 in
theorem g_129_138 : GO x d 129 Q 138 [some (.inr (.inr w)), v1, v2] st I J = GO x d 129 Q 139 [some (.inr (.inr w)), v1, v2] (.inr (.inr w) :: st) I J := ge (A := (2, 139, 0, 0, 0)) rfl
set_option maxRecDepth 10000 in
theorem g_129_139 : GO x d 129 Q 139 [v0, v1, v2] (.inr (.inr (.inl r)) :: st) I J = (okF r 10 3 ∧ GO x d 129 Q 142 [v0, v1, v2] (.inr (.inr (.inl (rfN r 3))) :: st) I J) := (ge (A := (39, 142, 10, 3, 0)) rfl).trans (gref (f := fun q => GO x d 129 Q 142 [v0, v1, v2] (.inr (.inr (.inl q)) :: st) I J))
set_option maxRecDepth 10000 in
theorem g_129_142 : GO x d 129 Q 142 [v0, v1, v2] st I J = GO x d 129 Q 144 [v0, v1, v2] (.inl (8) :: st) I J := ge (A := (0, 144, 0, 0, 8)) rfl
set_option maxRecDepth 10000 in
theorem g_129_144 : GO x d 129 Q 144 [v0, v1, some (.inl a)] st I J = GO x d 129 Q 145 [v0, v1, some (.inl a)] (.inl a :: st) I J := ge (A := (1, 145, 2, 0, 0)) rfl
set_option maxRecDepth 10000 in
theorem g_129_145 : GO x d 129 Q 145 [v0, v1, v2] (.inl b :: .inl a :: st) I J = GO x d 129 Q 146 [v0, v1, v2] (.inl (a + b) :: st) I J := ge (A := (8, 146, 0, 0, 0)) rfl
set_option maxRecDepth 10000 in
theorem g_129_146 : GO x d 129 Q 146 [v0, some (.inl a), v2] st I J = GO x d 129 Q 147 [v0, some (.inl a), v2] (.inl a :: st) I J := ge (A := (1, 147, 1, 0, 0)) rfl
set_option maxRecDepth 10000 in
theorem g_129_147 : GO x d 129 Q 147 [v0, v1, v2] (.inl b :: .inl a :: .inr (.inr (.inl r)) :: st) I J = (okA r 20 ∧ 0 ≤ a ∧ a < lnN r ∧ GO x d 129 Q 148 [v0, v1, v2] st (up I r a b) J) := ge (A := (45, 148, 0, 0, 0)) rfl
set_option maxRecDepth 10000 in
theorem g_129_148 : GO x d 129 Q 148 [some (.inr (.inr w)), v1, v2] st I J = GO x d 129 Q 149 [some (.inr (.inr w)), v1, v2] (.inr (.inr w) :: st) I J := ge (A := (2, 149, 0, 0, 0)) rfl
set_option maxRecDepth 10000 in
theorem g_129_149 : GO x d 129 Q 149 [v0, v1, v2] st I J = GO x d 129 Q 151 [v0, v1, v2] (.inl (16) :: st) I J := ge (A := (0, 151, 0, 0, 16)) rfl
set_option maxRecDepth 10000 in
theorem g_129_151 : GO x d 129 Q 151 [v0, v1, some (.inl a)] st I J = GO x d 129 Q 152 [v0, v1, some (.inl a)] (.inl a :: st) I J := ge (A := (1, 152, 2, 0, 0)) rfl
set_option maxRecDepth 10000 in
theorem g_129_152 : GO x d 129 Q 152 [v0, v1, v2] (.inl b :: .inl a :: st) I J = GO x d 129 Q 153 [v0, v1, v2] (.inl (a + b) :: st) I J := ge (A := (8, 153, 0, 0, 0)) rfl
set_option maxRecDepth 10000 in
theorem g_129_153 : GO x d 129 Q 153 [v0, v1, v2] st I J = GO x d 129 Q 154 [v0, v1, v2] (.inl (0) :: st) I J := ge (A := (0, 154, 0, 0, 0)) rfl
set_option maxRecDepth 10000 in
theorem g_129_154 : GO x d 129 Q 154 [v0, v1, v2] st I J = GO x d 129 Q 155 [v0, v1, v2] (.inl (3) :: st) I J := ge (A := (0, 155, 0, 0, 3)) rfl
set_option maxRecDepth 10000 in
theorem g_129_155 : GO x d 129 Q 155 [v0, v1, v2] [.inl i0, .inl i1, .inl i2, .inr (.inr (.inl r))] I J = (okO r 10 ∧ EX x d 124 [.inr (.inr (.inl r)), .inl i2, .inl i1, .inl i0] I J (fun r1 I1 J1 => GO x d 129 Q 158 [v0, v1, v2] (r1.toList ++ []) I1 J1)) := (ge (A := (53, 158, 124, 3, 0)) rfl).trans (gtrue (Nat.le_of_ble_eq_true rfl))
set_option maxRecDepth 10000 in
theorem g_129_158 : GO x d 129 Q 158 [v0, v1, v2] (.inl a :: st) I J = (inR a ∧ if a = 0 then GO x d 129 Q 170 [v0, v1, v2] st I J else GO x d 129 Q 161 [v0, v1, v2] st I J) := (ge (A := (33, 161, 170, 0, 0)) rfl).trans (gif (p := a = 0) inferInstance)
set_option maxRecDepth 10000 in
theorem g_129_161 : GO x d 129 Q 161 [some (.inr (.inr w)), v1, v2] st I J = GO x d 129 Q 162 [some (.inr (.inr w)), v1, v2] (.inr (.inr w) :: st) I J := ge (A := (2, 162, 0, 0, 0)) rfl
set_option maxRecDepth 10000 in
theorem g_129_162 : GO x d 129 Q 162 [v0, v1, v2] st I J = GO x d 129 Q 164 [v0, v1, v2] (.inl (59) :: st) I J := ge (A := (0, 164, 0, 0, 59)) rfl
set_option maxRecDepth 10000 in
theorem g_129_164 : GO x d 129 Q 164 [v0, v1, v2] [.inl i0, .inr (.inr (.inl r))] I J = (okO r 10 ∧ EX x d 125 [.inr (.inr (.inl r)), .inl i0] I J (fun r1 I1 J1 => GO x d 129 Q 167 [v0, v1, v2] (r1.toList ++ []) I1 J1)) := (ge (A := (53, 167, 125, 1, 0)) rfl).trans (gtrue (Nat.le_of_ble_eq_true rfl))
set_option maxRecDepth 10000 in
theorem g_129_167 : GO x d 129 Q 167 [v0, v1, v2] (.inl a :: st) I J = (inR a ∧ if a = 0 then GO x d 129 Q 170 [v0, v1, v2] st I J else GO x d 129 Q 172 [v0, v1, v2] st I J) := (ge (A := (33, 170, 172, 1, 0)) rfl).trans (gifn (p := a = 0) inferInstance)
set_option maxRecDepth 10000 in
theorem g_129_170 : GO x d 129 Q 170 [v0, v1, v2] st I J = GO x d 129 Q 171 [v0, v1, v2] (.inl (0) :: st) I J := ge (A := (0, 171, 0, 0, 0)) rfl
set_option maxRecDepth 10000 in
theorem g_129_171 : GO x d 129 Q 171 [v0, v1, v2] [.inl a] I J = (ret01 a ∧ Q (some (.inl a)) I J) := ge (A := (56, 172, 0, 0, 0)) rfl
set_option maxRecDepth 10000 in
theorem g_129_172 : GO x d 129 Q 172 [some (.inr (.inr w)), v1, v2] st I J = GO x d 129 Q 173 [some (.inr (.inr w)), v1, v2] (.inr (.inr w) :: st) I J := ge (A := (2, 173, 0, 0, 0)) rfl
set_option maxRecDepth 10000 in
theorem g_129_173 : GO x d 129 Q 173 [v0, v1, v2] (.inr (.inr (.inl r)) :: st) I J = (okF r 10 3 ∧ GO x d 129 Q 176 [v0, v1, v2] (.inr (.inr (.inl (rfN r 3))) :: st) I J) := (ge (A := (39, 176, 10, 3, 0)) rfl).trans (gref (f := fun q => GO x d 129 Q 176 [v0, v1, v2] (.inr (.inr (.inl q)) :: st) I J))
set_option maxRecDepth 10000 in
theorem g_129_176 : GO x d 129 Q 176 [v0, v1, v2] st I J = GO x d 129 Q 177 [v0, v1, v2] (.inl (1) :: st) I J := ge (A := (0, 177, 0, 0, 1)) rfl
set_option maxRecDepth 10000 in
theorem g_129_177 : GO x d 129 Q 177 [v0, v1, v2] (.inl a :: .inr (.inr w) :: st) I J = GO x d 129 Q 178 [v0, v1, v2] (.inl a :: .inr (.inr w) :: .inl a :: .inr (.inr w) :: st) I J := ge (A := (32, 178, 0, 0, 0)) rfl
set_option maxRecDepth 10000 in
theorem h_129_178 : GO x d 129 Q 178 [v0, v1, v2] (.inl a :: .inr (.inr (.inr q)) :: st) I J = (q < 4 ∧ 0 ≤ a ∧ a < (roA x q).1 ∧ GO x d 129 Q 179 [v0, v1, v2] (.inl ((roA x q).2 a.toNat) :: st) I J) := ge (A := (44, 179, 0, 0, 0)) rfl
set_option maxRecDepth 10000 in
theorem g_129_178 : GO x d 129 Q 178 [v0, v1, v2] (.inl a :: .inr (.inr (.inl r)) :: st) I J = (okA r 20 ∧ 0 ≤ a ∧ a < lnN r ∧ GO x d 129 Q 179 [v0, v1, v2] (.inl (I r a) :: st) I J) := ge (A := (44, 179, 0, 0, 0)) rfl
set_option maxRecDepth 10000 in
theorem g_129_179 : GO x d 129 Q 179 [v0, v1, v2] st I J = GO x d 129 Q 180 [v0, v1, v2] (.inl (1) :: st) I J := ge (A := (0, 180, 0, 0, 1)) rfl
set_option maxRecDepth 10000 in
theorem g_129_180 : GO x d 129 Q 180 [v0, v1, v2] (.inl b :: .inl a :: st) I J = GO x d 129 Q 181 [v0, v1, v2] (.inl (a + b) :: st) I J := ge (A := (8, 181, 0, 0, 0)) rfl
set_option maxRecDepth 10000 in
theorem g_129_181 : GO x d 129 Q 181 [v0, v1, v2] (.inl b :: .inl a :: .inr (.inr (.inl r)) :: st) I J = (okA r 20 ∧ 0 ≤ a ∧ a < lnN r ∧ GO x d 129 Q 182 [v0, v1, v2] st (up I r a b) J) := ge (A := (45, 182, 0, 0, 0)) rfl
set_option maxRecDepth 10000 in
theorem g_129_182 : GO x d 129 Q 182 [v0, v1, v2] st I J = GO x d 129 Q 183 [v0, v1, v2] (.inl (1) :: st) I J := ge (A := (0, 183, 0, 0, 1)) rfl
set_option maxRecDepth 10000 in
theorem g_129_183 : GO x d 129 Q 183 [v0, v1, v2] [.inl a] I J = (ret01 a ∧ Q (some (.inl a)) I J) := ge (A := (56, 184, 0, 0, 0)) rfl
set_option maxRecDepth 10000 in
theorem e_129 : EX x (d + 1) 129 [.inr (.inr w0)] I J Q = GO x d 129 Q 0 [some (.inr (.inr w0)), none, none] [] I J := ex_eq (Nat.le_of_ble_eq_true rfl) rfl (Nat.le_of_ble_eq_true rfl) rfl
set_option maxRecDepth 10000 in
theorem g_130_0 : GO x d 130 Q 0 [some (.inr (.inr w))] st I J = GO x d 130 Q 1 [some (.inr (.inr w))] (.inr (.inr w) :: st) I J := ge (A := (2, 1, 0, 0, 0)) rfl
set_option maxRecDepth 10000 in
theorem g_130_1 : GO x d 130 Q 1 [v0] [.inr (.inr (.inl r))] I J = (okO r 10 ∧ EX x d 126 [.inr (.inr (.inl r))] I J (fun r1 I1 J1 => GO x d 130 Q 4 [v0] (r1.toList ++ []) I1 J1)) := (ge (A := (53, 4, 126, 0, 0)) rfl).trans (gtrue (Nat.le_of_ble_eq_true rfl))
set_option maxRecDepth 10000 in
theorem g_130_4 : GO x d 130 Q 4 [some (.inr (.inr w))] st I J = GO x d 130 Q 5 [some (.inr (.inr w))] (.inr (.inr w) :: st) I J := ge (A := (2, 5, 0, 0, 0)) rfl
set_option maxRecDepth 10000 in
theorem g_130_5 : GO x d 130 Q 5 [v0] (.inr (.inr (.inl r)) :: st) I J = (okF r 10 3 ∧ GO x d 130 Q 8 [v0] (.inr (.inr (.inl (rfN r 3))) :: st) I J) := (ge (A := (39, 8, 10, 3, 0)) rfl).trans (gref (f := fun q => GO x d 130 Q 8 [v0] (.inr (.inr (.inl q)) :: st) I J))
set_option maxRecDepth 10000 in
theorem g_130_8 : GO x d 130 Q 8 [v0] st I J = GO x d 130 Q 9 [v0] (.inl (0) :: st) I J := ge (A := (0, 9, 0, 0, 0)) rfl
set_option maxRecDepth 10000 in
theorem g_130_9 : GO x d 130 Q 9 [v0] st I J = GO x d 130 Q 10 [v0] (.inl (1) :: st) I J := ge (A := (0, 10, 0, 0, 1)) rfl
set_option maxRecDepth 10000 in
theorem g_130_10 : GO x d 130 Q 10 [v0] (.inl b :: .inl a :: .inr (.inr (.inl r)) :: st) I J = (okA r 20 ∧ 0 ≤ a ∧ a < lnN r ∧ GO x d 130 Q 11 [v0] st (up I r a b) J) := ge (A := (45, 11, 0, 0, 0)) rfl
set_option maxRecDepth 10000 in
theorem g_130_11 : GO x d 130 Q 11 [some (.inr (.inr w))] st I J = GO x d 130 Q 12 [some (.inr (.inr w))] (.inr (.inr w) :: st) I J := ge (A := (2, 12, 0, 0, 0)) rfl
set_option maxRecDepth 10000 in
theorem g_130_12 : GO x d 130 Q 12 [v0] st I J = GO x d 130 Q 13 [v0] (.inl (0) :: st) I J := ge (A := (0, 13, 0, 0, 0)) rfl
set_option maxRecDepth 10000 in
theorem g_130_13 : GO x d 130 Q 13 [v0] (.inl a :: .inr (.inr (.inl r)) :: st) I J = (okO r 10 ∧ GO x d 130 Q 16 [v0] st (up I r 15 a) J) := ge (A := (40, 16, 10, 15, 0)) rfl
set_option maxRecDepth 10000 in
theorem g_130_16 : GO x d 130 Q 16 [some (.inr (.inr w))] st I J = GO x d 130 Q 17 [some (.inr (.inr w))] (.inr (.inr w) :: st) I J := ge (A := (2, 17, 0, 0, 0)) rfl
set_option maxRecDepth 10000 in
theorem g_130_17 : GO x d 130 Q 17 [v0] [.inr (.inr (.inl r))] I J = (okO r 10 ∧ EX x d 127 [.inr (.inr (.inl r))] I J (fun r1 I1 J1 => GO x d 130 Q 20 [v0] (r1.toList ++ []) I1 J1)) := (ge (A := (53, 20, 127, 0, 0)) rfl).trans (gtrue (Nat.le_of_ble_eq_true rfl))
set_option maxRecDepth 10000 in
theorem g_130_20 : GO x d 130 Q 20 [v0] (.inl a :: st) I J = (inR a ∧ if a = 0 then GO x d 130 Q 23 [v0] st I J else GO x d 130 Q 25 [v0] st I J) := (ge (A := (33, 23, 25, 1, 0)) rfl).trans (gifn (p := a = 0) inferInstance)
set_option maxRecDepth 10000 in
theorem g_130_23 : GO x d 130 Q 23 [v0] st I J = GO x d 130 Q 24 [v0] (.inl (0) :: st) I J := ge (A := (0, 24, 0, 0, 0)) rfl
set_option maxRecDepth 10000 in
theorem g_130_24 : GO x d 130 Q 24 [v0] [.inl a] I J = (ret01 a ∧ Q (some (.inl a)) I J) := ge (A := (56, 25, 0, 0, 0)) rfl
set_option maxRecDepth 10000 in
theorem g_130_25 : GO x d 130 Q 25 [some (.inr (.inr w))] st I J = GO x d 130 Q 26 [some (.inr (.inr w))] (.inr (.inr w) :: st) I J := ge (A := (2, 26, 0, 0, 0)) rfl
set_option maxRecDepth 10000 in
theorem g_130_26 : GO x d 130 Q 26 [v0] [.inr (.inr (.inl r))] I J = (okO r 10 ∧ EX x d 122 [.inr (.inr (.inl r))] I J (fun r1 I1 J1 => GO x d 130 Q 29 [v0] (r1.toList ++ []) I1 J1)) := (ge (A := (53, 29, 122, 0, 0)) rfl).trans (gtrue (Nat.le_of_ble_eq_true rfl))
set_option maxRecDepth 10000 in
theorem g_130_29 : GO x d 130 Q 29 [some (.inr (.inr w))] st I J = GO x d 130 Q 30 [some (.inr (.inr w))] (.inr (.inr w) :: st) I J := ge (A := (2, 30, 0, 0, 0)) rfl
set_option maxRecDepth 10000 in
theorem g_130_30 : GO x d 130 Q 30 [v0] (.inr (.inr (.inl r)) :: st) I J = (okO r 10 ∧ GO x d 130 Q 33 [v0] (.inl (I r 16) :: st) I J) := ge (A := (37, 33, 10, 16, 0)) rfl
set_option maxRecDepth 10000 in
theorem g_130_33 : GO x d 130 Q 33 [v0] (.inl a :: st) I J = (inR a ∧ if a = 0 then GO x d 130 Q 52 [v0] st I J else GO x d 130 Q 36 [v0] st I J) := (ge (A := (33, 36, 52, 0, 0)) rfl).trans (gif (p := a = 0) inferInstance)
set_option maxRecDepth 10000 in
theorem g_130_36 : GO x d 130 Q 36 [some (.inr (.inr w))] st I J = GO x d 130 Q 37 [some (.inr (.inr w))] (.inr (.inr w) :: st) I J := ge (A := (2, 37, 0, 0, 0)) rfl
set_option maxRecDepth 10000 in
theorem g_130_37 : GO x d 130 Q 37 [v0] [.inr (.inr (.inl r))] I J = (okO r 10 ∧ EX x d 129 [.inr (.inr (.inl r))] I J (fun r1 I1 J1 => GO x d 130 Q 40 [v0] (r1.toList ++ []) I1 J1)) := (ge (A := (53, 40, 129, 0, 0)) rfl).trans (gtrue (Nat.le_of_ble_eq_true rfl))
set_option maxRecDepth 10000 in
theorem g_130_40 : GO x d 130 Q 40 [v0] (.inl a :: st) I J = (inR a ∧ if a = 0 then GO x d 130 Q 43 [v0] st I J else GO x d 130 Q 45 [v0] st I J) := (ge (A := (33, 43, 45, 1, 0)) rfl).trans (gifn (p := a = 0) inferInstance)
set_option maxRecDepth 10000 in
theorem g_130_43 : GO x d 130 Q 43 [v0] st I J = GO x d 130 Q 44 [v0] (.inl (0) :: st) I J := ge (A := (0, 44, 0, 0, 0)) rfl
set_option maxRecDepth 10000 in
theorem g_130_44 : GO x d 130 Q 44 [v0] [.inl a] I J = (ret01 a ∧ Q (some (.inl a)) I J) := ge (A := (56, 45, 0, 0, 0)) rfl
set_option maxRecDepth 10000 in
theorem g_130_45 : GO x d 130 Q 45 [some (.inr (.inr w))] st I J = GO x d 130 Q 46 [some (.inr (.inr w))] (.inr (.inr w) :: st) I J := ge (A := (2, 46, 0, 0, 0)) rfl
set_option maxRecDepth 10000 in
theorem g_130_46 : GO x d 130 Q 46 [v0] [.inr (.inr (.inl r))] I J = (okO r 10 ∧ EX x d 122 [.inr (.inr (.inl r))] I J (fun r1 I1 J1 => GO x d 130 Q 49 [v0] (r1.toList ++ []) I1 J1)) := (ge (A := (53, 49, 122, 0, 0)) rfl).trans (gtrue (Nat.le_of_ble_eq_true rfl))
set_option maxRecDepth 10000 in
theorem g_130_49 : GO x d 130 Q 49 [v0] st I J = GO x d 130 Q 29 [v0] st I J := ge (A := (35, 52, 29, 0, 0)) rfl
set_option maxRecDepth 10000 in
theorem g_130_52 : GO x d 130 Q 52 [v0] st I J = GO x d 130 Q 53 [v0] (.inl (1) :: st) I J := ge (A := (0, 53, 0, 0, 1)) rfl
set_option maxRecDepth 10000 in
theorem g_130_53 : GO x d 130 Q 53 [v0] [.inl a] I J = (ret01 a ∧ Q (some (.inl a)) I J) := ge (A := (56, 54, 0, 0, 0)) rfl
set_option maxRecDepth 10000 in
theorem e_130 : EX x (d + 1) 130 [.inr (.inr w0)] I J Q = GO x d 130 Q 0 [some (.inr (.inr w0))] [] I J := ex_eq (Nat.le_of_ble_eq_true rfl) rfl (Nat.le_of_ble_eq_true rfl) rfl
set_option maxRecDepth 10000 in
theorem g_131_0 : GO x d 131 Q 0 [some (.inr (.inr w)), v1, v2] st I J = GO x d 131 Q 1 [some (.inr (.inr w)), v1, v2] (.inr (.inr w) :: st) I J := ge (A := (2, 1, 0, 0, 0)) rfl
set_option maxRecDepth 10000 in
theorem g_131_1 : GO x d 131 Q 1 [v0, v1, v2] [.inr (.inr (.inl r))] I J = (okO r 10 ∧ EX x d 130 [.inr (.inr (.inl r))] I J (fun r1 I1 J1 => GO x d 131 Q 4 [v0, v1, v2] (r1.toList ++ []) I1 J1)) := (ge (A := (53, 4, 130, 0, 0)) rfl).trans (gtrue (Nat.le_of_ble_eq_true rfl))
set_option maxRecDepth 10000 in
theorem g_131_4 : GO x d 131 Q 4 [v0, v1, v2] (.inl a :: st) I J = (nlO (some v0) = true ∧ GO x d 131 Q 5 [v0, some (.inl a), v2] st I J) := (ge (A := (4, 5, 1, 0, 0)) rfl).trans (gst (Nat.le_of_ble_eq_true rfl) _)
set_option maxRecDepth 10000 in
theorem g_131_5 : GO x d 131 Q 5 [some (.inr (.inr w)), v1, v2] st I J = GO x d 131 Q 6 [some (.inr (.inr w)), v1, v2] (.inr (.inr w) :: st) I J := ge (A := (2, 6, 0, 0, 0)) rfl
set_option maxRecDepth 10000 in
theorem g_131_6 : GO x d 131 Q 6 [v0, v1, v2] st I J = GO x d 131 Q 7 [v0, v1, v2] (.inl (0) :: st) I J := ge (A := (0, 7, 0, 0, 0)) rfl
set_option maxRecDepth 10000 in
theorem g_131_7 : GO x d 131 Q 7 [v0, v1, v2] (.inl a :: .inr (.inr (.inl r)) :: st) I J = (okO r 10 ∧ GO x d 131 Q 10 [v0, v1, v2] st (up I r 1 a) J) := ge (A := (40, 10, 10, 1, 0)) rfl
set_option maxRecDepth 10000 in
theorem g_131_10 : GO x d 131 Q 10 [v0, some (.inl a), v2] st I J = GO x d 131 Q 11 [v0, some (.inl a), v2] (.inl a :: st) I J := ge (A := (1, 11, 1, 0, 0)) rfl
set_option maxRecDepth 10000 in
theorem g_131_11 : GO x d 131 Q 11 [v0, v1, v2] (.inl a :: st) I J = (inR a ∧ if a = 0 then GO x d 131 Q 14 [v0, v1, v2] st I J else GO x d 131 Q 30 [v0, v1, v2] st I J) := (ge (A := (33, 14, 30, 1, 0)) rfl).trans (gifn (p := a = 0) inferInstance)
set_option maxRecDepth 10000 in
theorem g_131_14 : GO x d 131 Q 14 [some (.inr (.inr w)), v1, v2] st I J = GO x d 131 Q 15 [some (.inr (.inr w)), v1, v2] (.inr (.inr w) :: st) I J := ge (A := (2, 15, 0, 0, 0)) rfl
set_option maxRecDepth 10000 in
theorem g_131_15 : GO x d 131 Q 15 [some (.inr (.inr w)), v1, v2] st I J = GO x d 131 Q 16 [some (.inr (.inr w)), v1, v2] (.inr (.inr w) :: st) I J := ge (A := (2, 16, 0, 0, 0)) rfl
set_option maxRecDepth 10000 in
theorem g_131_16 : GO x d 131 Q 16 [v0, v1, v2] (.inr (.inr (.inl r)) :: st) I J = (okO r 10 ∧ GO x d 131 Q 19 [v0, v1, v2] (.inl (I r 19) :: st) I J) := ge (A := (37, 19, 10, 19, 0)) rfl
set_option maxRecDepth 10000 in
theorem g_131_19 : GO x d 131 Q 19 [v0, v1, v2] (.inl a :: .inr (.inr (.inl r)) :: st) I J = (okO r 10 ∧ GO x d 131 Q 22 [v0, v1, v2] st (up I r 14 a) J) := ge (A := (40, 22, 10, 14, 0)) rfl
set_option maxRecDepth 10000 in
theorem g_131_22 : GO x d 131 Q 22 [v0, v1, v2] st I J = GO x d 131 Q 24 [v0, v1, v2] (.inl (-1000100) :: st) I J := ge (A := (0, 24, 0, 0, -1000100)) rfl
set_option maxRecDepth 10000 in
theorem g_131_24 : GO x d 131 Q 24 [some (.inr (.inr w)), v1, v2] st I J = GO x d 131 Q 25 [some (.inr (.inr w)), v1, v2] (.inr (.inr w) :: st) I J := ge (A := (2, 25, 0, 0, 0)) rfl
set_option maxRecDepth 10000 in
theorem g_131_25 : GO x d 131 Q 25 [v0, v1, v2] (.inr (.inr (.inl r)) :: st) I J = (okO r 10 ∧ GO x d 131 Q 28 [v0, v1, v2] (.inl (I r 17) :: st) I J) := ge (A := (37, 28, 10, 17, 0)) rfl
set_option maxRecDepth 10000 in
theorem g_131_28 : GO x d 131 Q 28 [v0, v1, v2] (.inl b :: .inl a :: st) I J = GO x d 131 Q 29 [v0, v1, v2] (.inl (a - b) :: st) I J := ge (A := (9, 29, 0, 0, 0)) rfl
set_option maxRecDepth 10000 in
theorem g_131_29 : GO x d 131 Q 29 [v0, v1, v2] [.inl a] I J = Q (some (.inl a)) I J := ge (A := (55, 30, 0, 0, 0)) rfl
set_option maxRecDepth 10000 in
theorem g_131_30 : GO x d 131 Q 30 [v0, v1, v2] st I J = GO x d 131 Q 31 [v0, v1, v2] (.inl (0) :: st) I J := ge (A := (0, 31, 0, 0, 0)) rfl
set_option maxRecDepth 10000 in
theorem g_131_31 : GO x d 131 Q 31 [v0, v1, v2] (.inl a :: st) I J = (nlO (some v1) = true ∧ GO x d 131 Q 32 [v0, v1, some (.inl a)] st I J) := (ge (A := (4, 32, 2, 0, 0)) rfl).trans (gst (Nat.le_of_ble_eq_true rfl) _)
set_option maxRecDepth 10000 in
theorem g_131_32 : GO x d 131 Q 32 [v0, v1, some (.inl a)] st I J = GO x d 131 Q 33 [v0, v1, some (.inl a)] (.inl a :: st) I J := ge (A := (1, 33, 2, 0, 0)) rfl
set_option maxRecDepth 10000 in
theorem g_131_33 : GO x d 131 Q 33 [v0, v1, v2] st I J = GO x d 131 Q 35 [v0, v1, v2] (.inl (53) :: st) I J := ge (A := (0, 35, 0, 0, 53)) rfl
set_option maxRecDepth 10000 in
theorem g_131_35 : GO x d 131 Q 35 [v0, v1, v2] (.inl b :: .inl a :: st) I J = (inR a ∧ inR b ∧ if a < b then GO x d 131 Q 38 [v0, v1, v2] st I J else GO x d 131 Q 56 [v0, v1, v2] st I J) := (ge (A := (34, 38, 56, 3, 0)) rfl).trans (ggec)
set_option maxRecDepth 10000 in
theorem g_131_38 : GO x d 131 Q 38 [some (.inr (.inr w)), v1, v2] st I J = GO x d 131 Q 39 [some (.inr (.inr w)), v1, v2] (.inr (.inr w) :: st) I J := ge (A := (2, 39, 0, 0, 0)) rfl
set_option maxRecDepth 10000 in
theorem g_131_39 : GO x d 131 Q 39 [v0, v1, v2] (.inr (.inr (.inl r)) :: st) I J = (okF r 10 2 ∧ GO x d 131 Q 42 [v0, v1, v2] (.inr (.inr (.inl (rfN r 2))) :: st) I J) := (ge (A := (39, 42, 10, 2, 0)) rfl).trans (gref (f := fun q => GO x d 131 Q 42 [v0, v1, v2] (.inr (.inr (.inl q)) :: st) I J))
set_option maxRecDepth 10000 in
theorem g_131_42 : GO x d 131 Q 42 [v0, v1, some (.inl a)] st I J = GO x d 131 Q 43 [v0, v1, some (.inl a)] (.inl a :: st) I J := ge (A := (1, 43, 2, 0, 0)) rfl
set_option maxRecDepth 10000 in
theorem g_131_43 : GO x d 131 Q 43 [some (.inr (.inr w)), v1, v2] st I J = GO x d 131 Q 44 [some (.inr (.inr w)), v1, v2] (.inr (.inr w) :: st) I J := ge (A := (2, 44, 0, 0, 0)) rfl
set_option maxRecDepth 10000 in
theorem g_131_44 : GO x d 131 Q 44 [v0, v1, v2] (.inr (.inr (.inl r)) :: st) I J = (okF r 10 3 ∧ GO x d 131 Q 47 [v0, v1, v2] (.inr (.inr (.inl (rfN r 3))) :: st) I J) := (ge (A := (39, 47, 10, 3, 0)) rfl).trans (gref (f := fun q => GO x d 131 Q 47 [v0, v1, v2] (.inr (.inr (.inl q)) :: st) I J))
set_option maxRecDepth 10000 in
theorem g_131_47 : GO x d 131 Q 47 [v0, v1, some (.inl a)] st I J = GO x d 131 Q 48 [v0, v1, some (.inl a)] (.inl a :: st) I J := ge (A := (1, 48, 2, 0, 0)) rfl
set_option maxRecDepth 10000 in
theorem h_131_48 : GO x d 131 Q 48 [v0, v1, v2] (.inl a :: .inr (.inr (.inr q)) :: st) I J = (q < 4 ∧ 0 ≤ a ∧ a < (roA x q).1 ∧ GO x d 131 Q 49 [v0, v1, v2] (.inl ((roA x q).2 a.toNat) :: st) I J) := ge (A := (44, 49, 0, 0, 0)) rfl
set_option maxRecDepth 10000 in
theorem g_131_48 : GO x d 131 Q 48 [v0, v1, v2] (.inl a :: .inr (.inr (.inl r)) :: st) I J = (okA r 20 ∧ 0 ≤ a ∧ a < lnN r ∧ GO x d 131 Q 49 [v0, v1, v2] (.inl (I r a) :: st) I J) := ge (A := (44, 49, 0, 0, 0)) rfl
set_option maxRecDepth 10000 in
theorem g_131_49 : GO x d 131 Q 49 [v0, v1, v2] (.inl b :: .inl a :: .inr (.inr (.inl r)) :: st) I J = (okA r 20 ∧ 0 ≤ a ∧ a < lnN r ∧ GO x d 131 Q 50 [v0, v1, v2] st (up I r a b) J) := ge (A := (45, 50, 0, 0, 0)) rfl
set_option maxRecDepth 10000 in
theorem g_131_50 : GO x d 131 Q 50 [v0, v1, some (.inl a)] st I J = (nlO (some v1) = true ∧ GO x d 131 Q 53 [v0, v1, some (.inl (a + (1)))] st I J) := ge (A := (7, 53, 2, 0, 1)) rfl
set_option maxRecDepth 10000 in
theorem g_131_53 : GO x d 131 Q 53 [v0, v1, v2] st I J = GO x d 131 Q 32 [v0, v1, v2] st I J := ge (A := (35, 56, 32, 0, 0)) rfl
set_option maxRecDepth 10000 in
theorem g_131_56 : GO x d 131 Q 56 [some (.inr (.inr w)), v1, v2] st I J = GO x d 131 Q 57 [some (.inr (.inr w)), v1, v2] (.inr (.inr w) :: st) I J := ge (A := (2, 57, 0, 0, 0)) rfl
set_option maxRecDepth 10000 in
theorem g_131_57 : GO x d 131 Q 57 [v0, v1, v2] st I J = GO x d 131 Q 58 [v0, v1, v2] (.inl (0) :: st) I J := ge (A := (0, 58, 0, 0, 0)) rfl
set_option maxRecDepth 10000 in
theorem g_131_58 : GO x d 131 Q 58 [v0, v1, v2] (.inl a :: .inr (.inr (.inl r)) :: st) I J = (okO r 10 ∧ GO x d 131 Q 61 [v0, v1, v2] st (up I r 5 a) J) := ge (A := (40, 61, 10, 5, 0)) rfl
set_option maxRecDepth 10000 in
theorem g_131_61 : GO x d 131 Q 61 [some (.inr (.inr w)), v1, v2] st I J = GO x d 131 Q 62 [some (.inr (.inr w)), v1, v2] (.inr (.inr w) :: st) I J := ge (A := (2, 62, 0, 0, 0)) rfl
set_option maxRecDepth 10000 in
theorem g_131_62 : GO x d 131 Q 62 [v0, v1, v2] (.inr (.inr (.inl r)) :: st) I J = (okF r 10 2 ∧ GO x d 131 Q 65 [v0, v1, v2] (.inr (.inr (.inl (rfN r 2))) :: st) I J) := (ge (A := (39, 65, 10, 2, 0)) rfl).trans (gref (f := fun q => GO x d 131 Q 65 [v0, v1, v2] (.inr (.inr (.inl q)) :: st) I J))
set_option maxRecDepth 10000 in
theorem g_131_65 : GO x d 131 Q 65 [v0, v1, v2] st I J = GO x d 131 Q 66 [v0, v1, v2] (.inl (2) :: st) I J := ge (A := (0, 66, 0, 0, 2)) rfl
set_option maxRecDepth 10000 in
theorem h_131_66 : GO x d 131 Q 66 [v0, v1, v2] (.inl a :: .inr (.inr (.inr q)) :: st) I J = (q < 4 ∧ 0 ≤ a ∧ a < (roA x q).1 ∧ GO x d 131 Q 67 [v0, v1, v2] (.inl ((roA x q).2 a.toNat) :: st) I J) := ge (A := (44, 67, 0, 0, 0)) rfl
set_option maxRecDepth 10000 in
theorem g_131_66 : GO x d 131 Q 66 [v0, v1, v2] (.inl a :: .inr (.inr (.inl r)) :: st) I J = (okA r 20 ∧ 0 ≤ a ∧ a < lnN r ∧ GO x d 131 Q 67 [v0, v1, v2] (.inl (I r a) :: st) I J) := ge (A := (44, 67, 0, 0, 0)) rfl
set_option maxRecDepth 10000 in
theorem g_131_67 : GO x d 131 Q 67 [v0, v1, v2] [.inl a] I J = Q (some (.inl a)) I J := ge (A := (55, 68, 0, 0, 0)) rfl
set_option maxRecDepth 10000 in
theorem e_131 : EX x (d + 1) 131 [.inr (.inr w0)] I J Q = GO x d 131 Q 0 [some (.inr (.inr w0)), none, none] [] I J := ex_eq (Nat.le_of_ble_eq_true rfl) rfl (Nat.le_of_ble_eq_true rfl) rfl
set_option maxRecDepth 10000 in
theorem g_132_0 : GO x d 132 Q 0 [some (.inr (.inr w))] st I J = GO x d 132 Q 1 [some (.inr (.inr w))] (.inr (.inr w) :: st) I J := ge (A := (2, 1, 0, 0, 0)) rfl
set_option maxRecDepth 10000 in
theorem g_132_1 : GO x d 132 Q 1 [v0] (.inr (.inr (.inl r)) :: st) I J = (okO r 10 ∧ GO x d 132 Q 4 [v0] (.inl (I r 14) :: st) I J) := ge (A := (37, 4, 10, 14, 0)) rfl
set_option maxRecDepth 10000 in
theorem g_132_4 : GO x d 132 Q 4 [v0] [.inl a] I J = Q (some (.inl a)) I J := ge (A := (55, 5, 0, 0, 0)) rfl
set_option maxRecDepth 10000 in
theorem e_132 : EX x (d + 1) 132 [.inr (.inr w0)] I J Q = GO x d 132 Q 0 [some (.inr (.inr w0))] [] I J := ex_eq (Nat.le_of_ble_eq_true rfl) rfl (Nat.le_of_ble_eq_true rfl) rfl
set_option maxRecDepth 10000 in
theorem g_133_0 : GO x d 133 Q 0 [some (.inr (.inr w)), v1] st I J = GO x d 133 Q 1 [some (.inr (.inr w)), v1] (.inr (.inr w) :: st) I J := ge (A := (2, 1, 0, 0, 0)) rfl
set_option maxRecDepth 10000 in
theorem g_133_1 : GO x d 133 Q 1 [v0, v1] (.inr (.inr (.inl r)) :: st) I J = (okF r 10 2 ∧ GO x d 133 Q 4 [v0, v1] (.inr (.inr (.inl (rfN r 2))) :: st) I J) := (ge (A := (39, 4, 10, 2, 0)) rfl).trans (gref (f := fun q => GO x d 133 Q 4 [v0, v1] (.inr (.inr (.inl q)) :: st) I J))
set_option maxRecDepth 10000 in
theorem g_133_4 : GO x d 133 Q 4 [v0, v1] st I J = GO x d 133 Q 6 [v0, v1] (.inl (8) :: st) I J := ge (A := (0, 6, 0, 0, 8)) rfl
set_option maxRecDepth 10000 in
theorem g_133_6 : GO x d 133 Q 6 [v0, some (.inl a)] st I J = GO x d 133 Q 7 [v0, some (.inl a)] (.inl a :: st) I J := ge (A := (1, 7, 1, 0, 0)) rfl
set_option maxRecDepth 10000 in
theorem g_133_7 : GO x d 133 Q 7 [v0, v1] (.inl b :: .inl a :: st) I J = GO x d 133 Q 8 [v0, v1] (.inl (a + b) :: st) I J := ge (A := (8, 8, 0, 0, 0)) rfl
set_option maxRecDepth 10000 in
theorem h_133_8 : GO x d 133 Q 8 [v0, v1] (.inl a :: .inr (.inr (.inr q)) :: st) I J = (q < 4 ∧ 0 ≤ a ∧ a < (roA x q).1 ∧ GO x d 133 Q 9 [v0, v1] (.inl ((roA x q).2 a.toNat) :: st) I J) := ge (A := (44, 9, 0, 0, 0)) rfl
set_option maxRecDepth 10000 in
theorem g_133_8 : GO x d 133 Q 8 [v0, v1] (.inl a :: .inr (.inr (.inl r)) :: st) I J = (okA r 20 ∧ 0 ≤ a ∧ a < lnN r ∧ GO x d 133 Q 9 [v0, v1] (.inl (I r a) :: st) I J) := ge (A := (44, 9, 0, 0, 0)) rfl
set_option maxRecDepth 10000 in
theorem g_133_9 : GO x d 133 Q 9 [v0, v1] st I J = GO x d 133 Q 10 [v0, v1] (.inl (4) :: st) I J := ge (A := (0, 10, 0, 0, 4)) rfl
set_option maxRecDepth 10000 in
theorem g_133_10 : GO x d 133 Q 10 [v0, v1] (.inl b :: .inl a :: st) I J = (inR a ∧ inR b ∧ if a < b then GO x d 133 Q 13 [v0, v1] st I J else GO x d 133 Q 55 [v0, v1] st I J) := (ge (A := (34, 13, 55, 3, 0)) rfl).trans (ggec)
set_option maxRecDepth 10000 in
theorem g_133_13 : GO x d 133 Q 13 [some (.inr (.inr w)), v1] st I J = GO x d 133 Q 14 [some (.inr (.inr w)), v1] (.inr (.inr w) :: st) I J := ge (A := (2, 14, 0, 0, 0)) rfl
set_option maxRecDepth 10000 in
theorem g_133_14 : GO x d 133 Q 14 [v0, v1] (.inr (.inr (.inl r)) :: st) I J = (okF r 10 2 ∧ GO x d 133 Q 17 [v0, v1] (.inr (.inr (.inl (rfN r 2))) :: st) I J) := (ge (A := (39, 17, 10, 2, 0)) rfl).trans (gref (f := fun q => GO x d 133 Q 17 [v0, v1] (.inr (.inr (.inl q)) :: st) I J))
set_option maxRecDepth 10000 in
theorem g_133_17 : GO x d 133 Q 17 [v0, v1] st I J = GO x d 133 Q 19 [v0, v1] (.inl (32) :: st) I J := ge (A := (0, 19, 0, 0, 32)) rfl
set_option maxRecDepth 10000 in
theorem g_133_19 : GO x d 133 Q 19 [v0, some (.inl a)] st I J = GO x d 133 Q 20 [v0, some (.inl a)] (.inl a :: st) I J := ge (A := (1, 20, 1, 0, 0)) rfl
set_option maxRecDepth 10000 in
theorem g_133_20 : GO x d 133 Q 20 [v0, v1] (.inl b :: .inl a :: st) I J = GO x d 133 Q 21 [v0, v1] (.inl (a + b) :: st) I J := ge (A := (8, 21, 0, 0, 0)) rfl
set_option maxRecDepth 10000 in
theorem h_133_21 : GO x d 133 Q 21 [v0, v1] (.inl a :: .inr (.inr (.inr q)) :: st) I J = (q < 4 ∧ 0 ≤ a ∧ a < (roA x q).1 ∧ GO x d 133 Q 22 [v0, v1] (.inl ((roA x q).2 a.toNat) :: st) I J) := ge (A := (44, 22, 0, 0, 0)) rfl
set_option maxRecDepth 10000 in
theorem g_133_21 : GO x d 133 Q 21 [v0, v1] (.inl a :: .inr (.inr (.inl r)) :: st) I J = (okA r 20 ∧ 0 ≤ a ∧ a < lnN r ∧ GO x d 133 Q 22 [v0, v1] (.inl (I r a) :: st) I J) := ge (A := (44, 22, 0, 0, 0)) rfl
set_option maxRecDepth 10000 in
theorem g_133_22 : GO x d 133 Q 22 [v0, v1] (.inl a :: st) I J = (inR a ∧ if a < 0 then GO x d 133 Q 55 [v0, v1] st I J else GO x d 133 Q 25 [v0, v1] st I J) := (ge (A := (33, 25, 55, 2, 0)) rfl).trans (gif (p := a < 0) inferInstance)
set_option maxRecDepth 10000 in
theorem g_133_25 : GO x d 133 Q 25 [some (.inr (.inr w)), v1] st I J = GO x d 133 Q 26 [some (.inr (.inr w)), v1] (.inr (.inr w) :: st) I J := ge (A := (2, 26, 0, 0, 0)) rfl
set_option maxRecDepth 10000 in
theorem g_133_26 : GO x d 133 Q 26 [v0, v1] (.inr (.inr (.inl r)) :: st) I J = (okF r 10 2 ∧ GO x d 133 Q 29 [v0, v1] (.inr (.inr (.inl (rfN r 2))) :: st) I J) := (ge (A := (39, 29, 10, 2, 0)) rfl).trans (gref (f := fun q => GO x d 133 Q 29 [v0, v1] (.inr (.inr (.inl q)) :: st) I J))
set_option maxRecDepth 10000 in
theorem g_133_29 : GO x d 133 Q 29 [v0, v1] st I J = GO x d 133 Q 31 [v0, v1] (.inl (29) :: st) I J := ge (A := (0, 31, 0, 0, 29)) rfl
set_option maxRecDepth 10000 in
theorem h_133_31 : GO x d 133 Q 31 [v0, v1] (.inl a :: .inr (.inr (.inr q)) :: st) I J = (q < 4 ∧ 0 ≤ a ∧ a < (roA x q).1 ∧ GO x d 133 Q 32 [v0, v1] (.inl ((roA x q).2 a.toNat) :: st) I J) := ge (A := (44, 32, 0, 0, 0)) rfl
set_option maxRecDepth 10000 in
theorem g_133_31 : GO x d 133 Q 31 [v0, v1] (.inl a :: .inr (.inr (.inl r)) :: st) I J = (okA r 20 ∧ 0 ≤ a ∧ a < lnN r ∧ GO x d 133 Q 32 [v0, v1] (.inl (I r a) :: st) I J) := ge (A := (44, 32, 0, 0, 0)) rfl
set_option maxRecDepth 10000 in
theorem g_133_32 : GO x d 133 Q 32 [some (.inr (.inr w)), v1] st I J = GO x d 133 Q 33 [some (.inr (.inr w)), v1] (.inr (.inr w) :: st) I J := ge (A := (2, 33, 0, 0, 0)) rfl
set_option maxRecDepth 10000 in
theorem g_133_33 : GO x d 133 Q 33 [v0, v1] (.inr (.inr (.inl r)) :: st) I J = (okF r 10 2 ∧ GO x d 133 Q 36 [v0, v1] (.inr (.inr (.inl (rfN r 2))) :: st) I J) := (ge (A := (39, 36, 10, 2, 0)) rfl).trans (gref (f := fun q => GO x d 133 Q 36 [v0, v1] (.inr (.inr (.inl q)) :: st) I J))
set_option maxRecDepth 10000 in
theorem g_133_36 : GO x d 133 Q 36 [v0, v1] st I J = GO x d 133 Q 38 [v0, v1] (.inl (32) :: st) I J := ge (A := (0, 38, 0, 0, 32)) rfl
set_option maxRecDepth 10000 in
theorem g_133_38 : GO x d 133 Q 38 [v0, some (.inl a)] st I J = GO x d 133 Q 39 [v0, some (.inl a)] (.inl a :: st) I J := ge (A := (1, 39, 1, 0, 0)) rfl
set_option maxRecDepth 10000 in
theorem g_133_39 : GO x d 133 Q 39 [v0, v1] (.inl b :: .inl a :: st) I J = GO x d 133 Q 40 [v0, v1] (.inl (a + b) :: st) I J := ge (A := (8, 40, 0, 0, 0)) rfl
set_option maxRecDepth 10000 in
theorem h_133_40 : GO x d 133 Q 40 [v0, v1] (.inl a :: .inr (.inr (.inr q)) :: st) I J = (q < 4 ∧ 0 ≤ a ∧ a < (roA x q).1 ∧ GO x d 133 Q 41 [v0, v1] (.inl ((roA x q).2 a.toNat) :: st) I J) := ge (A := (44, 41, 0, 0, 0)) rfl
set_option maxRecDepth 10000 in
theorem g_133_40 : GO x d 133 Q 40 [v0, v1] (.inl a :: .inr (.inr (.inl r)) :: st) I J = (okA r 20 ∧ 0 ≤ a ∧ a < lnN r ∧ GO x d 133 Q 41 [v0, v1] (.inl (I r a) :: st) I J) := ge (A := (44, 41, 0, 0, 0)) rfl
set_option maxRecDepth 10000 in
theorem g_133_41 : GO x d 133 Q 41 [v0, v1] (.inl b :: .inl a :: st) I J = GO x d 133 Q 42 [v0, v1] (.inl (a - b) :: st) I J := ge (A := (9, 42, 0, 0, 0)) rfl
set_option maxRecDepth 10000 in
theorem g_133_42 : GO x d 133 Q 42 [some (.inr (.inr w)), v1] st I J = GO x d 133 Q 43 [some (.inr (.inr w)), v1] (.inr (.inr w) :: st) I J := ge (A := (2, 43, 0, 0, 0)) rfl
set_option maxRecDepth 10000 in
theorem g_133_43 : GO x d 133 Q 43 [v0, v1] (.inr (.inr (.inl r)) :: st) I J = (okF r 10 2 ∧ GO x d 133 Q 46 [v0, v1] (.inr (.inr (.inl (rfN r 2))) :: st) I J) := (ge (A := (39, 46, 10, 2, 0)) rfl).trans (gref (f := fun q => GO x d 133 Q 46 [v0, v1] (.inr (.inr (.inl q)) :: st) I J))
set_option maxRecDepth 10000 in
theorem g_133_46 : GO x d 133 Q 46 [v0, v1] st I J = GO x d 133 Q 47 [v0, v1] (.inl (3) :: st) I J := ge (A := (0, 47, 0, 0, 3)) rfl
set_option maxRecDepth 10000 in
theorem h_133_47 : GO x d 133 Q 47 [v0, v1] (.inl a :: .inr (.inr (.inr q)) :: st) I J = (q < 4 ∧ 0 ≤ a ∧ a < (roA x q).1 ∧ GO x d 133 Q 48 [v0, v1] (.inl ((roA x q).2 a.toNat) :: st) I J) := ge (A := (44, 48, 0, 0, 0)) rfl
set_option maxRecDepth 10000 in
theorem g_133_47 : GO x d 133 Q 47 [v0, v1] (.inl a :: .inr (.inr (.inl r)) :: st) I J = (okA r 20 ∧ 0 ≤ a ∧ a < lnN r ∧ GO x d 133 Q 48 [v0, v1] (.inl (I r a) :: st) I J) := ge (A := (44, 48, 0, 0, 0)) rfl
set_option maxRecDepth 10000 in
theorem g_133_48 : GO x d 133 Q 48 [v0, v1] (.inl b :: .inl a :: st) I J = (inR a ∧ inR b ∧ if a < b then GO x d 133 Q 51 [v0, v1] st I J else GO x d 133 Q 55 [v0, v1] st I J) := (ge (A := (34, 51, 55, 3, 0)) rfl).trans (ggec)
set_option maxRecDepth 10000 in
theorem g_133_51 : GO x d 133 Q 51 [v0, v1] st I J = GO x d 133 Q 52 [v0, v1] (.inl (1) :: st) I J := ge (A := (0, 52, 0, 0, 1)) rfl
set_option maxRecDepth 10000 in
theorem g_133_52 : GO x d 133 Q 52 [v0, v1] st I J = GO x d 133 Q 56 [v0, v1] st I J := ge (A := (35, 55, 56, 0, 0)) rfl
set_option maxRecDepth 10000 in
theorem g_133_55 : GO x d 133 Q 55 [v0, v1] st I J = GO x d 133 Q 56 [v0, v1] (.inl (0) :: st) I J := ge (A := (0, 56, 0, 0, 0)) rfl
set_option maxRecDepth 10000 in
theorem g_133_56 : GO x d 133 Q 56 [v0, v1] [.inl a] I J = (ret01 a ∧ Q (some (.inl a)) I J) := ge (A := (56, 57, 0, 0, 0)) rfl
set_option maxRecDepth 10000 in
theorem e_133 : EX x (d + 1) 133 [.inr (.inr w0), .inl i0] I J Q = GO x d 133 Q 0 [some (.inr (.inr w0)), some (.inl i0)] [] I J := ex_eq (Nat.le_of_ble_eq_true rfl) rfl (Nat.le_of_ble_eq_true rfl) rfl
set_option maxRecDepth 10000 in
theorem g_134_0 : GO x d 134 Q 0 [some (.inr (.inr w)), v1, v2, v3] st I J = GO x d 134 Q 1 [some (.inr (.inr w)), v1, v2, v3] (.inr (.inr w) :: st) I J := ge (A := (2, 1, 0, 0, 0)) rfl
set_option maxRecDepth 10000 in
theorem g_134_1 : GO x d 134 Q 1 [v0, v1, v2, v3] (.inr (.inr (.inl r)) :: st) I J = (okF r 10 2 ∧ GO x d 134 Q 4 [v0, v1, v2, v3] (.inr (.inr (.inl (rfN r 2))) :: st) I J) := (ge (A := (39, 4, 10, 2, 0)) rfl).trans (gref (f := fun q => GO x d 134 Q 4 [v0, v1, v2, v3] (.inr (.inr (.inl q)) :: st) I J))
set_option maxRecDepth 10000 in
theorem g_134_4 : GO x d 134 Q 4 [v0, v1, v2, v3] st I J = GO x d 134 Q 6 [v0, v1, v2, v3] (.inl (16) :: st) I J := ge (A := (0, 6, 0, 0, 16)) rfl
set_option maxRecDepth 10000 in
theorem g_134_6 : GO x d 134 Q 6 [v0, some (.inl a), v2, v3] st I J = GO x d 134 Q 7 [v0, some (.inl a), v2, v3] (.inl a :: st) I J := ge (A := (1, 7, 1, 0, 0)) rfl
set_option maxRecDepth 10000 in
theorem g_134_7 : GO x d 134 Q 7 [v0, v1, v2, v3] (.inl b :: .inl a :: st) I J = GO x d 134 Q 8 [v0, v1, v2, v3] (.inl (a + b) :: st) I J := ge (A := (8, 8, 0, 0, 0)) rfl
set_option maxRecDepth 10000 in
theorem h_134_8 : GO x d 134 Q 8 [v0, v1, v2, v3] (.inl a :: .inr (.inr (.inr q)) :: st) I J = (q < 4 ∧ 0 ≤ a ∧ a < (roA x q).1 ∧ GO x d 134 Q 9 [v0, v1, v2, v3] (.inl ((roA x q).2 a.toNat) :: st) I J) := ge (A := (44, 9, 0, 0, 0)) rfl
set_option maxRecDepth 10000 in
theorem g_134_8 : GO x d 134 Q 8 [v0, v1, v2, v3] (.inl a :: .inr (.inr (.inl r)) :: st) I J = (okA r 20 ∧ 0 ≤ a ∧ a < lnN r ∧ GO x d 134 Q 9 [v0, v1, v2, v3] (.inl (I r a) :: st) I J) := ge (A := (44, 9, 0, 0, 0)) rfl
set_option maxRecDepth 10000 in
theorem g_134_9 : GO x d 134 Q 9 [v0, v1, v2, v3] (.inl a :: st) I J = (nlO (some v2) = true ∧ GO x d 134 Q 10 [v0, v1, v2, some (.inl a)] st I J) := (ge (A := (4, 10, 3, 0, 0)) rfl).trans (gst (Nat.le_of_ble_eq_true rfl) _)
set_option maxRecDepth 10000 in
theorem g_134_10 : GO x d 134 Q 10 [v0, v1, some (.inl a), v3] st I J = GO x d 134 Q 11 [v0, v1, some (.inl a), v3] (.inl a :: st) I J := ge (A := (1, 11, 2, 0, 0)) rfl
set_option maxRecDepth 10000 in
theorem g_134_11 : GO x d 134 Q 11 [v0, v1, v2, v3] (.inl a :: st) I J = (inR a ∧ if a < 0 then GO x d 134 Q 48 [v0, v1, v2, v3] st I J else GO x d 134 Q 14 [v0, v1, v2, v3] st I J) := (ge (A := (33, 14, 48, 2, 0)) rfl).trans (gif (p := a < 0) inferInstance)
set_option maxRecDepth 10000 in
theorem g_134_14 : GO x d 134 Q 14 [some (.inr (.inr w)), v1, v2, v3] st I J = GO x d 134 Q 15 [some (.inr (.inr w)), v1, v2, v3] (.inr (.inr w) :: st) I J := ge (A := (2, 15, 0, 0, 0)) rfl
set_option maxRecDepth 10000 in
theorem g_134_15 : GO x d 134 Q 15 [v0, v1, v2, v3] (.inr (.inr (.inl r)) :: st) I J = (okF r 10 2 ∧ GO x d 134 Q 18 [v0, v1, v2, v3] (.inr (.inr (.inl (rfN r 2))) :: st) I J) := (ge (A := (39, 18, 10, 2, 0)) rfl).trans (gref (f := fun q => GO x d 134 Q 18 [v0, v1, v2, v3] (.inr (.inr (.inl q)) :: st) I J))
set_option maxRecDepth 10000 in
theorem g_134_18 : GO x d 134 Q 18 [v0, v1, v2, v3] st I J = GO x d 134 Q 19 [v0, v1, v2, v3] (.inl (4) :: st) I J := ge (A := (0, 19, 0, 0, 4)) rfl
set_option maxRecDepth 10000 in
theorem g_134_19 : GO x d 134 Q 19 [v0, v1, some (.inl a), v3] st I J = GO x d 134 Q 20 [v0, v1, some (.inl a), v3] (.inl a :: st) I J := ge (A := (1, 20, 2, 0, 0)) rfl
set_option maxRecDepth 10000 in
theorem g_134_20 : GO x d 134 Q 20 [v0, v1, v2, v3] (.inl b :: .inl a :: st) I J = GO x d 134 Q 21 [v0, v1, v2, v3] (.inl (a + b) :: st) I J := ge (A := (8, 21, 0, 0, 0)) rfl
set_option maxRecDepth 10000 in
theorem h_134_21 : GO x d 134 Q 21 [v0, v1, v2, v3] (.inl a :: .inr (.inr (.inr q)) :: st) I J = (q < 4 ∧ 0 ≤ a ∧ a < (roA x q).1 ∧ GO x d 134 Q 22 [v0, v1, v2, v3] (.inl ((roA x q).2 a.toNat) :: st) I J) := ge (A := (44, 22, 0, 0, 0)) rfl
set_option maxRecDepth 10000 in
theorem g_134_21 : GO x d 134 Q 21 [v0, v1, v2, v3] (.inl a :: .inr (.inr (.inl r)) :: st) I J = (okA r 20 ∧ 0 ≤ a ∧ a < lnN r ∧ GO x d 134 Q 22 [v0, v1, v2, v3] (.inl (I r a) :: st) I J) := ge (A := (44, 22, 0, 0, 0)) rfl
set_option maxRecDepth 10000 in
theorem g_134_22 : GO x d 134 Q 22 [v0, v1, v2, some (.inl a)] st I J = GO x d 134 Q 23 [v0, v1, v2, some (.inl a)] (.inl a :: st) I J := ge (A := (1, 23, 3, 0, 0)) rfl
set_option maxRecDepth 10000 in
theorem g_134_23 : GO x d 134 Q 23 [v0, v1, v2, v3] (.inl b :: .inl a :: st) I J = GO x d 134 Q 24 [v0, v1, v2, v3] (.inl (shrI a b) :: st) I J := ge (A := (15, 24, 0, 0, 0)) rfl
set_option maxRecDepth 10000 in
theorem g_134_24 : GO x d 134 Q 24 [v0, v1, v2, v3] st I J = GO x d 134 Q 25 [v0, v1, v2, v3] (.inl (1) :: st) I J := ge (A := (0, 25, 0, 0, 1)) rfl
set_option maxRecDepth 10000 in
theorem g_134_25 : GO x d 134 Q 25 [v0, v1, v2, v3] (.inl b :: .inl a :: st) I J = GO x d 134 Q 26 [v0, v1, v2, v3] (.inl (andI a b) :: st) I J := ge (A := (11, 26, 0, 0, 0)) rfl
set_option maxRecDepth 10000 in
theorem g_134_26 : GO x d 134 Q 26 [v0, v1, v2, v3] st I J = GO x d 134 Q 27 [v0, v1, v2, v3] (.inl (1) :: st) I J := ge (A := (0, 27, 0, 0, 1)) rfl
set_option maxRecDepth 10000 in
theorem g_134_27 : GO x d 134 Q 27 [v0, v1, v2, v3] (.inl b :: .inl a :: st) I J = (inR a ∧ inR b ∧ if a = b then GO x d 134 Q 30 [v0, v1, v2, v3] st I J else GO x d 134 Q 52 [v0, v1, v2, v3] st I J) := (ge (A := (34, 30, 52, 1, 0)) rfl).trans (gicn (p := a = b) inferInstance)
set_option maxRecDepth 10000 in
theorem g_134_30 : GO x d 134 Q 30 [some (.inr (.inr w)), v1, v2, v3] st I J = GO x d 134 Q 31 [some (.inr (.inr w)), v1, v2, v3] (.inr (.inr w) :: st) I J := ge (A := (2, 31, 0, 0, 0)) rfl
set_option maxRecDepth 10000 in
theorem g_134_31 : GO x d 134 Q 31 [v0, v1, v2, v3] (.inr (.inr (.inl r)) :: st) I J = (okF r 10 2 ∧ GO x d 134 Q 34 [v0, v1, v2, v3] (.inr (.inr (.inl (rfN r 2))) :: st) I J) := (ge (A := (39, 34, 10, 2, 0)) rfl).trans (gref (f := fun q => GO x d 134 Q 34 [v0, v1, v2, v3] (.inr (.inr (.inl q)) :: st) I J))
set_option maxRecDepth 10000 in
theorem g_134_34 : GO x d 134 Q 34 [v0, v1, v2, v3] st I J = GO x d 134 Q 36 [v0, v1, v2, v3] (.inl (8) :: st) I J := ge (A := (0, 36, 0, 0, 8)) rfl
set_option maxRecDepth 10000 in
theorem g_134_36 : GO x d 134 Q 36 [v0, some (.inl a), v2, v3] st I J = GO x d 134 Q 37 [v0, some (.inl a), v2, v3] (.inl a :: st) I J := ge (A := (1, 37, 1, 0, 0)) rfl
set_option maxRecDepth 10000 in
theorem g_134_37 : GO x d 134 Q 37 [v0, v1, v2, v3] (.inl b :: .inl a :: st) I J = GO x d 134 Q 38 [v0, v1, v2, v3] (.inl (a + b) :: st) I J := ge (A := (8, 38, 0, 0, 0)) rfl
set_option maxRecDepth 10000 in
theorem h_134_38 : GO x d 134 Q 38 [v0, v1, v2, v3] (.inl a :: .inr (.inr (.inr q)) :: st) I J = (q < 4 ∧ 0 ≤ a ∧ a < (roA x q).1 ∧ GO x d 134 Q 39 [v0, v1, v2, v3] (.inl ((roA x q).2 a.toNat) :: st) I J) := ge (A := (44, 39, 0, 0, 0)) rfl
set_option maxRecDepth 10000 in
theorem g_134_38 : GO x d 134 Q 38 [v0, v1, v2, v3] (.inl a :: .inr (.inr (.inl r)) :: st) I J = (okA r 20 ∧ 0 ≤ a ∧ a < lnN r ∧ GO x d 134 Q 39 [v0, v1, v2, v3] (.inl (I r a) :: st) I J) := ge (A := (44, 39, 0, 0, 0)) rfl
set_option maxRecDepth 10000 in
theorem g_134_39 : GO x d 134 Q 39 [v0, v1, v2, v3] st I J = GO x d 134 Q 40 [v0, v1, v2, v3] (.inl (3) :: st) I J := ge (A := (0, 40, 0, 0, 3)) rfl
set_option maxRecDepth 10000 in
theorem g_134_40 : GO x d 134 Q 40 [v0, v1, v2, v3] (.inl b :: .inl a :: st) I J = (inR a ∧ inR b ∧ if a = b then GO x d 134 Q 43 [v0, v1, v2, v3] st I J else GO x d 134 Q 48 [v0, v1, v2, v3] st I J) := (ge (A := (34, 43, 48, 1, 0)) rfl).trans (gicn (p := a = b) inferInstance)
set_option maxRecDepth 10000 in
theorem g_134_43 : GO x d 134 Q 43 [v0, v1, v2, some (.inl a)] st I J = GO x d 134 Q 44 [v0, v1, v2, some (.inl a)] (.inl a :: st) I J := ge (A := (1, 44, 3, 0, 0)) rfl
set_option maxRecDepth 10000 in
theorem g_134_44 : GO x d 134 Q 44 [v0, v1, some (.inl a), v3] st I J = GO x d 134 Q 45 [v0, v1, some (.inl a), v3] (.inl a :: st) I J := ge (A := (1, 45, 2, 0, 0)) rfl
set_option maxRecDepth 10000 in
theorem g_134_45 : GO x d 134 Q 45 [v0, v1, v2, v3] (.inl b :: .inl a :: st) I J = (inR a ∧ inR b ∧ if a = b then GO x d 134 Q 52 [v0, v1, v2, v3] st I J else GO x d 134 Q 48 [v0, v1, v2, v3] st I J) := (ge (A := (34, 48, 52, 0, 0)) rfl).trans (gic (p := a = b) inferInstance)
set_option maxRecDepth 10000 in
theorem g_134_48 : GO x d 134 Q 48 [v0, v1, v2, v3] st I J = GO x d 134 Q 49 [v0, v1, v2, v3] (.inl (1) :: st) I J := ge (A := (0, 49, 0, 0, 1)) rfl
set_option maxRecDepth 10000 in
theorem g_134_49 : GO x d 134 Q 49 [v0, v1, v2, v3] st I J = GO x d 134 Q 53 [v0, v1, v2, v3] st I J := ge (A := (35, 52, 53, 0, 0)) rfl
set_option maxRecDepth 10000 in
theorem g_134_52 : GO x d 134 Q 52 [v0, v1, v2, v3] st I J = GO x d 134 Q 53 [v0, v1, v2, v3] (.inl (0) :: st) I J := ge (A := (0, 53, 0, 0, 0)) rfl
set_option maxRecDepth 10000 in
theorem g_134_53 : GO x d 134 Q 53 [v0, v1, v2, v3] [.inl a] I J = (ret01 a ∧ Q (some (.inl a)) I J) := ge (A := (56, 54, 0, 0, 0)) rfl
set_option maxRecDepth 10000 in
theorem e_134 : EX x (d + 1) 134 [.inr (.inr w0), .inl i0, .inl i1] I J Q = GO x d 134 Q 0 [some (.inr (.inr w0)), some (.inl i0), some (.inl i1), none] [] I J := ex_eq (Nat.le_of_ble_eq_true rfl) rfl (Nat.le_of_ble_eq_true rfl) rfl
set_option maxRecDepth 10000 in
theorem g_135_0 : GO x d 135 Q 0 [some (.inr (.inr w)), v1] st I J = GO x d 135 Q 1 [some (.inr (.inr w)), v1] (.inr (.inr w) :: st) I J := ge (A := (2, 1, 0, 0, 0)) rfl
set_option maxRecDepth 10000 in
theorem g_135_1 : GO x d 135 Q 1 [v0, some (.inl a)] st I J = GO x d 135 Q 2 [v0, some (.inl a)] (.inl a :: st) I J := ge (A := (1, 2, 1, 0, 0)) rfl
set_option maxRecDepth 10000 in
theorem g_135_2 : GO x d 135 Q 2 [v0, v1] [.inl i0, .inr (.inr (.inl r))] I J = (okO r 10 ∧ EX x d 133 [.inr (.inr (.inl r)), .inl i0] I J (fun r1 I1 J1 => GO x d 135 Q 5 [v0, v1] (r1.toList ++ []) I1 J1)) := (ge (A := (53, 5, 133, 1, 0)) rfl).trans (gtrue (Nat.le_of_ble_eq_true rfl))
set_option maxRecDepth 10000 in
theorem g_135_5 : GO x d 135 Q 5 [v0, v1] (.inl a :: st) I J = (inR a ∧ if a = 0 then GO x d 135 Q 8 [v0, v1] st I J else GO x d 135 Q 27 [v0, v1] st I J) := (ge (A := (33, 8, 27, 1, 0)) rfl).trans (gifn (p := a = 0) inferInstance)
set_option maxRecDepth 10000 in
theorem g_135_8 : GO x d 135 Q 8 [some (.inr (.inr w)), v1] st I J = GO x d 135 Q 9 [some (.inr (.inr w)), v1] (.inr (.inr w) :: st) I J := ge (A := (2, 9, 0, 0, 0)) rfl
set_option maxRecDepth 10000 in
theorem g_135_9 : GO x d 135 Q 9 [v0, some (.inl a)] st I J = GO x d 135 Q 10 [v0, some (.inl a)] (.inl a :: st) I J := ge (A := (1, 10, 1, 0, 0)) rfl
set_option maxRecDepth 10000 in
theorem g_135_10 : GO x d 135 Q 10 [some (.inr (.inr w)), v1] st I J = GO x d 135 Q 11 [some (.inr (.inr w)), v1] (.inr (.inr w) :: st) I J := ge (A := (2, 11, 0, 0, 0)) rfl
set_option maxRecDepth 10000 in
theorem g_135_11 : GO x d 135 Q 11 [v0, v1] (.inr (.inr (.inl r)) :: st) I J = (okF r 10 2 ∧ GO x d 135 Q 14 [v0, v1] (.inr (.inr (.inl (rfN r 2))) :: st) I J) := (ge (A := (39, 14, 10, 2, 0)) rfl).trans (gref (f := fun q => GO x d 135 Q 14 [v0, v1] (.inr (.inr (.inl q)) :: st) I J))
set_option maxRecDepth 10000 in
theorem g_135_14 : GO x d 135 Q 14 [v0, v1] st I J = GO x d 135 Q 16 [v0, v1] (.inl (30) :: st) I J := ge (A := (0, 16, 0, 0, 30)) rfl
set_option maxRecDepth 10000 in
theorem h_135_16 : GO x d 135 Q 16 [v0, v1] (.inl a :: .inr (.inr (.inr q)) :: st) I J = (q < 4 ∧ 0 ≤ a ∧ a < (roA x q).1 ∧ GO x d 135 Q 17 [v0, v1] (.inl ((roA x q).2 a.toNat) :: st) I J) := ge (A := (44, 17, 0, 0, 0)) rfl
set_option maxRecDepth 10000 in
theorem g_135_16 : GO x d 135 Q 16 [v0, v1] (.inl a :: .inr (.inr (.inl r)) :: st) I J = (okA r 20 ∧ 0 ≤ a ∧ a < lnN r ∧ GO x d 135 Q 17 [v0, v1] (.inl (I r a) :: st) I J) := ge (A := (44, 17, 0, 0, 0)) rfl
set_option maxRecDepth 10000 in
theorem g_135_17 : GO x d 135 Q 17 [v0, v1] [.inl i0, .inl i1, .inr (.inr (.inl r))] I J = (okO r 10 ∧ EX x d 134 [.inr (.inr (.inl r)), .inl i1, .inl i0] I J (fun r1 I1 J1 => GO x d 135 Q 20 [v0, v1] (r1.toList ++ []) I1 J1)) := (ge (A := (53, 20, 134, 2, 0)) rfl).trans (gtrue (Nat.le_of_ble_eq_true rfl))
set_option maxRecDepth 10000 in
theorem g_135_20 : GO x d 135 Q 20 [v0, v1] (.inl a :: st) I J = (inR a ∧ if a = 0 then GO x d 135 Q 27 [v0, v1] st I J else GO x d 135 Q 23 [v0, v1] st I J) := (ge (A := (33, 23, 27, 0, 0)) rfl).trans (gif (p := a = 0) inferInstance)
set_option maxRecDepth 10000 in
theorem g_135_23 : GO x d 135 Q 23 [v0, v1] st I J = GO x d 135 Q 24 [v0, v1] (.inl (1) :: st) I J := ge (A := (0, 24, 0, 0, 1)) rfl
set_option maxRecDepth 10000 in
theorem g_135_24 : GO x d 135 Q 24 [v0, v1] st I J = GO x d 135 Q 28 [v0, v1] st I J := ge (A := (35, 27, 28, 0, 0)) rfl
set_option maxRecDepth 10000 in
theorem g_135_27 : GO x d 135 Q 27 [v0, v1] st I J = GO x d 135 Q 28 [v0, v1] (.inl (0) :: st) I J := ge (A := (0, 28, 0, 0, 0)) rfl
set_option maxRecDepth 10000 in
theorem g_135_28 : GO x d 135 Q 28 [v0, v1] [.inl a] I J = (ret01 a ∧ Q (some (.inl a)) I J) := ge (A := (56, 29, 0, 0, 0)) rfl
set_option maxRecDepth 10000 in
theorem e_135 : EX x (d + 1) 135 [.inr (.inr w0), .inl i0] I J Q = GO x d 135 Q 0 [some (.inr (.inr w0)), some (.inl i0)] [] I J := ex_eq (Nat.le_of_ble_eq_true rfl) rfl (Nat.le_of_ble_eq_true rfl) rfl
set_option maxRecDepth 10000 in
theorem g_136_0 : GO x d 136 Q 0 [some (.inr (.inr w)), v1] st I J = GO x d 136 Q 1 [some (.inr (.inr w)), v1] (.inr (.inr w) :: st) I J := ge (A := (2, 1, 0, 0, 0)) rfl
set_option maxRecDepth 10000 in
theorem g_136_1 : GO x d 136 Q 1 [v0, v1] (.inr (.inr (.inl r)) :: st) I J = (okF r 10 2 ∧ GO x d 136 Q 4 [v0, v1] (.inr (.inr (.inl (rfN r 2))) :: st) I J) := (ge (A := (39, 4, 10, 2, 0)) rfl).trans (gref (f := fun q => GO x d 136 Q 4 [v0, v1] (.inr (.inr (.inl q)) :: st) I J))
set_option maxRecDepth 10000 in
theorem g_136_4 : GO x d 136 Q 4 [v0, v1] st I J = GO x d 136 Q 6 [v0, v1] (.inl (48) :: st) I J := ge (A := (0, 6, 0, 0, 48)) rfl
set_option maxRecDepth 10000 in
theorem g_136_6 : GO x d 136 Q 6 [v0, some (.inl a)] st I J = GO x d 136 Q 7 [v0, some (.inl a)] (.inl a :: st) I J := ge (A := (1, 7, 1, 0, 0)) rfl
set_option maxRecDepth 10000 in
theorem g_136_7 : GO x d 136 Q 7 [v0, v1] (.inl b :: .inl a :: st) I J = GO x d 136 Q 8 [v0, v1] (.inl (a + b) :: st) I J := ge (A := (8, 8, 0, 0, 0)) rfl
set_option maxRecDepth 10000 in
theorem h_136_8 : GO x d 136 Q 8 [v0, v1] (.inl a :: .inr (.inr (.inr q)) :: st) I J = (q < 4 ∧ 0 ≤ a ∧ a < (roA x q).1 ∧ GO x d 136 Q 9 [v0, v1] (.inl ((roA x q).2 a.toNat) :: st) I J) := ge (A := (44, 9, 0, 0, 0)) rfl
set_option maxRecDepth 10000 in
theorem g_136_8 : GO x d 136 Q 8 [v0, v1] (.inl a :: .inr (.inr (.inl r)) :: st) I J = (okA r 20 ∧ 0 ≤ a ∧ a < lnN r ∧ GO x d 136 Q 9 [v0, v1] (.inl (I r a) :: st) I J) := ge (A := (44, 9, 0, 0, 0)) rfl
set_option maxRecDepth 10000 in
theorem g_136_9 : GO x d 136 Q 9 [v0, v1] (.inl a :: st) I J = (inR a ∧ if a < 0 then GO x d 136 Q 16 [v0, v1] st I J else GO x d 136 Q 12 [v0, v1] st I J) := (ge (A := (33, 12, 16, 2, 0)) rfl).trans (gif (p := a < 0) inferInstance)
set_option maxRecDepth 10000 in
theorem g_136_12 : GO x d 136 Q 12 [v0, v1] st I J = GO x d 136 Q 13 [v0, v1] (.inl (1) :: st) I J := ge (A := (0, 13, 0, 0, 1)) rfl
set_option maxRecDepth 10000 in
theorem g_136_13 : GO x d 136 Q 13 [v0, v1] st I J = GO x d 136 Q 17 [v0, v1] st I J := ge (A := (35, 16, 17, 0, 0)) rfl
set_option maxRecDepth 10000 in
theorem g_136_16 : GO x d 136 Q 16 [v0, v1] st I J = GO x d 136 Q 17 [v0, v1] (.inl (0) :: st) I J := ge (A := (0, 17, 0, 0, 0)) rfl
set_option maxRecDepth 10000 in
theorem g_136_17 : GO x d 136 Q 17 [v0, v1] [.inl a] I J = (ret01 a ∧ Q (some (.inl a)) I J) := ge (A := (56, 18, 0, 0, 0)) rfl
set_option maxRecDepth 10000 in
theorem e_136 : EX x (d + 1) 136 [.inr (.inr w0), .inl i0] I J Q = GO x d 136 Q 0 [some (.inr (.inr w0)), some (.inl i0)] [] I J := ex_eq (Nat.le_of_ble_eq_true rfl) rfl (Nat.le_of_ble_eq_true rfl) rfl
set_option maxRecDepth 10000 in
theorem g_137_0 : GO x d 137 Q 0 [some (.inr (.inr w)), v1] st I J = GO x d 137 Q 1 [some (.inr (.inr w)), v1] (.inr (.inr w) :: st) I J := ge (A := (2, 1, 0, 0, 0)) rfl
set_option maxRecDepth 10000 in
theorem g_137_1 : GO x d 137 Q 1 [v0, v1] (.inr (.inr (.inl r)) :: st) I J = (okO r 10 ∧ GO x d 137 Q 4 [v0, v1] (.inl (I r 5) :: st) I J) := ge (A := (37, 4, 10, 5, 0)) rfl
set_option maxRecDepth 10000 in
theorem g_137_4 : GO x d 137 Q 4 [v0, v1] st I J = GO x d 137 Q 6 [v0, v1] (.inl (24) :: st) I J := ge (A := (0, 6, 0, 0, 24)) rfl
set_option maxRecDepth 10000 in
theorem g_137_6 : GO x d 137 Q 6 [v0, v1] (.inl b :: .inl a :: st) I J = (inR a ∧ inR b ∧ if a = b then GO x d 137 Q 9 [v0, v1] st I J else GO x d 137 Q 49 [v0, v1] st I J) := (ge (A := (34, 9, 49, 1, 0)) rfl).trans (gicn (p := a = b) inferInstance)
set_option maxRecDepth 10000 in
theorem g_137_9 : GO x d 137 Q 9 [v0, v1] st I J = GO x d 137 Q 10 [v0, v1] (.inl (0) :: st) I J := ge (A := (0, 10, 0, 0, 0)) rfl
set_option maxRecDepth 10000 in
theorem g_137_10 : GO x d 137 Q 10 [v0, v1] (.inl a :: st) I J = (nlO (some v0) = true ∧ GO x d 137 Q 11 [v0, some (.inl a)] st I J) := (ge (A := (4, 11, 1, 0, 0)) rfl).trans (gst (Nat.le_of_ble_eq_true rfl) _)
set_option maxRecDepth 10000 in
theorem g_137_11 : GO x d 137 Q 11 [v0, some (.inl a)] st I J = GO x d 137 Q 12 [v0, some (.inl a)] (.inl a :: st) I J := ge (A := (1, 12, 1, 0, 0)) rfl
set_option maxRecDepth 10000 in
theorem g_137_12 : GO x d 137 Q 12 [v0, v1] st I J = GO x d 137 Q 15 [v0, v1] (.inl (552) :: st) I J := ge (A := (0, 15, 0, 0, 552)) rfl
set_option maxRecDepth 10000 in
theorem g_137_15 : GO x d 137 Q 15 [v0, v1] (.inl b :: .inl a :: st) I J = (inR a ∧ inR b ∧ if a < b then GO x d 137 Q 18 [v0, v1] st I J else GO x d 137 Q 39 [v0, v1] st I J) := (ge (A := (34, 18, 39, 3, 0)) rfl).trans (ggec)
set_option maxRecDepth 10000 in
theorem g_137_18 : GO x d 137 Q 18 [some (.inr (.inr w)), v1] st I J = GO x d 137 Q 19 [some (.inr (.inr w)), v1] (.inr (.inr w) :: st) I J := ge (A := (2, 19, 0, 0, 0)) rfl
set_option maxRecDepth 10000 in
theorem g_137_19 : GO x d 137 Q 19 [v0, v1] (.inr (.inr (.inl r)) :: st) I J = (okF r 10 4 ∧ GO x d 137 Q 22 [v0, v1] (.inr (.inr (.inl (rfN r 4))) :: st) I J) := (ge (A := (39, 22, 10, 4, 0)) rfl).trans (gref (f := fun q => GO x d 137 Q 22 [v0, v1] (.inr (.inr (.inl q)) :: st) I J))
set_option maxRecDepth 10000 in
theorem g_137_22 : GO x d 137 Q 22 [v0, some (.inl a)] st I J = GO x d 137 Q 23 [v0, some (.inl a)] (.inl a :: st) I J := ge (A := (1, 23, 1, 0, 0)) rfl
set_option maxRecDepth 10000 in
theorem g_137_23 : GO x d 137 Q 23 [some (.inr (.inr w)), v1] st I J = GO x d 137 Q 24 [some (.inr (.inr w)), v1] (.inr (.inr w) :: st) I J := ge (A := (2, 24, 0, 0, 0)) rfl
set_option maxRecDepth 10000 in
theorem g_137_24 : GO x d 137 Q 24 [v0, v1] (.inr (.inr (.inl r)) :: st) I J = (okF r 10 4 ∧ GO x d 137 Q 27 [v0, v1] (.inr (.inr (.inl (rfN r 4))) :: st) I J) := (ge (A := (39, 27, 10, 4, 0)) rfl).trans (gref (f := fun q => GO x d 137 Q 27 [v0, v1] (.inr (.inr (.inl q)) :: st) I J))
set_option maxRecDepth 10000 in
theorem g_137_27 : GO x d 137 Q 27 [v0, some (.inl a)] st I J = GO x d 137 Q 28 [v0, some (.inl a)] (.inl a :: st) I J := ge (A := (1, 28, 1, 0, 0)) rfl
set_option maxRecDepth 10000 in
theorem g_137_28 : GO x d 137 Q 28 [v0, v1] st I J = GO x d 137 Q 30 [v0, v1] (.inl (24) :: st) I J := ge (A := (0, 30, 0, 0, 24)) rfl
set_option maxRecDepth 10000 in
theorem g_137_30 : GO x d 137 Q 30 [v0, v1] (.inl b :: .inl a :: st) I J = GO x d 137 Q 31 [v0, v1] (.inl (a + b) :: st) I J := ge (A := (8, 31, 0, 0, 0)) rfl
set_option maxRecDepth 10000 in
theorem h_137_31 : GO x d 137 Q 31 [v0, v1] (.inl a :: .inr (.inr (.inr q)) :: st) I J = (q < 4 ∧ 0 ≤ a ∧ a < (roA x q).1 ∧ GO x d 137 Q 32 [v0, v1] (.inl ((roA x q).2 a.toNat) :: st) I J) := ge (A := (44, 32, 0, 0, 0)) rfl
set_option maxRecDepth 10000 in
theorem g_137_31 : GO x d 137 Q 31 [v0, v1] (.inl a :: .inr (.inr (.inl r)) :: st) I J = (okA r 20 ∧ 0 ≤ a ∧ a < lnN r ∧ GO x d 137 Q 32 [v0, v1] (.inl (I r a) :: st) I J) := ge (A := (44, 32, 0, 0, 0)) rfl
set_option maxRecDepth 10000 in
theorem g_137_32 : GO x d 137 Q 32 [v0, v1] (.inl b :: .inl a :: .inr (.inr (.inl r)) :: st) I J = (okA r 20 ∧ 0 ≤ a ∧ a < lnN r ∧ GO x d 137 Q 33 [v0, v1] st (up I r a b) J) := ge (A := (45, 33, 0, 0, 0)) rfl
set_option maxRecDepth 10000 in
theorem g_137_33 : GO x d 137 Q 33 [v0, some (.inl a)] st I J = (nlO (some v0) = true ∧ GO x d 137 Q 36 [v0, some (.inl (a + (1)))] st I J) := ge (A := (7, 36, 1, 0, 1)) rfl
set_option maxRecDepth 10000 in
theorem g_137_36 : GO x d 137 Q 36 [v0, v1] st I J = GO x d 137 Q 11 [v0, v1] st I J := ge (A := (35, 39, 11, 0, 0)) rfl
set_option maxRecDepth 10000 in
theorem g_137_39 : GO x d 137 Q 39 [some (.inr (.inr w)), v1] st I J = GO x d 137 Q 40 [some (.inr (.inr w)), v1] (.inr (.inr w) :: st) I J := ge (A := (2, 40, 0, 0, 0)) rfl
set_option maxRecDepth 10000 in
theorem g_137_40 : GO x d 137 Q 40 [v0, v1] (.inr (.inr w) :: st) I J = GO x d 137 Q 41 [v0, v1] (.inr (.inr w) :: .inr (.inr w) :: st) I J := ge (A := (31, 41, 0, 0, 0)) rfl
set_option maxRecDepth 10000 in
theorem g_137_41 : GO x d 137 Q 41 [v0, v1] (.inr (.inr (.inl r)) :: st) I J = (okO r 10 ∧ GO x d 137 Q 44 [v0, v1] (.inl (I r 5) :: st) I J) := ge (A := (37, 44, 10, 5, 0)) rfl
set_option maxRecDepth 10000 in
theorem g_137_44 : GO x d 137 Q 44 [v0, v1] st I J = GO x d 137 Q 45 [v0, v1] (.inl (1) :: st) I J := ge (A := (0, 45, 0, 0, 1)) rfl
set_option maxRecDepth 10000 in
theorem g_137_45 : GO x d 137 Q 45 [v0, v1] (.inl b :: .inl a :: st) I J = GO x d 137 Q 46 [v0, v1] (.inl (a - b) :: st) I J := ge (A := (9, 46, 0, 0, 0)) rfl
set_option maxRecDepth 10000 in
theorem g_137_46 : GO x d 137 Q 46 [v0, v1] (.inl a :: .inr (.inr (.inl r)) :: st) I J = (okO r 10 ∧ GO x d 137 Q 49 [v0, v1] st (up I r 5 a) J) := ge (A := (40, 49, 10, 5, 0)) rfl
set_option maxRecDepth 10000 in
theorem g_137_49 : GO x d 137 Q 49 [v0, v1] st I J = GO x d 137 Q 50 [v0, v1] (.inl (0) :: st) I J := ge (A := (0, 50, 0, 0, 0)) rfl
set_option maxRecDepth 10000 in
theorem g_137_50 : GO x d 137 Q 50 [v0, v1] (.inl a :: st) I J = (nlO (some v0) = true ∧ GO x d 137 Q 51 [v0, some (.inl a)] st I J) := (ge (A := (4, 51, 1, 0, 0)) rfl).trans (gst (Nat.le_of_ble_eq_true rfl) _)
set_option maxRecDepth 10000 in
theorem g_137_51 : GO x d 137 Q 51 [v0, some (.inl a)] st I J = GO x d 137 Q 52 [v0, some (.inl a)] (.inl a :: st) I J := ge (A := (1, 52, 1, 0, 0)) rfl
set_option maxRecDepth 10000 in
theorem g_137_52 : GO x d 137 Q 52 [v0, v1] st I J = GO x d 137 Q 54 [v0, v1] (.inl (24) :: st) I J := ge (A := (0, 54, 0, 0, 24)) rfl
set_option maxRecDepth 10000 in
theorem g_137_54 : GO x d 137 Q 54 [v0, v1] (.inl b :: .inl a :: st) I J = (inR a ∧ inR b ∧ if a < b then GO x d 137 Q 57 [v0, v1] st I J else GO x d 137 Q 86 [v0, v1] st I J) := (ge (A := (34, 57, 86, 3, 0)) rfl).trans (ggec)
set_option maxRecDepth 10000 in
theorem g_137_57 : GO x d 137 Q 57 [some (.inr (.inr w)), v1] st I J = GO x d 137 Q 58 [some (.inr (.inr w)), v1] (.inr (.inr w) :: st) I J := ge (A := (2, 58, 0, 0, 0)) rfl
set_option maxRecDepth 10000 in
theorem g_137_58 : GO x d 137 Q 58 [v0, v1] (.inr (.inr (.inl r)) :: st) I J = (okF r 10 4 ∧ GO x d 137 Q 61 [v0, v1] (.inr (.inr (.inl (rfN r 4))) :: st) I J) := (ge (A := (39, 61, 10, 4, 0)) rfl).trans (gref (f := fun q => GO x d 137 Q 61 [v0, v1] (.inr (.inr (.inl q)) :: st) I J))
set_option maxRecDepth 10000 in
theorem g_137_61 : GO x d 137 Q 61 [v0, v1] st I J = GO x d 137 Q 63 [v0, v1] (.inl (24) :: st) I J := ge (A := (0, 63, 0, 0, 24)) rfl
set_option maxRecDepth 10000 in
theorem g_137_63 : GO x d 137 Q 63 [some (.inr (.inr w)), v1] st I J = GO x d 137 Q 64 [some (.inr (.inr w)), v1] (.inr (.inr w) :: st) I J := ge (A := (2, 64, 0, 0, 0)) rfl
set_option maxRecDepth 10000 in
theorem g_137_64 : GO x d 137 Q 64 [v0, v1] (.inr (.inr (.inl r)) :: st) I J = (okO r 10 ∧ GO x d 137 Q 67 [v0, v1] (.inl (I r 5) :: st) I J) := ge (A := (37, 67, 10, 5, 0)) rfl
set_option maxRecDepth 10000 in
theorem g_137_67 : GO x d 137 Q 67 [v0, v1] (.inl b :: .inl a :: st) I J = GO x d 137 Q 68 [v0, v1] (.inl (a * b) :: st) I J := ge (A := (10, 68, 0, 0, 0)) rfl
set_option maxRecDepth 10000 in
theorem g_137_68 : GO x d 137 Q 68 [v0, some (.inl a)] st I J = GO x d 137 Q 69 [v0, some (.inl a)] (.inl a :: st) I J := ge (A := (1, 69, 1, 0, 0)) rfl
set_option maxRecDepth 10000 in
theorem g_137_69 : GO x d 137 Q 69 [v0, v1] (.inl b :: .inl a :: st) I J = GO x d 137 Q 70 [v0, v1] (.inl (a + b) :: st) I J := ge (A := (8, 70, 0, 0, 0)) rfl
set_option maxRecDepth 10000 in
theorem g_137_70 : GO x d 137 Q 70 [some (.inr (.inr w)), v1] st I J = GO x d 137 Q 71 [some (.inr (.inr w)), v1] (.inr (.inr w) :: st) I J := ge (A := (2, 71, 0, 0, 0)) rfl
set_option maxRecDepth 10000 in
theorem g_137_71 : GO x d 137 Q 71 [v0, v1] (.inr (.inr (.inl r)) :: st) I J = (okF r 10 2 ∧ GO x d 137 Q 74 [v0, v1] (.inr (.inr (.inl (rfN r 2))) :: st) I J) := (ge (A := (39, 74, 10, 2, 0)) rfl).trans (gref (f := fun q => GO x d 137 Q 74 [v0, v1] (.inr (.inr (.inl q)) :: st) I J))
set_option maxRecDepth 10000 in
theorem g_137_74 : GO x d 137 Q 74 [v0, v1] st I J = GO x d 137 Q 76 [v0, v1] (.inl (29) :: st) I J := ge (A := (0, 76, 0, 0, 29)) rfl
set_option maxRecDepth 10000 in
theorem g_137_76 : GO x d 137 Q 76 [v0, some (.inl a)] st I J = GO x d 137 Q 77 [v0, some (.inl a)] (.inl a :: st) I J := ge (A := (1, 77, 1, 0, 0)) rfl
set_option maxRecDepth 10000 in
theorem g_137_77 : GO x d 137 Q 77 [v0, v1] (.inl b :: .inl a :: st) I J = GO x d 137 Q 78 [v0, v1] (.inl (a + b) :: st) I J := ge (A := (8, 78, 0, 0, 0)) rfl
set_option maxRecDepth 10000 in
theorem h_137_78 : GO x d 137 Q 78 [v0, v1] (.inl a :: .inr (.inr (.inr q)) :: st) I J = (q < 4 ∧ 0 ≤ a ∧ a < (roA x q).1 ∧ GO x d 137 Q 79 [v0, v1] (.inl ((roA x q).2 a.toNat) :: st) I J) := ge (A := (44, 79, 0, 0, 0)) rfl
set_option maxRecDepth 10000 in
theorem g_137_78 : GO x d 137 Q 78 [v0, v1] (.inl a :: .inr (.inr (.inl r)) :: st) I J = (okA r 20 ∧ 0 ≤ a ∧ a < lnN r ∧ GO x d 137 Q 79 [v0, v1] (.inl (I r a) :: st) I J) := ge (A := (44, 79, 0, 0, 0)) rfl
set_option maxRecDepth 10000 in
theorem g_137_79 : GO x d 137 Q 79 [v0, v1] (.inl b :: .inl a :: .inr (.inr (.inl r)) :: st) I J = (okA r 20 ∧ 0 ≤ a ∧ a < lnN r ∧ GO x d 137 Q 80 [v0, v1] st (up I r a b) J) := ge (A := (45, 80, 0, 0, 0)) rfl
set_option maxRecDepth 10000 in
theorem g_137_80 : GO x d 137 Q 80 [v0, some (.inl a)] st I J = (nlO (some v0) = true ∧ GO x d 137 Q 83 [v0, some (.inl (a + (1)))] st I J) := ge (A := (7, 83, 1, 0, 1)) rfl
set_option maxRecDepth 10000 in
theorem g_137_83 : GO x d 137 Q 83 [v0, v1] st I J = GO x d 137 Q 51 [v0, v1] st I J := ge (A := (35, 86, 51, 0, 0)) rfl
set_option maxRecDepth 10000 in
theorem g_137_86 : GO x d 137 Q 86 [some (.inr (.inr w)), v1] st I J = GO x d 137 Q 87 [some (.inr (.inr w)), v1] (.inr (.inr w) :: st) I J := ge (A := (2, 87, 0, 0, 0)) rfl
set_option maxRecDepth 10000 in
theorem g_137_87 : GO x d 137 Q 87 [v0, v1] (.inr (.inr w) :: st) I J = GO x d 137 Q 88 [v0, v1] (.inr (.inr w) :: .inr (.inr w) :: st) I J := ge (A := (31, 88, 0, 0, 0)) rfl
set_option maxRecDepth 10000 in
theorem g_137_88 : GO x d 137 Q 88 [v0, v1] (.inr (.inr (.inl r)) :: st) I J = (okO r 10 ∧ GO x d 137 Q 91 [v0, v1] (.inl (I r 5) :: st) I J) := ge (A := (37, 91, 10, 5, 0)) rfl
set_option maxRecDepth 10000 in
theorem g_137_91 : GO x d 137 Q 91 [v0, v1] st I J = GO x d 137 Q 92 [v0, v1] (.inl (1) :: st) I J := ge (A := (0, 92, 0, 0, 1)) rfl
set_option maxRecDepth 10000 in
theorem g_137_92 : GO x d 137 Q 92 [v0, v1] (.inl b :: .inl a :: st) I J = GO x d 137 Q 93 [v0, v1] (.inl (a + b) :: st) I J := ge (A := (8, 93, 0, 0, 0)) rfl
set_option maxRecDepth 10000 in
theorem g_137_93 : GO x d 137 Q 93 [v0, v1] (.inl a :: .inr (.inr (.inl r)) :: st) I J = (okO r 10 ∧ GO x d 137 Q 96 [v0, v1] st (up I r 5 a) J) := ge (A := (40, 96, 10, 5, 0)) rfl
set_option maxRecDepth 10000 in
theorem g_137_96 : GO x d 137 Q 96 [v0, v1] [] I J = Q none I J := ge (A := (57, 97, 0, 0, 0)) rfl
set_option maxRecDepth 10000 in
theorem e_137 : EX x (d + 1) 137 [.inr (.inr w0)] I J Q = GO x d 137 Q 0 [some (.inr (.inr w0)), none] [] I J := ex_eq (Nat.le_of_ble_eq_true rfl) rfl (Nat.le_of_ble_eq_true rfl) rfl
set_option maxRecDepth 10000 in
theorem g_138_0 : GO x d 138 Q 0 [some (.inr (.inr w)), v1, v2] st I J = GO x d 138 Q 1 [some (.inr (.inr w)), v1, v2] (.inr (.inr w) :: st) I J := ge (A := (2, 1, 0, 0, 0)) rfl
set_option maxRecDepth 10000 in
theorem g_138_1 : GO x d 138 Q 1 [v0, some (.inl a), v2] st I J = GO x d 138 Q 2 [v0, some (.inl a), v2] (.inl a :: st) I J := ge (A := (1, 2, 1, 0, 0)) rfl
set_option maxRecDepth 10000 in
theorem g_138_2 : GO x d 138 Q 2 [v0, v1, v2] [.inl i0, .inr (.inr (.inl r))] I J = (okO r 10 ∧ EX x d 136 [.inr (.inr (.inl r)), .inl i0] I J (fun r1 I1 J1 => GO x d 138 Q 5 [v0, v1, v2] (r1.toList ++ []) I1 J1)) := (ge (A := (53, 5, 136, 1, 0)) rfl).trans (gtrue (Nat.le_of_ble_eq_true rfl))
set_option maxRecDepth 10000 in
theorem g_138_5 : GO x d 138 Q 5 [v0, v1, v2] (.inl a :: st) I J = (inR a ∧ if a = 0 then GO x d 138 Q 8 [v0, v1, v2] st I J else GO x d 138 Q 37 [v0, v1, v2] st I J) := (ge (A := (33, 8, 37, 1, 0)) rfl).trans (gifn (p := a = 0) inferInstance)
set_option maxRecDepth 10000 in
theorem g_138_8 : GO x d 138 Q 8 [some (.inr (.inr w)), v1, v2] st I J = GO x d 138 Q 9 [some (.inr (.inr w)), v1, v2] (.inr (.inr w) :: st) I J := ge (A := (2, 9, 0, 0, 0)) rfl
set_option maxRecDepth 10000 in
theorem g_138_9 : GO x d 138 Q 9 [v0, v1, v2] (.inr (.inr (.inl r)) :: st) I J = (okF r 10 2 ∧ GO x d 138 Q 12 [v0, v1, v2] (.inr (.inr (.inl (rfN r 2))) :: st) I J) := (ge (A := (39, 12, 10, 2, 0)) rfl).trans (gref (f := fun q => GO x d 138 Q 12 [v0, v1, v2] (.inr (.inr (.inl q)) :: st) I J))
set_option maxRecDepth 10000 in
theorem g_138_12 : GO x d 138 Q 12 [v0, v1, v2] st I J = GO x d 138 Q 14 [v0, v1, v2] (.inl (24) :: st) I J := ge (A := (0, 14, 0, 0, 24)) rfl
set_option maxRecDepth 10000 in
theorem g_138_14 : GO x d 138 Q 14 [v0, some (.inl a), v2] st I J = GO x d 138 Q 15 [v0, some (.inl a), v2] (.inl a :: st) I J := ge (A := (1, 15, 1, 0, 0)) rfl
set_option maxRecDepth 10000 in
theorem g_138_15 : GO x d 138 Q 15 [v0, v1, v2] (.inl b :: .inl a :: st) I J = GO x d 138 Q 16 [v0, v1, v2] (.inl (a + b) :: st) I J := ge (A := (8, 16, 0, 0, 0)) rfl
set_option maxRecDepth 10000 in
theorem h_138_16 : GO x d 138 Q 16 [v0, v1, v2] (.inl a :: .inr (.inr (.inr q)) :: st) I J = (q < 4 ∧ 0 ≤ a ∧ a < (roA x q).1 ∧ GO x d 138 Q 17 [v0, v1, v2] (.inl ((roA x q).2 a.toNat) :: st) I J) := ge (A := (44, 17, 0, 0, 0)) rfl
set_option maxRecDepth 10000 in
theorem g_138_16 : GO x d 138 Q 16 [v0, v1, v2] (.inl a :: .inr (.inr (.inl r)) :: st) I J = (okA r 20 ∧ 0 ≤ a ∧ a < lnN r ∧ GO x d 138 Q 17 [v0, v1, v2] (.inl (I r a) :: st) I J) := ge (A := (44, 17, 0, 0, 0)) rfl
set_option maxRecDepth 10000 in
theorem g_138_17 : GO x d 138 Q 17 [v0, v1, some (.inl a)] st I J = GO x d 138 Q 18 [v0, v1, some (.inl a)] (.inl a :: st) I J := ge (A := (1, 18, 2, 0, 0)) rfl
set_option maxRecDepth 10000 in
theorem g_138_18 : GO x d 138 Q 18 [v0, v1, v2] (.inl b :: .inl a :: st) I J = GO x d 138 Q 19 [v0, v1, v2] (.inl (shrI a b) :: st) I J := ge (A := (15, 19, 0, 0, 0)) rfl
set_option maxRecDepth 10000 in
theorem g_138_19 : GO x d 138 Q 19 [v0, v1, v2] st I J = GO x d 138 Q 20 [v0, v1, v2] (.inl (1) :: st) I J := ge (A := (0, 20, 0, 0, 1)) rfl
set_option maxRecDepth 10000 in
theorem g_138_20 : GO x d 138 Q 20 [v0, v1, v2] (.inl b :: .inl a :: st) I J = GO x d 138 Q 21 [v0, v1, v2] (.inl (andI a b) :: st) I J := ge (A := (11, 21, 0, 0, 0)) rfl
set_option maxRecDepth 10000 in
theorem g_138_21 : GO x d 138 Q 21 [v0, v1, v2] st I J = GO x d 138 Q 22 [v0, v1, v2] (.inl (1) :: st) I J := ge (A := (0, 22, 0, 0, 1)) rfl
set_option maxRecDepth 10000 in
theorem g_138_22 : GO x d 138 Q 22 [v0, v1, v2] (.inl b :: .inl a :: st) I J = (inR a ∧ inR b ∧ if a = b then GO x d 138 Q 25 [v0, v1, v2] st I J else GO x d 138 Q 37 [v0, v1, v2] st I J) := (ge (A := (34, 25, 37, 1, 0)) rfl).trans (gicn (p := a = b) inferInstance)
set_option maxRecDepth 10000 in
theorem g_138_25 : GO x d 138 Q 25 [some (.inr (.inr w)), v1, v2] st I J = GO x d 138 Q 26 [some (.inr (.inr w)), v1, v2] (.inr (.inr w) :: st) I J := ge (A := (2, 26, 0, 0, 0)) rfl
set_option maxRecDepth 10000 in
theorem g_138_26 : GO x d 138 Q 26 [v0, v1, some (.inl a)] st I J = GO x d 138 Q 27 [v0, v1, some (.inl a)] (.inl a :: st) I J := ge (A := (1, 27, 2, 0, 0)) rfl
set_option maxRecDepth 10000 in
theorem g_138_27 : GO x d 138 Q 27 [v0, v1, v2] [.inl i0, .inr (.inr (.inl r))] I J = (okO r 10 ∧ EX x d 135 [.inr (.inr (.inl r)), .inl i0] I J (fun r1 I1 J1 => GO x d 138 Q 30 [v0, v1, v2] (r1.toList ++ []) I1 J1)) := (ge (A := (53, 30, 135, 1, 0)) rfl).trans (gtrue (Nat.le_of_ble_eq_true rfl))
set_option maxRecDepth 10000 in
theorem g_138_30 : GO x d 138 Q 30 [v0, v1, v2] (.inl a :: st) I J = (inR a ∧ if a = 0 then GO x d 138 Q 37 [v0, v1, v2] st I J else GO x d 138 Q 33 [v0, v1, v2] st I J) := (ge (A := (33, 33, 37, 0, 0)) rfl).trans (gif (p := a = 0) inferInstance)
set_option maxRecDepth 10000 in
theorem g_138_33 : GO x d 138 Q 33 [v0, v1, v2] st I J = GO x d 138 Q 34 [v0, v1, v2] (.inl (1) :: st) I J := ge (A := (0, 34, 0, 0, 1)) rfl
set_option maxRecDepth 10000 in
theorem g_138_34 : GO x d 138 Q 34 [v0, v1, v2] st I J = GO x d 138 Q 38 [v0, v1, v2] st I J := ge (A := (35, 37, 38, 0, 0)) rfl
set_option maxRecDepth 10000 in
theorem g_138_37 : GO x d 138 Q 37 [v0, v1, v2] st I J = GO x d 138 Q 38 [v0, v1, v2] (.inl (0) :: st) I J := ge (A := (0, 38, 0, 0, 0)) rfl
set_option maxRecDepth 10000 in
theorem g_138_38 : GO x d 138 Q 38 [v0, v1, v2] [.inl a] I J = (ret01 a ∧ Q (some (.inl a)) I J) := ge (A := (56, 39, 0, 0, 0)) rfl
set_option maxRecDepth 10000 in
theorem e_138 : EX x (d + 1) 138 [.inr (.inr w0), .inl i0, .inl i1] I J Q = GO x d 138 Q 0 [some (.inr (.inr w0)), some (.inl i0), some (.inl i1)] [] I J := ex_eq (Nat.le_of_ble_eq_true rfl) rfl (Nat.le_of_ble_eq_true rfl) rfl
set_option maxRecDepth 10000 in
theorem g_139_0 : GO x d 139 Q 0 [some (.inr (.inr w)), v1, v2] st I J = GO x d 139 Q 1 [some (.inr (.inr w)), v1, v2] (.inr (.inr w) :: st) I J := ge (A := (2, 1, 0, 0, 0)) rfl
set_option maxRecDepth 10000 in
theorem g_139_1 : GO x d 139 Q 1 [v0, v1, v2] (.inr (.inr (.inl r)) :: st) I J = (okF r 10 2 ∧ GO x d 139 Q 4 [v0, v1, v2] (.inr (.inr (.inl (rfN r 2))) :: st) I J) := (ge (A := (39, 4, 10, 2, 0)) rfl).trans (gref (f := fun q => GO x d 139 Q 4 [v0, v1, v2] (.inr (.inr (.inl q)) :: st) I J))
set_option maxRecDepth 10000 in
theorem g_139_4 : GO x d 139 Q 4 [v0, v1, v2] st I J = GO x d 139 Q 6 [v0, v1, v2] (.inl (48) :: st) I J := ge (A := (0, 6, 0, 0, 48)) rfl
set_option maxRecDepth 10000 in
theorem g_139_6 : GO x d 139 Q 6 [v0, some (.inl a), v2] st I J = GO x d 139 Q 7 [v0, some (.inl a), v2] (.inl a :: st) I J := ge (A := (1, 7, 1, 0, 0)) rfl
set_option maxRecDepth 10000 in
theorem g_139_7 : GO x d 139 Q 7 [v0, v1, v2] (.inl b :: .inl a :: st) I J = GO x d 139 Q 8 [v0, v1, v2] (.inl (a + b) :: st) I J := ge (A := (8, 8, 0, 0, 0)) rfl
set_option maxRecDepth 10000 in
theorem g_139_8 : GO x d 139 Q 8 [v0, v1, some (.inl a)] st I J = GO x d 139 Q 9 [v0, v1, some (.inl a)] (.inl a :: st) I J := ge (A := (1, 9, 2, 0, 0)) rfl
set_option maxRecDepth 10000 in
theorem g_139_9 : GO x d 139 Q 9 [v0, v1, v2] (.inl b :: .inl a :: .inr (.inr (.inl r)) :: st) I J = (okA r 20 ∧ 0 ≤ a ∧ a < lnN r ∧ GO x d 139 Q 10 [v0, v1, v2] st (up I r a b) J) := ge (A := (45, 10, 0, 0, 0)) rfl
set_option maxRecDepth 10000 in
theorem g_139_10 : GO x d 139 Q 10 [some (.inr (.inr w)), v1, v2] st I J = GO x d 139 Q 11 [some (.inr (.inr w)), v1, v2] (.inr (.inr w) :: st) I J := ge (A := (2, 11, 0, 0, 0)) rfl
set_option maxRecDepth 10000 in
theorem g_139_11 : GO x d 139 Q 11 [v0, v1, v2] (.inr (.inr (.inl r)) :: st) I J = (okF r 10 2 ∧ GO x d 139 Q 14 [v0, v1, v2] (.inr (.inr (.inl (rfN r 2))) :: st) I J) := (ge (A := (39, 14, 10, 2, 0)) rfl).trans (gref (f := fun q => GO x d 139 Q 14 [v0, v1, v2] (.inr (.inr (.inl q)) :: st) I J))
set_option maxRecDepth 10000 in
theorem g_139_14 : GO x d 139 Q 14 [v0, v1, v2] st I J = GO x d 139 Q 16 [v0, v1, v2] (.inl (32) :: st) I J := ge (A := (0, 16, 0, 0, 32)) rfl
set_option maxRecDepth 10000 in
theorem g_139_16 : GO x d 139 Q 16 [v0, v1, some (.inl a)] st I J = GO x d 139 Q 17 [v0, v1, some (.inl a)] (.inl a :: st) I J := ge (A := (1, 17, 2, 0, 0)) rfl
set_option maxRecDepth 10000 in
theorem g_139_17 : GO x d 139 Q 17 [v0, v1, v2] (.inl b :: .inl a :: st) I J = GO x d 139 Q 18 [v0, v1, v2] (.inl (a + b) :: st) I J := ge (A := (8, 18, 0, 0, 0)) rfl
set_option maxRecDepth 10000 in
theorem g_139_18 : GO x d 139 Q 18 [some (.inr (.inr w)), v1, v2] st I J = GO x d 139 Q 19 [some (.inr (.inr w)), v1, v2] (.inr (.inr w) :: st) I J := ge (A := (2, 19, 0, 0, 0)) rfl
set_option maxRecDepth 10000 in
theorem g_139_19 : GO x d 139 Q 19 [v0, v1, v2] (.inr (.inr (.inl r)) :: st) I J = (okF r 10 2 ∧ GO x d 139 Q 22 [v0, v1, v2] (.inr (.inr (.inl (rfN r 2))) :: st) I J) := (ge (A := (39, 22, 10, 2, 0)) rfl).trans (gref (f := fun q => GO x d 139 Q 22 [v0, v1, v2] (.inr (.inr (.inl q)) :: st) I J))
set_option maxRecDepth 10000 in
theorem g_139_22 : GO x d 139 Q 22 [v0, v1, v2] st I J = GO x d 139 Q 24 [v0, v1, v2] (.inl (29) :: st) I J := ge (A := (0, 24, 0, 0, 29)) rfl
set_option maxRecDepth 10000 in
theorem h_139_24 : GO x d 139 Q 24 [v0, v1, v2] (.inl a :: .inr (.inr (.inr q)) :: st) I J = (q < 4 ∧ 0 ≤ a ∧ a < (roA x q).1 ∧ GO x d 139 Q 25 [v0, v1, v2] (.inl ((roA x q).2 a.toNat) :: st) I J) := ge (A := (44, 25, 0, 0, 0)) rfl
set_option maxRecDepth 10000 in
theorem g_139_24 : GO x d 139 Q 24 [v0, v1, v2] (.inl a :: .inr (.inr (.inl r)) :: st) I J = (okA r 20 ∧ 0 ≤ a ∧ a < lnN r ∧ GO x d 139 Q 25 [v0, v1, v2] (.inl (I r a) :: st) I J) := ge (A := (44, 25, 0, 0, 0)) rfl
set_option maxRecDepth 10000 in
theorem g_139_25 : GO x d 139 Q 25 [v0, v1, v2] (.inl b :: .inl a :: .inr (.inr (.inl r)) :: st) I J = (okA r 20 ∧ 0 ≤ a ∧ a < lnN r ∧ GO x d 139 Q 26 [v0, v1, v2] st (up I r a b) J) := ge (A := (45, 26, 0, 0, 0)) rfl
set_option maxRecDepth 10000 in
theorem g_139_26 : GO x d 139 Q 26 [some (.inr (.inr w)), v1, v2] st I J = GO x d 139 Q 27 [some (.inr (.inr w)), v1, v2] (.inr (.inr w) :: st) I J := ge (A := (2, 27, 0, 0, 0)) rfl
set_option maxRecDepth 10000 in
theorem g_139_27 : GO x d 139 Q 27 [v0, v1, v2] (.inr (.inr (.inl r)) :: st) I J = (okF r 10 2 ∧ GO x d 139 Q 30 [v0, v1, v2] (.inr (.inr (.inl (rfN r 2))) :: st) I J) := (ge (A := (39, 30, 10, 2, 0)) rfl).trans (gref (f := fun q => GO x d 139 Q 30 [v0, v1, v2] (.inr (.inr (.inl q)) :: st) I J))
set_option maxRecDepth 10000 in
theorem g_139_30 : GO x d 139 Q 30 [v0, v1, v2] st I J = GO x d 139 Q 32 [v0, v1, v2] (.inl (40) :: st) I J := ge (A := (0, 32, 0, 0, 40)) rfl
set_option maxRecDepth 10000 in
theorem g_139_32 : GO x d 139 Q 32 [v0, v1, some (.inl a)] st I J = GO x d 139 Q 33 [v0, v1, some (.inl a)] (.inl a :: st) I J := ge (A := (1, 33, 2, 0, 0)) rfl
set_option maxRecDepth 10000 in
theorem g_139_33 : GO x d 139 Q 33 [v0, v1, v2] (.inl b :: .inl a :: st) I J = GO x d 139 Q 34 [v0, v1, v2] (.inl (a + b) :: st) I J := ge (A := (8, 34, 0, 0, 0)) rfl
set_option maxRecDepth 10000 in
theorem g_139_34 : GO x d 139 Q 34 [v0, v1, v2] (.inl a :: .inr (.inr w) :: st) I J = GO x d 139 Q 35 [v0, v1, v2] (.inl a :: .inr (.inr w) :: .inl a :: .inr (.inr w) :: st) I J := ge (A := (32, 35, 0, 0, 0)) rfl
set_option maxRecDepth 10000 in
theorem h_139_35 : GO x d 139 Q 35 [v0, v1, v2] (.inl a :: .inr (.inr (.inr q)) :: st) I J = (q < 4 ∧ 0 ≤ a ∧ a < (roA x q).1 ∧ GO x d 139 Q 36 [v0, v1, v2] (.inl ((roA x q).2 a.toNat) :: st) I J) := ge (A := (44, 36, 0, 0, 0)) rfl
set_option maxRecDepth 10000 in
theorem g_139_35 : GO x d 139 Q 35 [v0, v1, v2] (.inl a :: .inr (.inr (.inl r)) :: st) I J = (okA r 20 ∧ 0 ≤ a ∧ a < lnN r ∧ GO x d 139 Q 36 [v0, v1, v2] (.inl (I r a) :: st) I J) := ge (A := (44, 36, 0, 0, 0)) rfl
set_option maxRecDepth 10000 in
theorem g_139_36 : GO x d 139 Q 36 [v0, v1, v2] st I J = GO x d 139 Q 37 [v0, v1, v2] (.inl (1) :: st) I J := ge (A := (0, 37, 0, 0, 1)) rfl
set_option maxRecDepth 10000 in
theorem g_139_37 : GO x d 139 Q 37 [v0, v1, v2] (.inl b :: .inl a :: st) I J = GO x d 139 Q 38 [v0, v1, v2] (.inl (a + b) :: st) I J := ge (A := (8, 38, 0, 0, 0)) rfl
set_option maxRecDepth 10000 in
theorem g_139_38 : GO x d 139 Q 38 [v0, v1, v2] (.inl b :: .inl a :: .inr (.inr (.inl r)) :: st) I J = (okA r 20 ∧ 0 ≤ a ∧ a < lnN r ∧ GO x d 139 Q 39 [v0, v1, v2] st (up I r a b) J) := ge (A := (45, 39, 0, 0, 0)) rfl
set_option maxRecDepth 10000 in
theorem g_139_39 : GO x d 139 Q 39 [some (.inr (.inr w)), v1, v2] st I J = GO x d 139 Q 40 [some (.inr (.inr w)), v1, v2] (.inr (.inr w) :: st) I J := ge (A := (2, 40, 0, 0, 0)) rfl
set_option maxRecDepth 10000 in
theorem g_139_40 : GO x d 139 Q 40 [v0, v1, v2] (.inr (.inr (.inl r)) :: st) I J = (okF r 10 2 ∧ GO x d 139 Q 43 [v0, v1, v2] (.inr (.inr (.inl (rfN r 2))) :: st) I J) := (ge (A := (39, 43, 10, 2, 0)) rfl).trans (gref (f := fun q => GO x d 139 Q 43 [v0, v1, v2] (.inr (.inr (.inl q)) :: st) I J))
set_option maxRecDepth 10000 in
theorem g_139_43 : GO x d 139 Q 43 [v0, v1, v2] st I J = GO x d 139 Q 45 [v0, v1, v2] (.inl (30) :: st) I J := ge (A := (0, 45, 0, 0, 30)) rfl
set_option maxRecDepth 10000 in
theorem g_139_45 : GO x d 139 Q 45 [some (.inr (.inr w)), v1, v2] st I J = GO x d 139 Q 46 [some (.inr (.inr w)), v1, v2] (.inr (.inr w) :: st) I J := ge (A := (2, 46, 0, 0, 0)) rfl
set_option maxRecDepth 10000 in
theorem g_139_46 : GO x d 139 Q 46 [v0, v1, v2] (.inr (.inr (.inl r)) :: st) I J = (okF r 10 2 ∧ GO x d 139 Q 49 [v0, v1, v2] (.inr (.inr (.inl (rfN r 2))) :: st) I J) := (ge (A := (39, 49, 10, 2, 0)) rfl).trans (gref (f := fun q => GO x d 139 Q 49 [v0, v1, v2] (.inr (.inr (.inl q)) :: st) I J))
set_option maxRecDepth 10000 in
theorem g_139_49 : GO x d 139 Q 49 [v0, v1, v2] st I J = GO x d 139 Q 51 [v0, v1, v2] (.inl (16) :: st) I J := ge (A := (0, 51, 0, 0, 16)) rfl
set_option maxRecDepth 10000 in
theorem g_139_51 : GO x d 139 Q 51 [v0, v1, some (.inl a)] st I J = GO x d 139 Q 52 [v0, v1, some (.inl a)] (.inl a :: st) I J := ge (A := (1, 52, 2, 0, 0)) rfl
set_option maxRecDepth 10000 in
theorem g_139_52 : GO x d 139 Q 52 [v0, v1, v2] (.inl b :: .inl a :: st) I J = GO x d 139 Q 53 [v0, v1, v2] (.inl (a + b) :: st) I J := ge (A := (8, 53, 0, 0, 0)) rfl
set_option maxRecDepth 10000 in
theorem h_139_53 : GO x d 139 Q 53 [v0, v1, v2] (.inl a :: .inr (.inr (.inr q)) :: st) I J = (q < 4 ∧ 0 ≤ a ∧ a < (roA x q).1 ∧ GO x d 139 Q 54 [v0, v1, v2] (.inl ((roA x q).2 a.toNat) :: st) I J) := ge (A := (44, 54, 0, 0, 0)) rfl
set_option maxRecDepth 10000 in
theorem g_139_53 : GO x d 139 Q 53 [v0, v1, v2] (.inl a :: .inr (.inr (.inl r)) :: st) I J = (okA r 20 ∧ 0 ≤ a ∧ a < lnN r ∧ GO x d 139 Q 54 [v0, v1, v2] (.inl (I r a) :: st) I J) := ge (A := (44, 54, 0, 0, 0)) rfl
set_option maxRecDepth 10000 in
theorem g_139_54 : GO x d 139 Q 54 [v0, v1, v2] (.inl b :: .inl a :: .inr (.inr (.inl r)) :: st) I J = (okA r 20 ∧ 0 ≤ a ∧ a < lnN r ∧ GO x d 139 Q 55 [v0, v1, v2] st (up I r a b) J) := ge (A := (45, 55, 0, 0, 0)) rfl
set_option maxRecDepth 10000 in
theorem g_139_55 : GO x d 139 Q 55 [some (.inr (.inr w)), v1, v2] st I J = GO x d 139 Q 56 [some (.inr (.inr w)), v1, v2] (.inr (.inr w) :: st) I J := ge (A := (2, 56, 0, 0, 0)) rfl
set_option maxRecDepth 10000 in
theorem g_139_56 : GO x d 139 Q 56 [v0, v1, v2] (.inr (.inr (.inl r)) :: st) I J = (okF r 10 2 ∧ GO x d 139 Q 59 [v0, v1, v2] (.inr (.inr (.inl (rfN r 2))) :: st) I J) := (ge (A := (39, 59, 10, 2, 0)) rfl).trans (gref (f := fun q => GO x d 139 Q 59 [v0, v1, v2] (.inr (.inr (.inl q)) :: st) I J))
set_option maxRecDepth 10000 in
theorem g_139_59 : GO x d 139 Q 59 [v0, v1, v2] st I J = GO x d 139 Q 61 [v0, v1, v2] (.inl (31) :: st) I J := ge (A := (0, 61, 0, 0, 31)) rfl
set_option maxRecDepth 10000 in
theorem g_139_61 : GO x d 139 Q 61 [v0, v1, v2] (.inl a :: .inr (.inr w) :: st) I J = GO x d 139 Q 62 [v0, v1, v2] (.inl a :: .inr (.inr w) :: .inl a :: .inr (.inr w) :: st) I J := ge (A := (32, 62, 0, 0, 0)) rfl
set_option maxRecDepth 10000 in
theorem h_139_62 : GO x d 139 Q 62 [v0, v1, v2] (.inl a :: .inr (.inr (.inr q)) :: st) I J = (q < 4 ∧ 0 ≤ a ∧ a < (roA x q).1 ∧ GO x d 139 Q 63 [v0, v1, v2] (.inl ((roA x q).2 a.toNat) :: st) I J) := ge (A := (44, 63, 0, 0, 0)) rfl
set_option maxRecDepth 10000 in
theorem g_139_62 : GO x d 139 Q 62 [v0, v1, v2] (.inl a :: .inr (.inr (.inl r)) :: st) I J = (okA r 20 ∧ 0 ≤ a ∧ a < lnN r ∧ GO x d 139 Q 63 [v0, v1, v2] (.inl (I r a) :: st) I J) := ge (A := (44, 63, 0, 0, 0)) rfl
set_option maxRecDepth 10000 in
theorem g_139_63 : GO x d 139 Q 63 [some (.inr (.inr w)), v1, v2] st I J = GO x d 139 Q 64 [some (.inr (.inr w)), v1, v2] (.inr (.inr w) :: st) I J := ge (A := (2, 64, 0, 0, 0)) rfl
set_option maxRecDepth 10000 in
theorem g_139_64 : GO x d 139 Q 64 [v0, v1, v2] (.inr (.inr (.inl r)) :: st) I J = (okF r 10 2 ∧ GO x d 139 Q 67 [v0, v1, v2] (.inr (.inr (.inl (rfN r 2))) :: st) I J) := (ge (A := (39, 67, 10, 2, 0)) rfl).trans (gref (f := fun q => GO x d 139 Q 67 [v0, v1, v2] (.inr (.inr (.inl q)) :: st) I J))
set_option maxRecDepth 10000 in
theorem g_139_67 : GO x d 139 Q 67 [v0, v1, v2] st I J = GO x d 139 Q 69 [v0, v1, v2] (.inl (8) :: st) I J := ge (A := (0, 69, 0, 0, 8)) rfl
set_option maxRecDepth 10000 in
theorem g_139_69 : GO x d 139 Q 69 [v0, v1, some (.inl a)] st I J = GO x d 139 Q 70 [v0, v1, some (.inl a)] (.inl a :: st) I J := ge (A := (1, 70, 2, 0, 0)) rfl
set_option maxRecDepth 10000 in
theorem g_139_70 : GO x d 139 Q 70 [v0, v1, v2] (.inl b :: .inl a :: st) I J = GO x d 139 Q 71 [v0, v1, v2] (.inl (a + b) :: st) I J := ge (A := (8, 71, 0, 0, 0)) rfl
set_option maxRecDepth 10000 in
theorem h_139_71 : GO x d 139 Q 71 [v0, v1, v2] (.inl a :: .inr (.inr (.inr q)) :: st) I J = (q < 4 ∧ 0 ≤ a ∧ a < (roA x q).1 ∧ GO x d 139 Q 72 [v0, v1, v2] (.inl ((roA x q).2 a.toNat) :: st) I J) := ge (A := (44, 72, 0, 0, 0)) rfl
set_option maxRecDepth 10000 in
theorem g_139_71 : GO x d 139 Q 71 [v0, v1, v2] (.inl a :: .inr (.inr (.inl r)) :: st) I J = (okA r 20 ∧ 0 ≤ a ∧ a < lnN r ∧ GO x d 139 Q 72 [v0, v1, v2] (.inl (I r a) :: st) I J) := ge (A := (44, 72, 0, 0, 0)) rfl
set_option maxRecDepth 10000 in
theorem g_139_72 : GO x d 139 Q 72 [v0, v1, v2] st I J = GO x d 139 Q 73 [v0, v1, v2] (.inl (2) :: st) I J := ge (A := (0, 73, 0, 0, 2)) rfl
set_option maxRecDepth 10000 in
theorem g_139_73 : GO x d 139 Q 73 [v0, v1, v2] (.inl b :: .inl a :: st) I J = (inR a ∧ inR b ∧ if a = b then GO x d 139 Q 76 [v0, v1, v2] st I J else GO x d 139 Q 80 [v0, v1, v2] st I J) := (ge (A := (34, 76, 80, 1, 0)) rfl).trans (gicn (p := a = b) inferInstance)
set_option maxRecDepth 10000 in
theorem g_139_76 : GO x d 139 Q 76 [v0, v1, v2] st I J = GO x d 139 Q 77 [v0, v1, v2] (.inl (1) :: st) I J := ge (A := (0, 77, 0, 0, 1)) rfl
set_option maxRecDepth 10000 in
theorem g_139_77 : GO x d 139 Q 77 [v0, v1, v2] st I J = GO x d 139 Q 81 [v0, v1, v2] st I J := ge (A := (35, 80, 81, 0, 0)) rfl
set_option maxRecDepth 10000 in
theorem g_139_80 : GO x d 139 Q 80 [v0, v1, v2] st I J = GO x d 139 Q 81 [v0, v1, v2] (.inl (0) :: st) I J := ge (A := (0, 81, 0, 0, 0)) rfl
set_option maxRecDepth 10000 in
theorem g_139_81 : GO x d 139 Q 81 [v0, v1, v2] (.inl b :: .inl a :: st) I J = GO x d 139 Q 82 [v0, v1, v2] (.inl (a + b) :: st) I J := ge (A := (8, 82, 0, 0, 0)) rfl
set_option maxRecDepth 10000 in
theorem g_139_82 : GO x d 139 Q 82 [v0, v1, v2] (.inl b :: .inl a :: .inr (.inr (.inl r)) :: st) I J = (okA r 20 ∧ 0 ≤ a ∧ a < lnN r ∧ GO x d 139 Q 83 [v0, v1, v2] st (up I r a b) J) := ge (A := (45, 83, 0, 0, 0)) rfl
set_option maxRecDepth 10000 in
theorem g_139_83 : GO x d 139 Q 83 [some (.inr (.inr w)), v1, v2] st I J = GO x d 139 Q 84 [some (.inr (.inr w)), v1, v2] (.inr (.inr w) :: st) I J := ge (A := (2, 84, 0, 0, 0)) rfl
set_option maxRecDepth 10000 in
theorem g_139_84 : GO x d 139 Q 84 [v0, v1, v2] (.inr (.inr (.inl r)) :: st) I J = (okF r 10 2 ∧ GO x d 139 Q 87 [v0, v1, v2] (.inr (.inr (.inl (rfN r 2))) :: st) I J) := (ge (A := (39, 87, 10, 2, 0)) rfl).trans (gref (f := fun q => GO x d 139 Q 87 [v0, v1, v2] (.inr (.inr (.inl q)) :: st) I J))
set_option maxRecDepth 10000 in
theorem g_139_87 : GO x d 139 Q 87 [v0, v1, v2] st I J = GO x d 139 Q 89 [v0, v1, v2] (.inl (29) :: st) I J := ge (A := (0, 89, 0, 0, 29)) rfl
set_option maxRecDepth 10000 in
theorem g_139_89 : GO x d 139 Q 89 [v0, v1, v2] (.inl a :: .inr (.inr w) :: st) I J = GO x d 139 Q 90 [v0, v1, v2] (.inl a :: .inr (.inr w) :: .inl a :: .inr (.inr w) :: st) I J := ge (A := (32, 90, 0, 0, 0)) rfl
set_option maxRecDepth 10000 in
theorem h_139_90 : GO x d 139 Q 90 [v0, v1, v2] (.inl a :: .inr (.inr (.inr q)) :: st) I J = (q < 4 ∧ 0 ≤ a ∧ a < (roA x q).1 ∧ GO x d 139 Q 91 [v0, v1, v2] (.inl ((roA x q).2 a.toNat) :: st) I J) := ge (A := (44, 91, 0, 0, 0)) rfl
set_option maxRecDepth 10000 in
theorem g_139_90 : GO x d 139 Q 90 [v0, v1, v2] (.inl a :: .inr (.inr (.inl r)) :: st) I J = (okA r 20 ∧ 0 ≤ a ∧ a < lnN r ∧ GO x d 139 Q 91 [v0, v1, v2] (.inl (I r a) :: st) I J) := ge (A := (44, 91, 0, 0, 0)) rfl
set_option maxRecDepth 10000 in
theorem g_139_91 : GO x d 139 Q 91 [some (.inr (.inr w)), v1, v2] st I J = GO x d 139 Q 92 [some (.inr (.inr w)), v1, v2] (.inr (.inr w) :: st) I J := ge (A := (2, 92, 0, 0, 0)) rfl
set_option maxRecDepth 10000 in
theorem g_139_92 : GO x d 139 Q 92 [v0, v1, v2] (.inr (.inr (.inl r)) :: st) I J = (okF r 10 2 ∧ GO x d 139 Q 95 [v0, v1, v2] (.inr (.inr (.inl (rfN r 2))) :: st) I J) := (ge (A := (39, 95, 10, 2, 0)) rfl).trans (gref (f := fun q => GO x d 139 Q 95 [v0, v1, v2] (.inr (.inr (.inl q)) :: st) I J))
set_option maxRecDepth 10000 in
theorem g_139_95 : GO x d 139 Q 95 [v0, v1, v2] st I J = GO x d 139 Q 97 [v0, v1, v2] (.inl (8) :: st) I J := ge (A := (0, 97, 0, 0, 8)) rfl
set_option maxRecDepth 10000 in
theorem g_139_97 : GO x d 139 Q 97 [v0, v1, some (.inl a)] st I J = GO x d 139 Q 98 [v0, v1, some (.inl a)] (.inl a :: st) I J := ge (A := (1, 98, 2, 0, 0)) rfl
set_option maxRecDepth 10000 in
theorem g_139_98 : GO x d 139 Q 98 [v0, v1, v2] (.inl b :: .inl a :: st) I J = GO x d 139 Q 99 [v0, v1, v2] (.inl (a + b) :: st) I J := ge (A := (8, 99, 0, 0, 0)) rfl
set_option maxRecDepth 10000 in
theorem h_139_99 : GO x d 139 Q 99 [v0, v1, v2] (.inl a :: .inr (.inr (.inr q)) :: st) I J = (q < 4 ∧ 0 ≤ a ∧ a < (roA x q).1 ∧ GO x d 139 Q 100 [v0, v1, v2] (.inl ((roA x q).2 a.toNat) :: st) I J) := ge (A := (44, 100, 0, 0, 0)) rfl
set_option maxRecDepth 10000 in
theorem g_139_99 : GO x d 139 Q 99 [v0, v1, v2] (.inl a :: .inr (.inr (.inl r)) :: st) I J = (okA r 20 ∧ 0 ≤ a ∧ a < lnN r ∧ GO x d 139 Q 100 [v0, v1, v2] (.inl (I r a) :: st) I J) := ge (A := (44, 100, 0, 0, 0)) rfl
set_option maxRecDepth 10000 in
theorem g_139_100 : GO x d 139 Q 100 [v0, v1, v2] st I J = GO x d 139 Q 101 [v0, v1, v2] (.inl (5) :: st) I J := ge (A := (0, 101, 0, 0, 5)) rfl
set_option maxRecDepth 10000 in
theorem g_139_101 : GO x d 139 Q 101 [v0, v1, v2] (.inl b :: .inl a :: st) I J = (inR a ∧ inR b ∧ if a = b then GO x d 139 Q 104 [v0, v1, v2] st I J else GO x d 139 Q 108 [v0, v1, v2] st I J) := (ge (A := (34, 104, 108, 1, 0)) rfl).trans (gicn (p := a = b) inferInstance)
set_option maxRecDepth 10000 in
theorem g_139_104 : GO x d 139 Q 104 [v0, v1, v2] st I J = GO x d 139 Q 105 [v0, v1, v2] (.inl (2) :: st) I J := ge (A := (0, 105, 0, 0, 2)) rfl
set_option maxRecDepth 10000 in
theorem g_139_105 : GO x d 139 Q 105 [v0, v1, v2] st I J = GO x d 139 Q 109 [v0, v1, v2] st I J := ge (A := (35, 108, 109, 0, 0)) rfl
set_option maxRecDepth 10000 in
theorem g_139_108 : GO x d 139 Q 108 [v0, v1, v2] st I J = GO x d 139 Q 109 [v0, v1, v2] (.inl (1) :: st) I J := ge (A := (0, 109, 0, 0, 1)) rfl
set_option maxRecDepth 10000 in
theorem g_139_109 : GO x d 139 Q 109 [v0, v1, v2] (.inl b :: .inl a :: st) I J = GO x d 139 Q 110 [v0, v1, v2] (.inl (a + b) :: st) I J := ge (A := (8, 110, 0, 0, 0)) rfl
set_option maxRecDepth 10000 in
theorem g_139_110 : GO x d 139 Q 110 [v0, v1, v2] (.inl b :: .inl a :: .inr (.inr (.inl r)) :: st) I J = (okA r 20 ∧ 0 ≤ a ∧ a < lnN r ∧ GO x d 139 Q 111 [v0, v1, v2] st (up I r a b) J) := ge (A := (45, 111, 0, 0, 0)) rfl
set_option maxRecDepth 10000 in
theorem g_139_111 : GO x d 139 Q 111 [v0, v1, v2] [] I J = Q none I J := ge (A := (57, 112, 0, 0, 0)) rfl
set_option maxRecDepth 10000 in
theorem e_139 : EX x (d + 1) 139 [.inr (.inr w0), .inl i0, .inl i1] I J Q = GO x d 139 Q 0 [some (.inr (.inr w0)), some (.inl i0), some (.inl i1)] [] I J := ex_eq (Nat.le_of_ble_eq_true rfl) rfl (Nat.le_of_ble_eq_true rfl) rfl
set_option maxRecDepth 10000 in
theorem g_140_0 : GO x d 140 Q 0 [some (.inr (.inr w)), v1] st I J = GO x d 140 Q 1 [some (.inr (.inr w)), v1] (.inr (.inr w) :: st) I J := ge (A := (2, 1, 0, 0, 0)) rfl
set_option maxRecDepth 10000 in
theorem g_140_1 : GO x d 140 Q 1 [v0, v1] (.inr (.inr (.inl r)) :: st) I J = (okF r 10 2 ∧ GO x d 140 Q 4 [v0, v1] (.inr (.inr (.inl (rfN r 2))) :: st) I J) := (ge (A := (39, 4, 10, 2, 0)) rfl).trans (gref (f := fun q => GO x d 140 Q 4 [v0, v1] (.inr (.inr (.inl q)) :: st) I J))
set_option maxRecDepth 10000 in
theorem g_140_4 : GO x d 140 Q 4 [v0, v1] st I J = GO x d 140 Q 6 [v0, v1] (.inl (48) :: st) I J := ge (A := (0, 6, 0, 0, 48)) rfl
set_option maxRecDepth 10000 in
theorem g_140_6 : GO x d 140 Q 6 [v0, some (.inl a)] st I J = GO x d 140 Q 7 [v0, some (.inl a)] (.inl a :: st) I J := ge (A := (1, 7, 1, 0, 0)) rfl
set_option maxRecDepth 10000 in
theorem g_140_7 : GO x d 140 Q 7 [v0, v1] (.inl b :: .inl a :: st) I J = GO x d 140 Q 8 [v0, v1] (.inl (a + b) :: st) I J := ge (A := (8, 8, 0, 0, 0)) rfl
set_option maxRecDepth 10000 in
theorem g_140_8 : GO x d 140 Q 8 [v0, v1] st I J = GO x d 140 Q 10 [v0, v1] (.inl (8) :: st) I J := ge (A := (0, 10, 0, 0, 8)) rfl
set_option maxRecDepth 10000 in
theorem g_140_10 : GO x d 140 Q 10 [v0, v1] (.inl b :: .inl a :: .inr (.inr (.inl r)) :: st) I J = (okA r 20 ∧ 0 ≤ a ∧ a < lnN r ∧ GO x d 140 Q 11 [v0, v1] st (up I r a b) J) := ge (A := (45, 11, 0, 0, 0)) rfl
set_option maxRecDepth 10000 in
theorem g_140_11 : GO x d 140 Q 11 [some (.inr (.inr w)), v1] st I J = GO x d 140 Q 12 [some (.inr (.inr w)), v1] (.inr (.inr w) :: st) I J := ge (A := (2, 12, 0, 0, 0)) rfl
set_option maxRecDepth 10000 in
theorem g_140_12 : GO x d 140 Q 12 [v0, v1] (.inr (.inr (.inl r)) :: st) I J = (okF r 10 2 ∧ GO x d 140 Q 15 [v0, v1] (.inr (.inr (.inl (rfN r 2))) :: st) I J) := (ge (A := (39, 15, 10, 2, 0)) rfl).trans (gref (f := fun q => GO x d 140 Q 15 [v0, v1] (.inr (.inr (.inl q)) :: st) I J))
set_option maxRecDepth 10000 in
theorem g_140_15 : GO x d 140 Q 15 [v0, v1] st I J = GO x d 140 Q 17 [v0, v1] (.inl (31) :: st) I J := ge (A := (0, 17, 0, 0, 31)) rfl
set_option maxRecDepth 10000 in
theorem g_140_17 : GO x d 140 Q 17 [v0, v1] (.inl a :: .inr (.inr w) :: st) I J = GO x d 140 Q 18 [v0, v1] (.inl a :: .inr (.inr w) :: .inl a :: .inr (.inr w) :: st) I J := ge (A := (32, 18, 0, 0, 0)) rfl
set_option maxRecDepth 10000 in
theorem h_140_18 : GO x d 140 Q 18 [v0, v1] (.inl a :: .inr (.inr (.inr q)) :: st) I J = (q < 4 ∧ 0 ≤ a ∧ a < (roA x q).1 ∧ GO x d 140 Q 19 [v0, v1] (.inl ((roA x q).2 a.toNat) :: st) I J) := ge (A := (44, 19, 0, 0, 0)) rfl
set_option maxRecDepth 10000 in
theorem g_140_18 : GO x d 140 Q 18 [v0, v1] (.inl a :: .inr (.inr (.inl r)) :: st) I J = (okA r 20 ∧ 0 ≤ a ∧ a < lnN r ∧ GO x d 140 Q 19 [v0, v1] (.inl (I r a) :: st) I J) := ge (A := (44, 19, 0, 0, 0)) rfl
set_option maxRecDepth 10000 in
theorem g_140_19 : GO x d 140 Q 19 [v0, v1] st I J = GO x d 140 Q 20 [v0, v1] (.inl (1) :: st) I J := ge (A := (0, 20, 0, 0, 1)) rfl
set_option maxRecDepth 10000 in
theorem g_140_20 : GO x d 140 Q 20 [v0, v1] (.inl b :: .inl a :: st) I J = GO x d 140 Q 21 [v0, v1] (.inl (a - b) :: st) I J := ge (A := (9, 21, 0, 0, 0)) rfl
set_option maxRecDepth 10000 in
theorem g_140_21 : GO x d 140 Q 21 [v0, v1] (.inl b :: .inl a :: .inr (.inr (.inl r)) :: st) I J = (okA r 20 ∧ 0 ≤ a ∧ a < lnN r ∧ GO x d 140 Q 22 [v0, v1] st (up I r a b) J) := ge (A := (45, 22, 0, 0, 0)) rfl
set_option maxRecDepth 10000 in
theorem g_140_22 : GO x d 140 Q 22 [some (.inr (.inr w)), v1] st I J = GO x d 140 Q 23 [some (.inr (.inr w)), v1] (.inr (.inr w) :: st) I J := ge (A := (2, 23, 0, 0, 0)) rfl
set_option maxRecDepth 10000 in
theorem g_140_23 : GO x d 140 Q 23 [v0, v1] (.inr (.inr (.inl r)) :: st) I J = (okF r 10 2 ∧ GO x d 140 Q 26 [v0, v1] (.inr (.inr (.inl (rfN r 2))) :: st) I J) := (ge (A := (39, 26, 10, 2, 0)) rfl).trans (gref (f := fun q => GO x d 140 Q 26 [v0, v1] (.inr (.inr (.inl q)) :: st) I J))
set_option maxRecDepth 10000 in
theorem g_140_26 : GO x d 140 Q 26 [v0, v1] st I J = GO x d 140 Q 28 [v0, v1] (.inl (29) :: st) I J := ge (A := (0, 28, 0, 0, 29)) rfl
set_option maxRecDepth 10000 in
theorem g_140_28 : GO x d 140 Q 28 [v0, v1] (.inl a :: .inr (.inr w) :: st) I J = GO x d 140 Q 29 [v0, v1] (.inl a :: .inr (.inr w) :: .inl a :: .inr (.inr w) :: st) I J := ge (A := (32, 29, 0, 0, 0)) rfl
set_option maxRecDepth 10000 in
theorem h_140_29 : GO x d 140 Q 29 [v0, v1] (.inl a :: .inr (.inr (.inr q)) :: st) I J = (q < 4 ∧ 0 ≤ a ∧ a < (roA x q).1 ∧ GO x d 140 Q 30 [v0, v1] (.inl ((roA x q).2 a.toNat) :: st) I J) := ge (A := (44, 30, 0, 0, 0)) rfl
set_option maxRecDepth 10000 in
theorem g_140_29 : GO x d 140 Q 29 [v0, v1] (.inl a :: .inr (.inr (.inl r)) :: st) I J = (okA r 20 ∧ 0 ≤ a ∧ a < lnN r ∧ GO x d 140 Q 30 [v0, v1] (.inl (I r a) :: st) I J) := ge (A := (44, 30, 0, 0, 0)) rfl
set_option maxRecDepth 10000 in
theorem g_140_30 : GO x d 140 Q 30 [v0, v1] st I J = GO x d 140 Q 31 [v0, v1] (.inl (1) :: st) I J := ge (A := (0, 31, 0, 0, 1)) rfl
set_option maxRecDepth 10000 in
theorem g_140_31 : GO x d 140 Q 31 [v0, v1] (.inl b :: .inl a :: st) I J = GO x d 140 Q 32 [v0, v1] (.inl (a + b) :: st) I J := ge (A := (8, 32, 0, 0, 0)) rfl
set_option maxRecDepth 10000 in
theorem g_140_32 : GO x d 140 Q 32 [v0, v1] (.inl b :: .inl a :: .inr (.inr (.inl r)) :: st) I J = (okA r 20 ∧ 0 ≤ a ∧ a < lnN r ∧ GO x d 140 Q 33 [v0, v1] st (up I r a b) J) := ge (A := (45, 33, 0, 0, 0)) rfl
set_option maxRecDepth 10000 in
theorem g_140_33 : GO x d 140 Q 33 [v0, v1] [] I J = Q none I J := ge (A := (57, 34, 0, 0, 0)) rfl
set_option maxRecDepth 10000 in
theorem e_140 : EX x (d + 1) 140 [.inr (.inr w0), .inl i0] I J Q = GO x d 140 Q 0 [some (.inr (.inr w0)), some (.inl i0)] [] I J := ex_eq (Nat.le_of_ble_eq_true rfl) rfl (Nat.le_of_ble_eq_true rfl) rfl
set_option maxRecDepth 10000 in
theorem g_141_0 : GO x d 141 Q 0 [some (.inr (.inr w)), v1, v2] st I J = GO x d 141 Q 1 [some (.inr (.inr w)), v1, v2] (.inr (.inr w) :: st) I J := ge (A := (2, 1, 0, 0, 0)) rfl
set_option maxRecDepth 10000 in
theorem g_141_1 : GO x d 141 Q 1 [v0, some (.inl a), v2] st I J = GO x d 141 Q 2 [v0, some (.inl a), v2] (.inl a :: st) I J := ge (A := (1, 2, 1, 0, 0)) rfl
set_option maxRecDepth 10000 in
theorem g_141_2 : GO x d 141 Q 2 [v0, v1, v2] [.inl i0, .inr (.inr (.inl r))] I J = (okO r 10 ∧ EX x d 112 [.inr (.inr (.inl r)), .inl i0] I J (fun r1 I1 J1 => GO x d 141 Q 5 [v0, v1, v2] (r1.toList ++ []) I1 J1)) := (ge (A := (53, 5, 112, 1, 0)) rfl).trans (gtrue (Nat.le_of_ble_eq_true rfl))
set_option maxRecDepth 10000 in
theorem g_141_5 : GO x d 141 Q 5 [v0, v1, v2] (.inl a :: st) I J = (inR a ∧ if a = 0 then GO x d 141 Q 16 [v0, v1, v2] st I J else GO x d 141 Q 8 [v0, v1, v2] st I J) := (ge (A := (33, 8, 16, 0, 0)) rfl).trans (gif (p := a = 0) inferInstance)
set_option maxRecDepth 10000 in
theorem g_141_8 : GO x d 141 Q 8 [some (.inr (.inr w)), v1, v2] st I J = GO x d 141 Q 9 [some (.inr (.inr w)), v1, v2] (.inr (.inr w) :: st) I J := ge (A := (2, 9, 0, 0, 0)) rfl
set_option maxRecDepth 10000 in
theorem g_141_9 : GO x d 141 Q 9 [v0, v1, some (.inl a)] st I J = GO x d 141 Q 10 [v0, v1, some (.inl a)] (.inl a :: st) I J := ge (A := (1, 10, 2, 0, 0)) rfl
set_option maxRecDepth 10000 in
theorem g_141_10 : GO x d 141 Q 10 [v0, v1, v2] [.inl i0, .inr (.inr (.inl r))] I J = (okO r 10 ∧ EX x d 111 [.inr (.inr (.inl r)), .inl i0] I J (fun r1 I1 J1 => GO x d 141 Q 13 [v0, v1, v2] (r1.toList ++ []) I1 J1)) := (ge (A := (53, 13, 111, 1, 0)) rfl).trans (gtrue (Nat.le_of_ble_eq_true rfl))
set_option maxRecDepth 10000 in
theorem g_141_13 : GO x d 141 Q 13 [v0, v1, v2] (.inl a :: st) I J = (inR a ∧ if a = 0 then GO x d 141 Q 16 [v0, v1, v2] st I J else GO x d 141 Q 19 [v0, v1, v2] st I J) := (ge (A := (33, 16, 19, 1, 0)) rfl).trans (gifn (p := a = 0) inferInstance)
set_option maxRecDepth 10000 in
theorem g_141_16 : GO x d 141 Q 16 [v0, v1, v2] st I J = GO x d 141 Q 18 [v0, v1, v2] (.inl (-1000001) :: st) I J := ge (A := (0, 18, 0, 0, -1000001)) rfl
set_option maxRecDepth 10000 in
theorem g_141_18 : GO x d 141 Q 18 [v0, v1, v2] [.inl a] I J = Q (some (.inl a)) I J := ge (A := (55, 19, 0, 0, 0)) rfl
set_option maxRecDepth 10000 in
theorem g_141_19 : GO x d 141 Q 19 [some (.inr (.inr w)), v1, v2] st I J = GO x d 141 Q 20 [some (.inr (.inr w)), v1, v2] (.inr (.inr w) :: st) I J := ge (A := (2, 20, 0, 0, 0)) rfl
set_option maxRecDepth 10000 in
theorem g_141_20 : GO x d 141 Q 20 [v0, some (.inl a), v2] st I J = GO x d 141 Q 21 [v0, some (.inl a), v2] (.inl a :: st) I J := ge (A := (1, 21, 1, 0, 0)) rfl
set_option maxRecDepth 10000 in
theorem g_141_21 : GO x d 141 Q 21 [v0, v1, some (.inl a)] st I J = GO x d 141 Q 22 [v0, v1, some (.inl a)] (.inl a :: st) I J := ge (A := (1, 22, 2, 0, 0)) rfl
set_option maxRecDepth 10000 in
theorem g_141_22 : GO x d 141 Q 22 [v0, v1, v2] [.inl i0, .inl i1, .inr (.inr (.inl r))] I J = (okO r 10 ∧ EX x d 138 [.inr (.inr (.inl r)), .inl i1, .inl i0] I J (fun r1 I1 J1 => GO x d 141 Q 25 [v0, v1, v2] (r1.toList ++ []) I1 J1)) := (ge (A := (53, 25, 138, 2, 0)) rfl).trans (gtrue (Nat.le_of_ble_eq_true rfl))
set_option maxRecDepth 10000 in
theorem g_141_25 : GO x d 141 Q 25 [v0, v1, v2] (.inl a :: st) I J = (inR a ∧ if a = 0 then GO x d 141 Q 28 [v0, v1, v2] st I J else GO x d 141 Q 31 [v0, v1, v2] st I J) := (ge (A := (33, 28, 31, 1, 0)) rfl).trans (gifn (p := a = 0) inferInstance)
set_option maxRecDepth 10000 in
theorem g_141_28 : GO x d 141 Q 28 [v0, v1, v2] st I J = GO x d 141 Q 30 [v0, v1, v2] (.inl (-1000002) :: st) I J := ge (A := (0, 30, 0, 0, -1000002)) rfl
set_option maxRecDepth 10000 in
theorem g_141_30 : GO x d 141 Q 30 [v0, v1, v2] [.inl a] I J = Q (some (.inl a)) I J := ge (A := (55, 31, 0, 0, 0)) rfl
set_option maxRecDepth 10000 in
theorem g_141_31 : GO x d 141 Q 31 [some (.inr (.inr w)), v1, v2] st I J = GO x d 141 Q 32 [some (.inr (.inr w)), v1, v2] (.inr (.inr w) :: st) I J := ge (A := (2, 32, 0, 0, 0)) rfl
set_option maxRecDepth 10000 in
theorem g_141_32 : GO x d 141 Q 32 [v0, v1, v2] [.inr (.inr (.inl r))] I J = (okO r 10 ∧ EX x d 137 [.inr (.inr (.inl r))] I J (fun r1 I1 J1 => GO x d 141 Q 35 [v0, v1, v2] (r1.toList ++ []) I1 J1)) := (ge (A := (53, 35, 137, 0, 0)) rfl).trans (gtrue (Nat.le_of_ble_eq_true rfl))
set_option maxRecDepth 10000 in
theorem g_141_35 : GO x d 141 Q 35 [some (.inr (.inr w)), v1, v2] st I J = GO x d 141 Q 36 [some (.inr (.inr w)), v1, v2] (.inr (.inr w) :: st) I J := ge (A := (2, 36, 0, 0, 0)) rfl
set_option maxRecDepth 10000 in
theorem g_141_36 : GO x d 141 Q 36 [v0, some (.inl a), v2] st I J = GO x d 141 Q 37 [v0, some (.inl a), v2] (.inl a :: st) I J := ge (A := (1, 37, 1, 0, 0)) rfl
set_option maxRecDepth 10000 in
theorem g_141_37 : GO x d 141 Q 37 [v0, v1, some (.inl a)] st I J = GO x d 141 Q 38 [v0, v1, some (.inl a)] (.inl a :: st) I J := ge (A := (1, 38, 2, 0, 0)) rfl
set_option maxRecDepth 10000 in
theorem g_141_38 : GO x d 141 Q 38 [v0, v1, v2] [.inl i0, .inl i1, .inr (.inr (.inl r))] I J = (okO r 10 ∧ EX x d 139 [.inr (.inr (.inl r)), .inl i1, .inl i0] I J (fun r1 I1 J1 => GO x d 141 Q 41 [v0, v1, v2] (r1.toList ++ []) I1 J1)) := (ge (A := (53, 41, 139, 2, 0)) rfl).trans (gtrue (Nat.le_of_ble_eq_true rfl))
set_option maxRecDepth 10000 in
theorem g_141_41 : GO x d 141 Q 41 [some (.inr (.inr w)), v1, v2] st I J = GO x d 141 Q 42 [some (.inr (.inr w)), v1, v2] (.inr (.inr w) :: st) I J := ge (A := (2, 42, 0, 0, 0)) rfl
set_option maxRecDepth 10000 in
theorem g_141_42 : GO x d 141 Q 42 [v0, v1, v2] (.inr (.inr (.inl r)) :: st) I J = (okF r 10 2 ∧ GO x d 141 Q 45 [v0, v1, v2] (.inr (.inr (.inl (rfN r 2))) :: st) I J) := (ge (A := (39, 45, 10, 2, 0)) rfl).trans (gref (f := fun q => GO x d 141 Q 45 [v0, v1, v2] (.inr (.inr (.inl q)) :: st) I J))
set_option maxRecDepth 10000 in
theorem g_141_45 : GO x d 141 Q 45 [v0, v1, v2] st I J = GO x d 141 Q 47 [v0, v1, v2] (.inl (29) :: st) I J := ge (A := (0, 47, 0, 0, 29)) rfl
set_option maxRecDepth 10000 in
theorem h_141_47 : GO x d 141 Q 47 [v0, v1, v2] (.inl a :: .inr (.inr (.inr q)) :: st) I J = (q < 4 ∧ 0 ≤ a ∧ a < (roA x q).1 ∧ GO x d 141 Q 48 [v0, v1, v2] (.inl ((roA x q).2 a.toNat) :: st) I J) := ge (A := (44, 48, 0, 0, 0)) rfl
set_option maxRecDepth 10000 in
theorem g_141_47 : GO x d 141 Q 47 [v0, v1, v2] (.inl a :: .inr (.inr (.inl r)) :: st) I J = (okA r 20 ∧ 0 ≤ a ∧ a < lnN r ∧ GO x d 141 Q 48 [v0, v1, v2] (.inl (I r a) :: st) I J) := ge (A := (44, 48, 0, 0, 0)) rfl
set_option maxRecDepth 10000 in
theorem g_141_48 : GO x d 141 Q 48 [v0, v1, v2] [.inl a] I J = Q (some (.inl a)) I J := ge (A := (55, 49, 0, 0, 0)) rfl
set_option maxRecDepth 10000 in
theorem e_141 : EX x (d + 1) 141 [.inr (.inr w0), .inl i0, .inl i1] I J Q = GO x d 141 Q 0 [some (.inr (.inr w0)), some (.inl i0), some (.inl i1)] [] I J := ex_eq (Nat.le_of_ble_eq_true rfl) rfl (Nat.le_of_ble_eq_true rfl) rfl
set_option maxRecDepth 10000 in
theorem g_142_0 : GO x d 142 Q 0 [some (.inr (.inr w)), v1] st I J = GO x d 142 Q 1 [some (.inr (.inr w)), v1] (.inr (.inr w) :: st) I J := ge (A := (2, 1, 0, 0, 0)) rfl
set_option maxRecDepth 10000 in
theorem g_142_1 : GO x d 142 Q 1 [v0, some (.inl a)] st I J = GO x d 142 Q 2 [v0, some (.inl a)] (.inl a :: st) I J := ge (A := (1, 2, 1, 0, 0)) rfl
set_option maxRecDepth 10000 in
theorem g_142_2 : GO x d 142 Q 2 [v0, v1] [.inl i0, .inr (.inr (.inl r))] I J = (okO r 10 ∧ EX x d 112 [.inr (.inr (.inl r)), .inl i0] I J (fun r1 I1 J1 => GO x d 142 Q 5 [v0, v1] (r1.toList ++ []) I1 J1)) := (ge (A := (53, 5, 112, 1, 0)) rfl).trans (gtrue (Nat.le_of_ble_eq_true rfl))
set_option maxRecDepth 10000 in
theorem g_142_5 : GO x d 142 Q 5 [v0, v1] (.inl a :: st) I J = (inR a ∧ if a = 0 then GO x d 142 Q 8 [v0, v1] st I J else GO x d 142 Q 11 [v0, v1] st I J) := (ge (A := (33, 8, 11, 1, 0)) rfl).trans (gifn (p := a = 0) inferInstance)
set_option maxRecDepth 10000 in
theorem g_142_8 : GO x d 142 Q 8 [v0, v1] st I J = GO x d 142 Q 10 [v0, v1] (.inl (-1000001) :: st) I J := ge (A := (0, 10, 0, 0, -1000001)) rfl
set_option maxRecDepth 10000 in
theorem g_142_10 : GO x d 142 Q 10 [v0, v1] [.inl a] I J = Q (some (.inl a)) I J := ge (A := (55, 11, 0, 0, 0)) rfl
set_option maxRecDepth 10000 in
theorem g_142_11 : GO x d 142 Q 11 [some (.inr (.inr w)), v1] st I J = GO x d 142 Q 12 [some (.inr (.inr w)), v1] (.inr (.inr w) :: st) I J := ge (A := (2, 12, 0, 0, 0)) rfl
set_option maxRecDepth 10000 in
theorem g_142_12 : GO x d 142 Q 12 [v0, some (.inl a)] st I J = GO x d 142 Q 13 [v0, some (.inl a)] (.inl a :: st) I J := ge (A := (1, 13, 1, 0, 0)) rfl
set_option maxRecDepth 10000 in
theorem g_142_13 : GO x d 142 Q 13 [v0, v1] [.inl i0, .inr (.inr (.inl r))] I J = (okO r 10 ∧ EX x d 136 [.inr (.inr (.inl r)), .inl i0] I J (fun r1 I1 J1 => GO x d 142 Q 16 [v0, v1] (r1.toList ++ []) I1 J1)) := (ge (A := (53, 16, 136, 1, 0)) rfl).trans (gtrue (Nat.le_of_ble_eq_true rfl))
set_option maxRecDepth 10000 in
theorem g_142_16 : GO x d 142 Q 16 [v0, v1] (.inl a :: st) I J = (inR a ∧ if a = 0 then GO x d 142 Q 19 [v0, v1] st I J else GO x d 142 Q 29 [v0, v1] st I J) := (ge (A := (33, 19, 29, 1, 0)) rfl).trans (gifn (p := a = 0) inferInstance)
set_option maxRecDepth 10000 in
theorem g_142_19 : GO x d 142 Q 19 [some (.inr (.inr w)), v1] st I J = GO x d 142 Q 20 [some (.inr (.inr w)), v1] (.inr (.inr w) :: st) I J := ge (A := (2, 20, 0, 0, 0)) rfl
set_option maxRecDepth 10000 in
theorem g_142_20 : GO x d 142 Q 20 [v0, v1] (.inr (.inr (.inl r)) :: st) I J = (okF r 10 2 ∧ GO x d 142 Q 23 [v0, v1] (.inr (.inr (.inl (rfN r 2))) :: st) I J) := (ge (A := (39, 23, 10, 2, 0)) rfl).trans (gref (f := fun q => GO x d 142 Q 23 [v0, v1] (.inr (.inr (.inl q)) :: st) I J))
set_option maxRecDepth 10000 in
theorem g_142_23 : GO x d 142 Q 23 [v0, v1] st I J = GO x d 142 Q 25 [v0, v1] (.inl (31) :: st) I J := ge (A := (0, 25, 0, 0, 31)) rfl
set_option maxRecDepth 10000 in
theorem h_142_25 : GO x d 142 Q 25 [v0, v1] (.inl a :: .inr (.inr (.inr q)) :: st) I J = (q < 4 ∧ 0 ≤ a ∧ a < (roA x q).1 ∧ GO x d 142 Q 26 [v0, v1] (.inl ((roA x q).2 a.toNat) :: st) I J) := ge (A := (44, 26, 0, 0, 0)) rfl
set_option maxRecDepth 10000 in
theorem g_142_25 : GO x d 142 Q 25 [v0, v1] (.inl a :: .inr (.inr (.inl r)) :: st) I J = (okA r 20 ∧ 0 ≤ a ∧ a < lnN r ∧ GO x d 142 Q 26 [v0, v1] (.inl (I r a) :: st) I J) := ge (A := (44, 26, 0, 0, 0)) rfl
set_option maxRecDepth 10000 in
theorem g_142_26 : GO x d 142 Q 26 [v0, v1] (.inl a :: st) I J = (inR a ∧ if a = 0 then GO x d 142 Q 29 [v0, v1] st I J else GO x d 142 Q 32 [v0, v1] st I J) := (ge (A := (33, 29, 32, 1, 0)) rfl).trans (gifn (p := a = 0) inferInstance)
set_option maxRecDepth 10000 in
theorem g_142_29 : GO x d 142 Q 29 [v0, v1] st I J = GO x d 142 Q 31 [v0, v1] (.inl (-1000002) :: st) I J := ge (A := (0, 31, 0, 0, -1000002)) rfl
set_option maxRecDepth 10000 in
theorem g_142_31 : GO x d 142 Q 31 [v0, v1] [.inl a] I J = Q (some (.inl a)) I J := ge (A := (55, 32, 0, 0, 0)) rfl
set_option maxRecDepth 10000 in
theorem g_142_32 : GO x d 142 Q 32 [some (.inr (.inr w)), v1] st I J = GO x d 142 Q 33 [some (.inr (.inr w)), v1] (.inr (.inr w) :: st) I J := ge (A := (2, 33, 0, 0, 0)) rfl
set_option maxRecDepth 10000 in
theorem g_142_33 : GO x d 142 Q 33 [v0, v1] [.inr (.inr (.inl r))] I J = (okO r 10 ∧ EX x d 137 [.inr (.inr (.inl r))] I J (fun r1 I1 J1 => GO x d 142 Q 36 [v0, v1] (r1.toList ++ []) I1 J1)) := (ge (A := (53, 36, 137, 0, 0)) rfl).trans (gtrue (Nat.le_of_ble_eq_true rfl))
set_option maxRecDepth 10000 in
theorem g_142_36 : GO x d 142 Q 36 [some (.inr (.inr w)), v1] st I J = GO x d 142 Q 37 [some (.inr (.inr w)), v1] (.inr (.inr w) :: st) I J := ge (A := (2, 37, 0, 0, 0)) rfl
set_option maxRecDepth 10000 in
theorem g_142_37 : GO x d 142 Q 37 [v0, some (.inl a)] st I J = GO x d 142 Q 38 [v0, some (.inl a)] (.inl a :: st) I J := ge (A := (1, 38, 1, 0, 0)) rfl
set_option maxRecDepth 10000 in
theorem g_142_38 : GO x d 142 Q 38 [v0, v1] [.inl i0, .inr (.inr (.inl r))] I J = (okO r 10 ∧ EX x d 140 [.inr (.inr (.inl r)), .inl i0] I J (fun r1 I1 J1 => GO x d 142 Q 41 [v0, v1] (r1.toList ++ []) I1 J1)) := (ge (A := (53, 41, 140, 1, 0)) rfl).trans (gtrue (Nat.le_of_ble_eq_true rfl))
set_option maxRecDepth 10000 in
theorem g_142_41 : GO x d 142 Q 41 [some (.inr (.inr w)), v1] st I J = GO x d 142 Q 42 [some (.inr (.inr w)), v1] (.inr (.inr w) :: st) I J := ge (A := (2, 42, 0, 0, 0)) rfl
set_option maxRecDepth 10000 in
theorem g_142_42 : GO x d 142 Q 42 [v0, v1] (.inr (.inr (.inl r)) :: st) I J = (okF r 10 2 ∧ GO x d 142 Q 45 [v0, v1] (.inr (.inr (.inl (rfN r 2))) :: st) I J) := (ge (A := (39, 45, 10, 2, 0)) rfl).trans (gref (f := fun q => GO x d 142 Q 45 [v0, v1] (.inr (.inr (.inl q)) :: st) I J))
set_option maxRecDepth 10000 in
theorem g_142_45 : GO x d 142 Q 45 [v0, v1] st I J = GO x d 142 Q 47 [v0, v1] (.inl (31) :: st) I J := ge (A := (0, 47, 0, 0, 31)) rfl
set_option maxRecDepth 10000 in
theorem h_142_47 : GO x d 142 Q 47 [v0, v1] (.inl a :: .inr (.inr (.inr q)) :: st) I J = (q < 4 ∧ 0 ≤ a ∧ a < (roA x q).1 ∧ GO x d 142 Q 48 [v0, v1] (.inl ((roA x q).2 a.toNat) :: st) I J) := ge (A := (44, 48, 0, 0, 0)) rfl
set_option maxRecDepth 10000 in
theorem g_142_47 : GO x d 142 Q 47 [v0, v1] (.inl a :: .inr (.inr (.inl r)) :: st) I J = (okA r 20 ∧ 0 ≤ a ∧ a < lnN r ∧ GO x d 142 Q 48 [v0, v1] (.inl (I r a) :: st) I J) := ge (A := (44, 48, 0, 0, 0)) rfl
set_option maxRecDepth 10000 in
theorem g_142_48 : GO x d 142 Q 48 [v0, v1] [.inl a] I J = Q (some (.inl a)) I J := ge (A := (55, 49, 0, 0, 0)) rfl
set_option maxRecDepth 10000 in
theorem e_142 : EX x (d + 1) 142 [.inr (.inr w0), .inl i0] I J Q = GO x d 142 Q 0 [some (.inr (.inr w0)), some (.inl i0)] [] I J := ex_eq (Nat.le_of_ble_eq_true rfl) rfl (Nat.le_of_ble_eq_true rfl) rfl
end
