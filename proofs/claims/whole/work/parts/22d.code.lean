section
variable {x : RO} {d : Nat} {Q : QT} {I : MI} {J : MJ} {v0 v1 v2 v3 v4 v5 v6 v7 v8 v9 v10 v11 v12 : Option AV} {st : List AV} {a b e : Int} {r q : Nat} {w w2 : Nat ⊕ Nat} {y z : Int64}
variable {i0 i1 i2 i3 i4 i5 i6 i7 i8 i9 : Int} {w0 w1 w3 w4 w5 w6 w7 w8 w9 : Nat ⊕ Nat} {l0 l1 l2 l3 l4 : Int64}
set_option maxRecDepth 10000 in
theorem g_88_0 : GO x d 88 Q 0 [some (.inr (.inr w)), v1, v2, v3] st I J = GO x d 88 Q 1 [some (.inr (.inr w)), v1, v2, v3] (.inr (.inr w) :: st) I J := ge (A := (2, 1, 0, 0, 0)) rfl
set_option maxRecDepth 10000 in
theorem g_88_1 : GO x d 88 Q 1 [v0, v1, v2, v3] (.inr (.inr (.inl r)) :: st) I J = (okF r 9 1 ∧ GO x d 88 Q 4 [v0, v1, v2, v3] (.inr (.inr (.inl (rfN r 1))) :: st) I J) := (ge (A := (39, 4, 9, 1, 0)) rfl).trans (gref (f := fun q => GO x d 88 Q 4 [v0, v1, v2, v3] (.inr (.inr (.inl q)) :: st) I J))
set_option maxRecDepth 10000 in
theorem g_88_4 : GO x d 88 Q 4 [v0, some (.inl a), v2, v3] st I J = GO x d 88 Q 5 [v0, some (.inl a), v2, v3] (.inl a :: st) I J := ge (A := (1, 5, 1, 0, 0)) rfl
set_option maxRecDepth 10000 in
theorem g_88_5 : GO x d 88 Q 5 [v0, v1, v2, v3] [.inl i0, .inr (.inr (.inl r))] I J = (okO r 3 ∧ EX x d 17 [.inr (.inr (.inl r)), .inl i0] I J (fun r1 I1 J1 => GO x d 88 Q 8 [v0, v1, v2, v3] (r1.toList ++ []) I1 J1)) := (ge (A := (53, 8, 17, 1, 0)) rfl).trans (gtrue (Nat.le_of_ble_eq_true rfl))
set_option maxRecDepth 10000 in
theorem g_88_8 : GO x d 88 Q 8 [v0, v1, v2, v3] (.inl a :: st) I J = (inR a ∧ if a = 0 then GO x d 88 Q 11 [v0, v1, v2, v3] st I J else GO x d 88 Q 14 [v0, v1, v2, v3] st I J) := (ge (A := (33, 11, 14, 1, 0)) rfl).trans (gifn (p := a = 0) inferInstance)
set_option maxRecDepth 10000 in
theorem g_88_11 : GO x d 88 Q 11 [v0, v1, v2, v3] st I J = GO x d 88 Q 13 [v0, v1, v2, v3] (.inl (-1000001) :: st) I J := ge (A := (0, 13, 0, 0, -1000001)) rfl
set_option maxRecDepth 10000 in
theorem g_88_13 : GO x d 88 Q 13 [v0, v1, v2, v3] [.inl a] I J = Q (some (.inl a)) I J := ge (A := (55, 14, 0, 0, 0)) rfl
set_option maxRecDepth 10000 in
theorem g_88_14 : GO x d 88 Q 14 [some (.inr (.inr w)), v1, v2, v3] st I J = GO x d 88 Q 15 [some (.inr (.inr w)), v1, v2, v3] (.inr (.inr w) :: st) I J := ge (A := (2, 15, 0, 0, 0)) rfl
set_option maxRecDepth 10000 in
theorem g_88_15 : GO x d 88 Q 15 [v0, v1, v2, v3] (.inr (.inr (.inl r)) :: st) I J = (okF r 9 1 ∧ GO x d 88 Q 18 [v0, v1, v2, v3] (.inr (.inr (.inl (rfN r 1))) :: st) I J) := (ge (A := (39, 18, 9, 1, 0)) rfl).trans (gref (f := fun q => GO x d 88 Q 18 [v0, v1, v2, v3] (.inr (.inr (.inl q)) :: st) I J))
set_option maxRecDepth 10000 in
theorem g_88_18 : GO x d 88 Q 18 [v0, some (.inl a), v2, v3] st I J = GO x d 88 Q 19 [v0, some (.inl a), v2, v3] (.inl a :: st) I J := ge (A := (1, 19, 1, 0, 0)) rfl
set_option maxRecDepth 10000 in
theorem g_88_19 : GO x d 88 Q 19 [v0, v1, v2, v3] [.inl i0, .inr (.inr (.inl r))] I J = (okO r 3 ∧ EX x d 18 [.inr (.inr (.inl r)), .inl i0] I J (fun r1 I1 J1 => GO x d 88 Q 22 [v0, v1, v2, v3] (r1.toList ++ []) I1 J1)) := (ge (A := (53, 22, 18, 1, 0)) rfl).trans (gtrue (Nat.le_of_ble_eq_true rfl))
set_option maxRecDepth 10000 in
theorem g_88_22 : GO x d 88 Q 22 [v0, v1, v2, v3] (.inl a :: st) I J = (inR a ∧ if a = 0 then GO x d 88 Q 28 [v0, v1, v2, v3] st I J else GO x d 88 Q 25 [v0, v1, v2, v3] st I J) := (ge (A := (33, 25, 28, 0, 0)) rfl).trans (gif (p := a = 0) inferInstance)
set_option maxRecDepth 10000 in
theorem g_88_25 : GO x d 88 Q 25 [v0, v1, v2, v3] st I J = GO x d 88 Q 27 [v0, v1, v2, v3] (.inl (-1000002) :: st) I J := ge (A := (0, 27, 0, 0, -1000002)) rfl
set_option maxRecDepth 10000 in
theorem g_88_27 : GO x d 88 Q 27 [v0, v1, v2, v3] [.inl a] I J = Q (some (.inl a)) I J := ge (A := (55, 28, 0, 0, 0)) rfl
set_option maxRecDepth 10000 in
theorem g_88_28 : GO x d 88 Q 28 [v0, v1, v2, v3] st I J = GO x d 88 Q 29 [v0, v1, v2, v3] (.inl (0) :: st) I J := ge (A := (0, 29, 0, 0, 0)) rfl
set_option maxRecDepth 10000 in
theorem g_88_29 : GO x d 88 Q 29 [v0, v1, v2, v3] (.inl a :: st) I J = (nlO (some v1) = true ∧ GO x d 88 Q 30 [v0, v1, some (.inl a), v3] st I J) := (ge (A := (4, 30, 2, 0, 0)) rfl).trans (gst (Nat.le_of_ble_eq_true rfl) _)
set_option maxRecDepth 10000 in
theorem g_88_30 : GO x d 88 Q 30 [v0, v1, some (.inl a), v3] st I J = GO x d 88 Q 31 [v0, v1, some (.inl a), v3] (.inl a :: st) I J := ge (A := (1, 31, 2, 0, 0)) rfl
set_option maxRecDepth 10000 in
theorem g_88_31 : GO x d 88 Q 31 [v0, v1, v2, v3] st I J = GO x d 88 Q 33 [v0, v1, v2, v3] (.inl (48) :: st) I J := ge (A := (0, 33, 0, 0, 48)) rfl
set_option maxRecDepth 10000 in
theorem g_88_33 : GO x d 88 Q 33 [v0, v1, v2, v3] (.inl b :: .inl a :: st) I J = (inR a ∧ inR b ∧ if b < a then GO x d 88 Q 97 [v0, v1, v2, v3] st I J else GO x d 88 Q 36 [v0, v1, v2, v3] st I J) := (ge (A := (34, 36, 97, 4, 0)) rfl).trans (gic (p := b < a) inferInstance)
set_option maxRecDepth 10000 in
theorem g_88_36 : GO x d 88 Q 36 [some (.inr (.inr w)), v1, v2, v3] st I J = GO x d 88 Q 37 [some (.inr (.inr w)), v1, v2, v3] (.inr (.inr w) :: st) I J := ge (A := (2, 37, 0, 0, 0)) rfl
set_option maxRecDepth 10000 in
theorem g_88_37 : GO x d 88 Q 37 [v0, v1, v2, v3] (.inr (.inr (.inl r)) :: st) I J = (okF r 9 1 ∧ GO x d 88 Q 40 [v0, v1, v2, v3] (.inr (.inr (.inl (rfN r 1))) :: st) I J) := (ge (A := (39, 40, 9, 1, 0)) rfl).trans (gref (f := fun q => GO x d 88 Q 40 [v0, v1, v2, v3] (.inr (.inr (.inl q)) :: st) I J))
set_option maxRecDepth 10000 in
theorem g_88_40 : GO x d 88 Q 40 [some (.inr (.inr w)), v1, v2, v3] st I J = GO x d 88 Q 41 [some (.inr (.inr w)), v1, v2, v3] (.inr (.inr w) :: st) I J := ge (A := (2, 41, 0, 0, 0)) rfl
set_option maxRecDepth 10000 in
theorem g_88_41 : GO x d 88 Q 41 [v0, v1, v2, v3] (.inr (.inr (.inl r)) :: st) I J = (okF r 9 1 ∧ GO x d 88 Q 44 [v0, v1, v2, v3] (.inr (.inr (.inl (rfN r 1))) :: st) I J) := (ge (A := (39, 44, 9, 1, 0)) rfl).trans (gref (f := fun q => GO x d 88 Q 44 [v0, v1, v2, v3] (.inr (.inr (.inl q)) :: st) I J))
set_option maxRecDepth 10000 in
theorem g_88_44 : GO x d 88 Q 44 [v0, v1, v2, v3] (.inr (.inr (.inl r)) :: st) I J = (okF r 3 6 ∧ GO x d 88 Q 47 [v0, v1, v2, v3] (.inr (.inr (.inl (rfN r 6))) :: st) I J) := (ge (A := (39, 47, 3, 6, 0)) rfl).trans (gref (f := fun q => GO x d 88 Q 47 [v0, v1, v2, v3] (.inr (.inr (.inl q)) :: st) I J))
set_option maxRecDepth 10000 in
theorem g_88_47 : GO x d 88 Q 47 [some (.inr (.inr w)), v1, v2, v3] st I J = GO x d 88 Q 48 [some (.inr (.inr w)), v1, v2, v3] (.inr (.inr w) :: st) I J := ge (A := (2, 48, 0, 0, 0)) rfl
set_option maxRecDepth 10000 in
theorem g_88_48 : GO x d 88 Q 48 [v0, v1, v2, v3] (.inr (.inr (.inl r)) :: st) I J = (okF r 9 1 ∧ GO x d 88 Q 51 [v0, v1, v2, v3] (.inr (.inr (.inl (rfN r 1))) :: st) I J) := (ge (A := (39, 51, 9, 1, 0)) rfl).trans (gref (f := fun q => GO x d 88 Q 51 [v0, v1, v2, v3] (.inr (.inr (.inl q)) :: st) I J))
set_option maxRecDepth 10000 in
theorem g_88_51 : GO x d 88 Q 51 [v0, v1, v2, v3] (.inr (.inr (.inl r)) :: st) I J = (okO r 3 ∧ GO x d 88 Q 54 [v0, v1, v2, v3] (.inl (I r 11) :: st) I J) := ge (A := (37, 54, 3, 11, 0)) rfl
set_option maxRecDepth 10000 in
theorem g_88_54 : GO x d 88 Q 54 [v0, v1, some (.inl a), v3] st I J = GO x d 88 Q 55 [v0, v1, some (.inl a), v3] (.inl a :: st) I J := ge (A := (1, 55, 2, 0, 0)) rfl
set_option maxRecDepth 10000 in
theorem g_88_55 : GO x d 88 Q 55 [v0, v1, v2, v3] (.inl b :: .inl a :: st) I J = GO x d 88 Q 56 [v0, v1, v2, v3] (.inl (a + b) :: st) I J := ge (A := (8, 56, 0, 0, 0)) rfl
set_option maxRecDepth 10000 in
theorem g_88_56 : GO x d 88 Q 56 [some (.inr (.inr w)), v1, v2, v3] st I J = GO x d 88 Q 57 [some (.inr (.inr w)), v1, v2, v3] (.inr (.inr w) :: st) I J := ge (A := (2, 57, 0, 0, 0)) rfl
set_option maxRecDepth 10000 in
theorem g_88_57 : GO x d 88 Q 57 [v0, v1, v2, v3] (.inr (.inr (.inl r)) :: st) I J = (okF r 9 1 ∧ GO x d 88 Q 60 [v0, v1, v2, v3] (.inr (.inr (.inl (rfN r 1))) :: st) I J) := (ge (A := (39, 60, 9, 1, 0)) rfl).trans (gref (f := fun q => GO x d 88 Q 60 [v0, v1, v2, v3] (.inr (.inr (.inl q)) :: st) I J))
set_option maxRecDepth 10000 in
theorem g_88_60 : GO x d 88 Q 60 [v0, v1, v2, v3] (.inr (.inr (.inl r)) :: st) I J = (okO r 3 ∧ GO x d 88 Q 63 [v0, v1, v2, v3] (.inl (I r 12) :: st) I J) := ge (A := (37, 63, 3, 12, 0)) rfl
set_option maxRecDepth 10000 in
theorem g_88_63 : GO x d 88 Q 63 [v0, v1, v2, v3] [.inl i0, .inl i1, .inr (.inr w0), .inr (.inr (.inl r))] I J = (okO r 3 ∧ EX x d 22 [.inr (.inr (.inl r)), .inr (.inr w0), .inl i1, .inl i0] I J (fun r1 I1 J1 => GO x d 88 Q 66 [v0, v1, v2, v3] (r1.toList ++ []) I1 J1)) := (ge (A := (53, 66, 22, 3, 0)) rfl).trans (gtrue (Nat.le_of_ble_eq_true rfl))
set_option maxRecDepth 10000 in
theorem g_88_66 : GO x d 88 Q 66 [v0, v1, v2, v3] (.inl a :: st) I J = (nlO (some v2) = true ∧ GO x d 88 Q 67 [v0, v1, v2, some (.inl a)] st I J) := (ge (A := (4, 67, 3, 0, 0)) rfl).trans (gst (Nat.le_of_ble_eq_true rfl) _)
set_option maxRecDepth 10000 in
theorem g_88_67 : GO x d 88 Q 67 [v0, v1, v2, some (.inl a)] st I J = GO x d 88 Q 68 [v0, v1, v2, some (.inl a)] (.inl a :: st) I J := ge (A := (1, 68, 3, 0, 0)) rfl
set_option maxRecDepth 10000 in
theorem g_88_68 : GO x d 88 Q 68 [some (.inr (.inr w)), v1, v2, v3] st I J = GO x d 88 Q 69 [some (.inr (.inr w)), v1, v2, v3] (.inr (.inr w) :: st) I J := ge (A := (2, 69, 0, 0, 0)) rfl
set_option maxRecDepth 10000 in
theorem g_88_69 : GO x d 88 Q 69 [v0, v1, v2, v3] (.inr (.inr (.inl r)) :: st) I J = (okF r 9 1 ∧ GO x d 88 Q 72 [v0, v1, v2, v3] (.inr (.inr (.inl (rfN r 1))) :: st) I J) := (ge (A := (39, 72, 9, 1, 0)) rfl).trans (gref (f := fun q => GO x d 88 Q 72 [v0, v1, v2, v3] (.inr (.inr (.inl q)) :: st) I J))
set_option maxRecDepth 10000 in
theorem g_88_72 : GO x d 88 Q 72 [v0, v1, v2, v3] (.inr (.inr (.inl r)) :: st) I J = (okF r 3 9 ∧ GO x d 88 Q 75 [v0, v1, v2, v3] (.inr (.inr (.inl (rfN r 9))) :: st) I J) := (ge (A := (39, 75, 3, 9, 0)) rfl).trans (gref (f := fun q => GO x d 88 Q 75 [v0, v1, v2, v3] (.inr (.inr (.inl q)) :: st) I J))
set_option maxRecDepth 10000 in
theorem g_88_75 : GO x d 88 Q 75 [v0, some (.inl a), v2, v3] st I J = GO x d 88 Q 76 [v0, some (.inl a), v2, v3] (.inl a :: st) I J := ge (A := (1, 76, 1, 0, 0)) rfl
set_option maxRecDepth 10000 in
theorem h_88_76 : GO x d 88 Q 76 [v0, v1, v2, v3] (.inl a :: .inr (.inr (.inr q)) :: st) I J = (q < 4 ∧ 0 ≤ a ∧ a < (roA x q).1 ∧ GO x d 88 Q 77 [v0, v1, v2, v3] (.inl ((roA x q).2 a.toNat) :: st) I J) := ge (A := (44, 77, 0, 0, 0)) rfl
set_option maxRecDepth 10000 in
theorem g_88_76 : GO x d 88 Q 76 [v0, v1, v2, v3] (.inl a :: .inr (.inr (.inl r)) :: st) I J = (okA r 20 ∧ 0 ≤ a ∧ a < lnN r ∧ GO x d 88 Q 77 [v0, v1, v2, v3] (.inl (I r a) :: st) I J) := ge (A := (44, 77, 0, 0, 0)) rfl
set_option maxRecDepth 10000 in
theorem g_88_77 : GO x d 88 Q 77 [v0, v1, v2, v3] (.inl b :: .inl a :: st) I J = GO x d 88 Q 78 [v0, v1, v2, v3] (.inl (andI a b) :: st) I J := ge (A := (11, 78, 0, 0, 0)) rfl
set_option maxRecDepth 10000 in
theorem g_88_78 : GO x d 88 Q 78 [v0, v1, v2, v3] (.inl a :: st) I J = (inR a ∧ if a = 0 then GO x d 88 Q 91 [v0, v1, v2, v3] st I J else GO x d 88 Q 81 [v0, v1, v2, v3] st I J) := (ge (A := (33, 81, 91, 0, 0)) rfl).trans (gif (p := a = 0) inferInstance)
set_option maxRecDepth 10000 in
theorem g_88_81 : GO x d 88 Q 81 [some (.inr (.inr w)), v1, v2, v3] st I J = GO x d 88 Q 82 [some (.inr (.inr w)), v1, v2, v3] (.inr (.inr w) :: st) I J := ge (A := (2, 82, 0, 0, 0)) rfl
set_option maxRecDepth 10000 in
theorem g_88_82 : GO x d 88 Q 82 [v0, v1, v2, v3] (.inr (.inr (.inl r)) :: st) I J = (okF r 9 1 ∧ GO x d 88 Q 85 [v0, v1, v2, v3] (.inr (.inr (.inl (rfN r 1))) :: st) I J) := (ge (A := (39, 85, 9, 1, 0)) rfl).trans (gref (f := fun q => GO x d 88 Q 85 [v0, v1, v2, v3] (.inr (.inr (.inl q)) :: st) I J))
set_option maxRecDepth 10000 in
theorem g_88_85 : GO x d 88 Q 85 [v0, v1, v2, v3] (.inr (.inr (.inl r)) :: st) I J = (okO r 3 ∧ GO x d 88 Q 88 [v0, v1, v2, v3] (.inl (I r 11) :: st) I J) := ge (A := (37, 88, 3, 11, 0)) rfl
set_option maxRecDepth 10000 in
theorem g_88_88 : GO x d 88 Q 88 [v0, v1, some (.inl a), v3] st I J = GO x d 88 Q 89 [v0, v1, some (.inl a), v3] (.inl a :: st) I J := ge (A := (1, 89, 2, 0, 0)) rfl
set_option maxRecDepth 10000 in
theorem g_88_89 : GO x d 88 Q 89 [v0, v1, v2, v3] (.inl b :: .inl a :: st) I J = GO x d 88 Q 90 [v0, v1, v2, v3] (.inl (a + b) :: st) I J := ge (A := (8, 90, 0, 0, 0)) rfl
set_option maxRecDepth 10000 in
theorem g_88_90 : GO x d 88 Q 90 [v0, v1, v2, v3] [.inl a] I J = Q (some (.inl a)) I J := ge (A := (55, 91, 0, 0, 0)) rfl
set_option maxRecDepth 10000 in
theorem g_88_91 : GO x d 88 Q 91 [v0, v1, some (.inl a), v3] st I J = (nlO (some v1) = true ∧ GO x d 88 Q 94 [v0, v1, some (.inl (a + (1))), v3] st I J) := ge (A := (7, 94, 2, 0, 1)) rfl
set_option maxRecDepth 10000 in
theorem g_88_94 : GO x d 88 Q 94 [v0, v1, v2, v3] st I J = GO x d 88 Q 30 [v0, v1, v2, v3] st I J := ge (A := (35, 97, 30, 0, 0)) rfl
set_option maxRecDepth 10000 in
theorem g_88_97 : GO x d 88 Q 97 [v0, v1, v2, v3] st I J = GO x d 88 Q 99 [v0, v1, v2, v3] (.inl (-1000000) :: st) I J := ge (A := (0, 99, 0, 0, -1000000)) rfl
set_option maxRecDepth 10000 in
theorem g_88_99 : GO x d 88 Q 99 [v0, v1, v2, v3] [.inl a] I J = Q (some (.inl a)) I J := ge (A := (55, 100, 0, 0, 0)) rfl
set_option maxRecDepth 10000 in
theorem e_88 : EX x (d + 1) 88 [.inr (.inr w0), .inl i0] I J Q = GO x d 88 Q 0 [some (.inr (.inr w0)), some (.inl i0), none, none] [] I J := ex_eq (Nat.le_of_ble_eq_true rfl) rfl (Nat.le_of_ble_eq_true rfl) rfl
set_option maxRecDepth 10000 in
theorem g_89_0 : GO x d 89 Q 0 [some (.inr (.inr w)), v1] st I J = GO x d 89 Q 1 [some (.inr (.inr w)), v1] (.inr (.inr w) :: st) I J := ge (A := (2, 1, 0, 0, 0)) rfl
set_option maxRecDepth 10000 in
theorem g_89_1 : GO x d 89 Q 1 [v0, v1] (.inr (.inr (.inl r)) :: st) I J = (okF r 9 1 ∧ GO x d 89 Q 4 [v0, v1] (.inr (.inr (.inl (rfN r 1))) :: st) I J) := (ge (A := (39, 4, 9, 1, 0)) rfl).trans (gref (f := fun q => GO x d 89 Q 4 [v0, v1] (.inr (.inr (.inl q)) :: st) I J))
set_option maxRecDepth 10000 in
theorem g_89_4 : GO x d 89 Q 4 [v0, v1] (.inr (.inr (.inl r)) :: st) I J = (okO r 3 ∧ GO x d 89 Q 7 [v0, v1] (.inl (I r 0) :: st) I J) := ge (A := (37, 7, 3, 0, 0)) rfl
set_option maxRecDepth 10000 in
theorem g_89_7 : GO x d 89 Q 7 [v0, v1] (.inl a :: st) I J = (inR a ∧ if a = 0 then GO x d 89 Q 10 [v0, v1] st I J else GO x d 89 Q 13 [v0, v1] st I J) := (ge (A := (33, 10, 13, 1, 0)) rfl).trans (gifn (p := a = 0) inferInstance)
set_option maxRecDepth 10000 in
theorem g_89_10 : GO x d 89 Q 10 [v0, v1] st I J = GO x d 89 Q 12 [v0, v1] (.inl (-1000002) :: st) I J := ge (A := (0, 12, 0, 0, -1000002)) rfl
set_option maxRecDepth 10000 in
theorem g_89_12 : GO x d 89 Q 12 [v0, v1] [.inl a] I J = Q (some (.inl a)) I J := ge (A := (55, 13, 0, 0, 0)) rfl
set_option maxRecDepth 10000 in
theorem g_89_13 : GO x d 89 Q 13 [v0, some (.inl a)] st I J = GO x d 89 Q 14 [v0, some (.inl a)] (.inl a :: st) I J := ge (A := (1, 14, 1, 0, 0)) rfl
set_option maxRecDepth 10000 in
theorem g_89_14 : GO x d 89 Q 14 [v0, v1] st I J = GO x d 89 Q 15 [v0, v1] (.inl (-1) :: st) I J := ge (A := (0, 15, 0, 0, -1)) rfl
set_option maxRecDepth 10000 in
theorem g_89_15 : GO x d 89 Q 15 [v0, v1] (.inl b :: .inl a :: st) I J = (inR a ∧ inR b ∧ if a < b then GO x d 89 Q 23 [v0, v1] st I J else GO x d 89 Q 18 [v0, v1] st I J) := (ge (A := (34, 18, 23, 2, 0)) rfl).trans (gic (p := a < b) inferInstance)
set_option maxRecDepth 10000 in
theorem g_89_18 : GO x d 89 Q 18 [v0, some (.inl a)] st I J = GO x d 89 Q 19 [v0, some (.inl a)] (.inl a :: st) I J := ge (A := (1, 19, 1, 0, 0)) rfl
set_option maxRecDepth 10000 in
theorem g_89_19 : GO x d 89 Q 19 [v0, v1] st I J = GO x d 89 Q 20 [v0, v1] (.inl (5) :: st) I J := ge (A := (0, 20, 0, 0, 5)) rfl
set_option maxRecDepth 10000 in
theorem g_89_20 : GO x d 89 Q 20 [v0, v1] (.inl b :: .inl a :: st) I J = (inR a ∧ inR b ∧ if a < b then GO x d 89 Q 26 [v0, v1] st I J else GO x d 89 Q 23 [v0, v1] st I J) := (ge (A := (34, 23, 26, 2, 0)) rfl).trans (gic (p := a < b) inferInstance)
set_option maxRecDepth 10000 in
theorem g_89_23 : GO x d 89 Q 23 [v0, v1] st I J = GO x d 89 Q 25 [v0, v1] (.inl (-1000001) :: st) I J := ge (A := (0, 25, 0, 0, -1000001)) rfl
set_option maxRecDepth 10000 in
theorem g_89_25 : GO x d 89 Q 25 [v0, v1] [.inl a] I J = Q (some (.inl a)) I J := ge (A := (55, 26, 0, 0, 0)) rfl
set_option maxRecDepth 10000 in
theorem g_89_26 : GO x d 89 Q 26 [some (.inr (.inr w)), v1] st I J = GO x d 89 Q 27 [some (.inr (.inr w)), v1] (.inr (.inr w) :: st) I J := ge (A := (2, 27, 0, 0, 0)) rfl
set_option maxRecDepth 10000 in
theorem g_89_27 : GO x d 89 Q 27 [v0, v1] (.inr (.inr (.inl r)) :: st) I J = (okF r 9 6 ∧ GO x d 89 Q 30 [v0, v1] (.inr (.inr (.inl (rfN r 6))) :: st) I J) := (ge (A := (39, 30, 9, 6, 0)) rfl).trans (gref (f := fun q => GO x d 89 Q 30 [v0, v1] (.inr (.inr (.inl q)) :: st) I J))
set_option maxRecDepth 10000 in
theorem g_89_30 : GO x d 89 Q 30 [some (.inr (.inr w)), v1] st I J = GO x d 89 Q 31 [some (.inr (.inr w)), v1] (.inr (.inr w) :: st) I J := ge (A := (2, 31, 0, 0, 0)) rfl
set_option maxRecDepth 10000 in
theorem g_89_31 : GO x d 89 Q 31 [v0, v1] (.inr (.inr (.inl r)) :: st) I J = (okF r 9 1 ∧ GO x d 89 Q 34 [v0, v1] (.inr (.inr (.inl (rfN r 1))) :: st) I J) := (ge (A := (39, 34, 9, 1, 0)) rfl).trans (gref (f := fun q => GO x d 89 Q 34 [v0, v1] (.inr (.inr (.inl q)) :: st) I J))
set_option maxRecDepth 10000 in
theorem g_89_34 : GO x d 89 Q 34 [v0, v1] [.inr (.inr w0), .inr (.inr (.inl r))] I J = (okO r 4 ∧ EX x d 35 [.inr (.inr (.inl r)), .inr (.inr w0)] I J (fun r1 I1 J1 => GO x d 89 Q 37 [v0, v1] (r1.toList ++ []) I1 J1)) := (ge (A := (53, 37, 35, 1, 0)) rfl).trans (gtrue (Nat.le_of_ble_eq_true rfl))
set_option maxRecDepth 10000 in
theorem g_89_37 : GO x d 89 Q 37 [v0, some (.inl a)] st I J = GO x d 89 Q 38 [v0, some (.inl a)] (.inl a :: st) I J := ge (A := (1, 38, 1, 0, 0)) rfl
set_option maxRecDepth 10000 in
theorem g_89_38 : GO x d 89 Q 38 [v0, v1] (.inl a :: st) I J = (inR a ∧ if a < 0 then GO x d 89 Q 41 [v0, v1] st I J else GO x d 89 Q 51 [v0, v1] st I J) := (ge (A := (33, 41, 51, 3, 0)) rfl).trans (gge)
set_option maxRecDepth 10000 in
theorem g_89_41 : GO x d 89 Q 41 [some (.inr (.inr w)), v1] st I J = GO x d 89 Q 42 [some (.inr (.inr w)), v1] (.inr (.inr w) :: st) I J := ge (A := (2, 42, 0, 0, 0)) rfl
set_option maxRecDepth 10000 in
theorem g_89_42 : GO x d 89 Q 42 [v0, v1] (.inr (.inr (.inl r)) :: st) I J = (okF r 9 6 ∧ GO x d 89 Q 45 [v0, v1] (.inr (.inr (.inl (rfN r 6))) :: st) I J) := (ge (A := (39, 45, 9, 6, 0)) rfl).trans (gref (f := fun q => GO x d 89 Q 45 [v0, v1] (.inr (.inr (.inl q)) :: st) I J))
set_option maxRecDepth 10000 in
theorem g_89_45 : GO x d 89 Q 45 [v0, v1] [.inr (.inr (.inl r))] I J = (okO r 4 ∧ EX x d 36 [.inr (.inr (.inl r))] I J (fun r1 I1 J1 => GO x d 89 Q 48 [v0, v1] (r1.toList ++ []) I1 J1)) := (ge (A := (53, 48, 36, 0, 0)) rfl).trans (gtrue (Nat.le_of_ble_eq_true rfl))
set_option maxRecDepth 10000 in
theorem g_89_48 : GO x d 89 Q 48 [v0, v1] st I J = GO x d 89 Q 59 [v0, v1] st I J := ge (A := (35, 51, 59, 0, 0)) rfl
set_option maxRecDepth 10000 in
theorem g_89_51 : GO x d 89 Q 51 [some (.inr (.inr w)), v1] st I J = GO x d 89 Q 52 [some (.inr (.inr w)), v1] (.inr (.inr w) :: st) I J := ge (A := (2, 52, 0, 0, 0)) rfl
set_option maxRecDepth 10000 in
theorem g_89_52 : GO x d 89 Q 52 [v0, v1] (.inr (.inr (.inl r)) :: st) I J = (okF r 9 6 ∧ GO x d 89 Q 55 [v0, v1] (.inr (.inr (.inl (rfN r 6))) :: st) I J) := (ge (A := (39, 55, 9, 6, 0)) rfl).trans (gref (f := fun q => GO x d 89 Q 55 [v0, v1] (.inr (.inr (.inl q)) :: st) I J))
set_option maxRecDepth 10000 in
theorem g_89_55 : GO x d 89 Q 55 [v0, some (.inl a)] st I J = GO x d 89 Q 56 [v0, some (.inl a)] (.inl a :: st) I J := ge (A := (1, 56, 1, 0, 0)) rfl
set_option maxRecDepth 10000 in
theorem g_89_56 : GO x d 89 Q 56 [v0, v1] [.inl i0, .inr (.inr (.inl r))] I J = (okO r 4 ∧ EX x d 37 [.inr (.inr (.inl r)), .inl i0] I J (fun r1 I1 J1 => GO x d 89 Q 59 [v0, v1] (r1.toList ++ []) I1 J1)) := (ge (A := (53, 59, 37, 1, 0)) rfl).trans (gtrue (Nat.le_of_ble_eq_true rfl))
set_option maxRecDepth 10000 in
theorem g_89_59 : GO x d 89 Q 59 [v0, v1] [.inl a] I J = Q (some (.inl a)) I J := ge (A := (55, 60, 0, 0, 0)) rfl
set_option maxRecDepth 10000 in
theorem e_89 : EX x (d + 1) 89 [.inr (.inr w0), .inl i0] I J Q = GO x d 89 Q 0 [some (.inr (.inr w0)), some (.inl i0)] [] I J := ex_eq (Nat.le_of_ble_eq_true rfl) rfl (Nat.le_of_ble_eq_true rfl) rfl
set_option maxRecDepth 10000 in
theorem g_90_0 : GO x d 90 Q 0 [some (.inr (.inr w)), v1] st I J = GO x d 90 Q 1 [some (.inr (.inr w)), v1] (.inr (.inr w) :: st) I J := ge (A := (2, 1, 0, 0, 0)) rfl
set_option maxRecDepth 10000 in
theorem g_90_1 : GO x d 90 Q 1 [v0, v1] (.inr (.inr (.inl r)) :: st) I J = (okF r 9 1 ∧ GO x d 90 Q 4 [v0, v1] (.inr (.inr (.inl (rfN r 1))) :: st) I J) := (ge (A := (39, 4, 9, 1, 0)) rfl).trans (gref (f := fun q => GO x d 90 Q 4 [v0, v1] (.inr (.inr (.inl q)) :: st) I J))
set_option maxRecDepth 10000 in
theorem g_90_4 : GO x d 90 Q 4 [v0, v1] (.inr (.inr (.inl r)) :: st) I J = (okO r 3 ∧ GO x d 90 Q 7 [v0, v1] (.inl (I r 0) :: st) I J) := ge (A := (37, 7, 3, 0, 0)) rfl
set_option maxRecDepth 10000 in
theorem g_90_7 : GO x d 90 Q 7 [v0, v1] (.inl a :: st) I J = (inR a ∧ if a = 0 then GO x d 90 Q 10 [v0, v1] st I J else GO x d 90 Q 13 [v0, v1] st I J) := (ge (A := (33, 10, 13, 1, 0)) rfl).trans (gifn (p := a = 0) inferInstance)
set_option maxRecDepth 10000 in
theorem g_90_10 : GO x d 90 Q 10 [v0, v1] st I J = GO x d 90 Q 12 [v0, v1] (.inl (-1000002) :: st) I J := ge (A := (0, 12, 0, 0, -1000002)) rfl
set_option maxRecDepth 10000 in
theorem g_90_12 : GO x d 90 Q 12 [v0, v1] [.inl a] I J = Q (some (.inl a)) I J := ge (A := (55, 13, 0, 0, 0)) rfl
set_option maxRecDepth 10000 in
theorem g_90_13 : GO x d 90 Q 13 [v0, some (.inl a)] st I J = GO x d 90 Q 14 [v0, some (.inl a)] (.inl a :: st) I J := ge (A := (1, 14, 1, 0, 0)) rfl
set_option maxRecDepth 10000 in
theorem g_90_14 : GO x d 90 Q 14 [v0, v1] st I J = GO x d 90 Q 15 [v0, v1] (.inl (-1) :: st) I J := ge (A := (0, 15, 0, 0, -1)) rfl
set_option maxRecDepth 10000 in
theorem g_90_15 : GO x d 90 Q 15 [v0, v1] (.inl b :: .inl a :: st) I J = (inR a ∧ inR b ∧ if a < b then GO x d 90 Q 24 [v0, v1] st I J else GO x d 90 Q 18 [v0, v1] st I J) := (ge (A := (34, 18, 24, 2, 0)) rfl).trans (gic (p := a < b) inferInstance)
set_option maxRecDepth 10000 in
theorem g_90_18 : GO x d 90 Q 18 [v0, some (.inl a)] st I J = GO x d 90 Q 19 [v0, some (.inl a)] (.inl a :: st) I J := ge (A := (1, 19, 1, 0, 0)) rfl
set_option maxRecDepth 10000 in
theorem g_90_19 : GO x d 90 Q 19 [v0, v1] st I J = GO x d 90 Q 21 [v0, v1] (.inl (8) :: st) I J := ge (A := (0, 21, 0, 0, 8)) rfl
set_option maxRecDepth 10000 in
theorem g_90_21 : GO x d 90 Q 21 [v0, v1] (.inl b :: .inl a :: st) I J = (inR a ∧ inR b ∧ if a < b then GO x d 90 Q 27 [v0, v1] st I J else GO x d 90 Q 24 [v0, v1] st I J) := (ge (A := (34, 24, 27, 2, 0)) rfl).trans (gic (p := a < b) inferInstance)
set_option maxRecDepth 10000 in
theorem g_90_24 : GO x d 90 Q 24 [v0, v1] st I J = GO x d 90 Q 26 [v0, v1] (.inl (-1000001) :: st) I J := ge (A := (0, 26, 0, 0, -1000001)) rfl
set_option maxRecDepth 10000 in
theorem g_90_26 : GO x d 90 Q 26 [v0, v1] [.inl a] I J = Q (some (.inl a)) I J := ge (A := (55, 27, 0, 0, 0)) rfl
set_option maxRecDepth 10000 in
theorem g_90_27 : GO x d 90 Q 27 [some (.inr (.inr w)), v1] st I J = GO x d 90 Q 28 [some (.inr (.inr w)), v1] (.inr (.inr w) :: st) I J := ge (A := (2, 28, 0, 0, 0)) rfl
set_option maxRecDepth 10000 in
theorem g_90_28 : GO x d 90 Q 28 [v0, v1] (.inr (.inr (.inl r)) :: st) I J = (okF r 9 7 ∧ GO x d 90 Q 31 [v0, v1] (.inr (.inr (.inl (rfN r 7))) :: st) I J) := (ge (A := (39, 31, 9, 7, 0)) rfl).trans (gref (f := fun q => GO x d 90 Q 31 [v0, v1] (.inr (.inr (.inl q)) :: st) I J))
set_option maxRecDepth 10000 in
theorem g_90_31 : GO x d 90 Q 31 [some (.inr (.inr w)), v1] st I J = GO x d 90 Q 32 [some (.inr (.inr w)), v1] (.inr (.inr w) :: st) I J := ge (A := (2, 32, 0, 0, 0)) rfl
set_option maxRecDepth 10000 in
theorem g_90_32 : GO x d 90 Q 32 [v0, v1] (.inr (.inr (.inl r)) :: st) I J = (okF r 9 1 ∧ GO x d 90 Q 35 [v0, v1] (.inr (.inr (.inl (rfN r 1))) :: st) I J) := (ge (A := (39, 35, 9, 1, 0)) rfl).trans (gref (f := fun q => GO x d 90 Q 35 [v0, v1] (.inr (.inr (.inl q)) :: st) I J))
set_option maxRecDepth 10000 in
theorem g_90_35 : GO x d 90 Q 35 [v0, v1] [.inr (.inr w0), .inr (.inr (.inl r))] I J = (okO r 6 ∧ EX x d 47 [.inr (.inr (.inl r)), .inr (.inr w0)] I J (fun r1 I1 J1 => GO x d 90 Q 38 [v0, v1] (r1.toList ++ []) I1 J1)) := (ge (A := (53, 38, 47, 1, 0)) rfl).trans (gtrue (Nat.le_of_ble_eq_true rfl))
set_option maxRecDepth 10000 in
theorem g_90_38 : GO x d 90 Q 38 [v0, some (.inl a)] st I J = GO x d 90 Q 39 [v0, some (.inl a)] (.inl a :: st) I J := ge (A := (1, 39, 1, 0, 0)) rfl
set_option maxRecDepth 10000 in
theorem g_90_39 : GO x d 90 Q 39 [v0, v1] (.inl a :: st) I J = (inR a ∧ if a < 0 then GO x d 90 Q 42 [v0, v1] st I J else GO x d 90 Q 52 [v0, v1] st I J) := (ge (A := (33, 42, 52, 3, 0)) rfl).trans (gge)
set_option maxRecDepth 10000 in
theorem g_90_42 : GO x d 90 Q 42 [some (.inr (.inr w)), v1] st I J = GO x d 90 Q 43 [some (.inr (.inr w)), v1] (.inr (.inr w) :: st) I J := ge (A := (2, 43, 0, 0, 0)) rfl
set_option maxRecDepth 10000 in
theorem g_90_43 : GO x d 90 Q 43 [v0, v1] (.inr (.inr (.inl r)) :: st) I J = (okF r 9 7 ∧ GO x d 90 Q 46 [v0, v1] (.inr (.inr (.inl (rfN r 7))) :: st) I J) := (ge (A := (39, 46, 9, 7, 0)) rfl).trans (gref (f := fun q => GO x d 90 Q 46 [v0, v1] (.inr (.inr (.inl q)) :: st) I J))
set_option maxRecDepth 10000 in
theorem g_90_46 : GO x d 90 Q 46 [v0, v1] (.inr (.inr (.inl r)) :: st) I J = (okO r 6 ∧ GO x d 90 Q 49 [v0, v1] (.inl (I r 2) :: st) I J) := ge (A := (37, 49, 6, 2, 0)) rfl
set_option maxRecDepth 10000 in
theorem g_90_49 : GO x d 90 Q 49 [v0, v1] st I J = GO x d 90 Q 60 [v0, v1] st I J := ge (A := (35, 52, 60, 0, 0)) rfl
set_option maxRecDepth 10000 in
theorem g_90_52 : GO x d 90 Q 52 [some (.inr (.inr w)), v1] st I J = GO x d 90 Q 53 [some (.inr (.inr w)), v1] (.inr (.inr w) :: st) I J := ge (A := (2, 53, 0, 0, 0)) rfl
set_option maxRecDepth 10000 in
theorem g_90_53 : GO x d 90 Q 53 [v0, v1] (.inr (.inr (.inl r)) :: st) I J = (okF r 9 7 ∧ GO x d 90 Q 56 [v0, v1] (.inr (.inr (.inl (rfN r 7))) :: st) I J) := (ge (A := (39, 56, 9, 7, 0)) rfl).trans (gref (f := fun q => GO x d 90 Q 56 [v0, v1] (.inr (.inr (.inl q)) :: st) I J))
set_option maxRecDepth 10000 in
theorem g_90_56 : GO x d 90 Q 56 [v0, some (.inl a)] st I J = GO x d 90 Q 57 [v0, some (.inl a)] (.inl a :: st) I J := ge (A := (1, 57, 1, 0, 0)) rfl
set_option maxRecDepth 10000 in
theorem g_90_57 : GO x d 90 Q 57 [v0, v1] [.inl i0, .inr (.inr (.inl r))] I J = (okO r 6 ∧ EX x d 48 [.inr (.inr (.inl r)), .inl i0] I J (fun r1 I1 J1 => GO x d 90 Q 60 [v0, v1] (r1.toList ++ []) I1 J1)) := (ge (A := (53, 60, 48, 1, 0)) rfl).trans (gtrue (Nat.le_of_ble_eq_true rfl))
set_option maxRecDepth 10000 in
theorem g_90_60 : GO x d 90 Q 60 [v0, v1] [.inl a] I J = Q (some (.inl a)) I J := ge (A := (55, 61, 0, 0, 0)) rfl
set_option maxRecDepth 10000 in
theorem e_90 : EX x (d + 1) 90 [.inr (.inr w0), .inl i0] I J Q = GO x d 90 Q 0 [some (.inr (.inr w0)), some (.inl i0)] [] I J := ex_eq (Nat.le_of_ble_eq_true rfl) rfl (Nat.le_of_ble_eq_true rfl) rfl
set_option maxRecDepth 10000 in
theorem g_91_0 : GO x d 91 Q 0 [some (.inr (.inr w)), v1, v2, v3] st I J = GO x d 91 Q 1 [some (.inr (.inr w)), v1, v2, v3] (.inr (.inr w) :: st) I J := ge (A := (2, 1, 0, 0, 0)) rfl
set_option maxRecDepth 10000 in
theorem g_91_1 : GO x d 91 Q 1 [v0, v1, v2, v3] (.inr (.inr (.inl r)) :: st) I J = (okF r 9 1 ∧ GO x d 91 Q 4 [v0, v1, v2, v3] (.inr (.inr (.inl (rfN r 1))) :: st) I J) := (ge (A := (39, 4, 9, 1, 0)) rfl).trans (gref (f := fun q => GO x d 91 Q 4 [v0, v1, v2, v3] (.inr (.inr (.inl q)) :: st) I J))
set_option maxRecDepth 10000 in
theorem g_91_4 : GO x d 91 Q 4 [v0, v1, v2, v3] (.inr (.inr (.inl r)) :: st) I J = (okO r 3 ∧ GO x d 91 Q 7 [v0, v1, v2, v3] (.inl (I r 0) :: st) I J) := ge (A := (37, 7, 3, 0, 0)) rfl
set_option maxRecDepth 10000 in
theorem g_91_7 : GO x d 91 Q 7 [v0, v1, v2, v3] (.inl a :: st) I J = (inR a ∧ if a = 0 then GO x d 91 Q 10 [v0, v1, v2, v3] st I J else GO x d 91 Q 13 [v0, v1, v2, v3] st I J) := (ge (A := (33, 10, 13, 1, 0)) rfl).trans (gifn (p := a = 0) inferInstance)
set_option maxRecDepth 10000 in
theorem g_91_10 : GO x d 91 Q 10 [v0, v1, v2, v3] st I J = GO x d 91 Q 12 [v0, v1, v2, v3] (.inl (-1000002) :: st) I J := ge (A := (0, 12, 0, 0, -1000002)) rfl
set_option maxRecDepth 10000 in
theorem g_91_12 : GO x d 91 Q 12 [v0, v1, v2, v3] [.inl a] I J = Q (some (.inl a)) I J := ge (A := (55, 13, 0, 0, 0)) rfl
set_option maxRecDepth 10000 in
theorem g_91_13 : GO x d 91 Q 13 [v0, some (.inl a), v2, v3] st I J = GO x d 91 Q 14 [v0, some (.inl a), v2, v3] (.inl a :: st) I J := ge (A := (1, 14, 1, 0, 0)) rfl
set_option maxRecDepth 10000 in
theorem g_91_14 : GO x d 91 Q 14 [v0, v1, v2, v3] (.inl a :: st) I J = (inR a ∧ if a < 0 then GO x d 91 Q 39 [v0, v1, v2, v3] st I J else GO x d 91 Q 17 [v0, v1, v2, v3] st I J) := (ge (A := (33, 17, 39, 2, 0)) rfl).trans (gif (p := a < 0) inferInstance)
set_option maxRecDepth 10000 in
theorem g_91_17 : GO x d 91 Q 17 [v0, some (.inl a), v2, v3] st I J = GO x d 91 Q 18 [v0, some (.inl a), v2, v3] (.inl a :: st) I J := ge (A := (1, 18, 1, 0, 0)) rfl
set_option maxRecDepth 10000 in
theorem g_91_18 : GO x d 91 Q 18 [v0, v1, v2, v3] st I J = GO x d 91 Q 19 [v0, v1, v2, v3] (.inl (1) :: st) I J := ge (A := (0, 19, 0, 0, 1)) rfl
set_option maxRecDepth 10000 in
theorem g_91_19 : GO x d 91 Q 19 [some (.inr (.inr w)), v1, v2, v3] st I J = GO x d 91 Q 20 [some (.inr (.inr w)), v1, v2, v3] (.inr (.inr w) :: st) I J := ge (A := (2, 20, 0, 0, 0)) rfl
set_option maxRecDepth 10000 in
theorem g_91_20 : GO x d 91 Q 20 [v0, v1, v2, v3] (.inr (.inr (.inl r)) :: st) I J = (okF r 9 1 ∧ GO x d 91 Q 23 [v0, v1, v2, v3] (.inr (.inr (.inl (rfN r 1))) :: st) I J) := (ge (A := (39, 23, 9, 1, 0)) rfl).trans (gref (f := fun q => GO x d 91 Q 23 [v0, v1, v2, v3] (.inr (.inr (.inl q)) :: st) I J))
set_option maxRecDepth 10000 in
theorem g_91_23 : GO x d 91 Q 23 [v0, v1, v2, v3] (.inr (.inr (.inl r)) :: st) I J = (okO r 3 ∧ GO x d 91 Q 26 [v0, v1, v2, v3] (.inl (I r 8) :: st) I J) := ge (A := (37, 26, 3, 8, 0)) rfl
set_option maxRecDepth 10000 in
theorem g_91_26 : GO x d 91 Q 26 [v0, v1, v2, v3] (.inl b :: .inl a :: st) I J = GO x d 91 Q 27 [v0, v1, v2, v3] (.inl (shlI a b) :: st) I J := ge (A := (14, 27, 0, 0, 0)) rfl
set_option maxRecDepth 10000 in
theorem g_91_27 : GO x d 91 Q 27 [v0, v1, v2, v3] (.inl b :: .inl a :: st) I J = (inR a ∧ inR b ∧ if a < b then GO x d 91 Q 30 [v0, v1, v2, v3] st I J else GO x d 91 Q 39 [v0, v1, v2, v3] st I J) := (ge (A := (34, 30, 39, 3, 0)) rfl).trans (ggec)
set_option maxRecDepth 10000 in
theorem g_91_30 : GO x d 91 Q 30 [v0, v1, some (.inl a), v3] st I J = GO x d 91 Q 31 [v0, v1, some (.inl a), v3] (.inl a :: st) I J := ge (A := (1, 31, 2, 0, 0)) rfl
set_option maxRecDepth 10000 in
theorem g_91_31 : GO x d 91 Q 31 [v0, v1, v2, v3] (.inl a :: st) I J = (inR a ∧ if a < 0 then GO x d 91 Q 39 [v0, v1, v2, v3] st I J else GO x d 91 Q 34 [v0, v1, v2, v3] st I J) := (ge (A := (33, 34, 39, 2, 0)) rfl).trans (gif (p := a < 0) inferInstance)
set_option maxRecDepth 10000 in
theorem g_91_34 : GO x d 91 Q 34 [v0, v1, some (.inl a), v3] st I J = GO x d 91 Q 35 [v0, v1, some (.inl a), v3] (.inl a :: st) I J := ge (A := (1, 35, 2, 0, 0)) rfl
set_option maxRecDepth 10000 in
theorem g_91_35 : GO x d 91 Q 35 [v0, v1, v2, v3] st I J = GO x d 91 Q 36 [v0, v1, v2, v3] (.inl (1) :: st) I J := ge (A := (0, 36, 0, 0, 1)) rfl
set_option maxRecDepth 10000 in
theorem g_91_36 : GO x d 91 Q 36 [v0, v1, v2, v3] (.inl b :: .inl a :: st) I J = (inR a ∧ inR b ∧ if b < a then GO x d 91 Q 39 [v0, v1, v2, v3] st I J else GO x d 91 Q 42 [v0, v1, v2, v3] st I J) := (ge (A := (34, 39, 42, 5, 0)) rfl).trans (ggec)
set_option maxRecDepth 10000 in
theorem g_91_39 : GO x d 91 Q 39 [v0, v1, v2, v3] st I J = GO x d 91 Q 41 [v0, v1, v2, v3] (.inl (-1000001) :: st) I J := ge (A := (0, 41, 0, 0, -1000001)) rfl
set_option maxRecDepth 10000 in
theorem g_91_41 : GO x d 91 Q 41 [v0, v1, v2, v3] [.inl a] I J = Q (some (.inl a)) I J := ge (A := (55, 42, 0, 0, 0)) rfl
set_option maxRecDepth 10000 in
theorem g_91_42 : GO x d 91 Q 42 [some (.inr (.inr w)), v1, v2, v3] st I J = GO x d 91 Q 43 [some (.inr (.inr w)), v1, v2, v3] (.inr (.inr w) :: st) I J := ge (A := (2, 43, 0, 0, 0)) rfl
set_option maxRecDepth 10000 in
theorem g_91_43 : GO x d 91 Q 43 [v0, v1, v2, v3] (.inr (.inr (.inl r)) :: st) I J = (okF r 9 1 ∧ GO x d 91 Q 46 [v0, v1, v2, v3] (.inr (.inr (.inl (rfN r 1))) :: st) I J) := (ge (A := (39, 46, 9, 1, 0)) rfl).trans (gref (f := fun q => GO x d 91 Q 46 [v0, v1, v2, v3] (.inr (.inr (.inl q)) :: st) I J))
set_option maxRecDepth 10000 in
theorem g_91_46 : GO x d 91 Q 46 [v0, some (.inl a), v2, v3] st I J = GO x d 91 Q 47 [v0, some (.inl a), v2, v3] (.inl a :: st) I J := ge (A := (1, 47, 1, 0, 0)) rfl
set_option maxRecDepth 10000 in
theorem g_91_47 : GO x d 91 Q 47 [v0, v1, v2, v3] [.inl i0, .inr (.inr (.inl r))] I J = (okO r 3 ∧ EX x d 29 [.inr (.inr (.inl r)), .inl i0] I J (fun r1 I1 J1 => GO x d 91 Q 50 [v0, v1, v2, v3] (r1.toList ++ []) I1 J1)) := (ge (A := (53, 50, 29, 1, 0)) rfl).trans (gtrue (Nat.le_of_ble_eq_true rfl))
set_option maxRecDepth 10000 in
theorem g_91_50 : GO x d 91 Q 50 [v0, v1, v2, v3] (.inl a :: st) I J = (nlO (some v2) = true ∧ GO x d 91 Q 51 [v0, v1, v2, some (.inl a)] st I J) := (ge (A := (4, 51, 3, 0, 0)) rfl).trans (gst (Nat.le_of_ble_eq_true rfl) _)
set_option maxRecDepth 10000 in
theorem g_91_51 : GO x d 91 Q 51 [v0, v1, some (.inl a), v3] st I J = GO x d 91 Q 52 [v0, v1, some (.inl a), v3] (.inl a :: st) I J := ge (A := (1, 52, 2, 0, 0)) rfl
set_option maxRecDepth 10000 in
theorem g_91_52 : GO x d 91 Q 52 [v0, v1, v2, v3] (.inl a :: st) I J = (inR a ∧ if a = 0 then GO x d 91 Q 55 [v0, v1, v2, v3] st I J else GO x d 91 Q 62 [v0, v1, v2, v3] st I J) := (ge (A := (33, 55, 62, 1, 0)) rfl).trans (gifn (p := a = 0) inferInstance)
set_option maxRecDepth 10000 in
theorem g_91_55 : GO x d 91 Q 55 [v0, v1, v2, some (.inl a)] st I J = GO x d 91 Q 56 [v0, v1, v2, some (.inl a)] (.inl a :: st) I J := ge (A := (1, 56, 3, 0, 0)) rfl
set_option maxRecDepth 10000 in
theorem g_91_56 : GO x d 91 Q 56 [v0, v1, v2, v3] [.inl i0] I J = EX x d 182 [.inl i0] I J (fun r1 I1 J1 => GO x d 91 Q 59 [v0, v1, v2, v3] (r1.toList ++ []) I1 J1) := (ge (A := (52, 59, 182, 1, 0)) rfl).trans (gtrue2 (Nat.le_of_ble_eq_true rfl) (Nat.le_of_ble_eq_true rfl))
set_option maxRecDepth 10000 in
theorem g_91_59 : GO x d 91 Q 59 [v0, v1, v2, v3] st I J = GO x d 91 Q 63 [v0, v1, v2, v3] st I J := ge (A := (35, 62, 63, 0, 0)) rfl
set_option maxRecDepth 10000 in
theorem g_91_62 : GO x d 91 Q 62 [v0, v1, v2, some (.inl a)] st I J = GO x d 91 Q 63 [v0, v1, v2, some (.inl a)] (.inl a :: st) I J := ge (A := (1, 63, 3, 0, 0)) rfl
set_option maxRecDepth 10000 in
theorem g_91_63 : GO x d 91 Q 63 [v0, v1, v2, v3] [.inl a] I J = Q (some (.inl a)) I J := ge (A := (55, 64, 0, 0, 0)) rfl
set_option maxRecDepth 10000 in
theorem e_91 : EX x (d + 1) 91 [.inr (.inr w0), .inl i0, .inl i1] I J Q = GO x d 91 Q 0 [some (.inr (.inr w0)), some (.inl i0), some (.inl i1), none] [] I J := ex_eq (Nat.le_of_ble_eq_true rfl) rfl (Nat.le_of_ble_eq_true rfl) rfl
set_option maxRecDepth 10000 in
theorem g_92_0 : GO x d 92 Q 0 [some (.inr (.inr w)), v1, v2, v3, v4, v5] st I J = GO x d 92 Q 1 [some (.inr (.inr w)), v1, v2, v3, v4, v5] (.inr (.inr w) :: st) I J := ge (A := (2, 1, 0, 0, 0)) rfl
set_option maxRecDepth 10000 in
theorem g_92_1 : GO x d 92 Q 1 [v0, v1, v2, v3, v4, v5] (.inr (.inr (.inl r)) :: st) I J = (okF r 9 1 ∧ GO x d 92 Q 4 [v0, v1, v2, v3, v4, v5] (.inr (.inr (.inl (rfN r 1))) :: st) I J) := (ge (A := (39, 4, 9, 1, 0)) rfl).trans (gref (f := fun q => GO x d 92 Q 4 [v0, v1, v2, v3, v4, v5] (.inr (.inr (.inl q)) :: st) I J))
set_option maxRecDepth 10000 in
theorem g_92_4 : GO x d 92 Q 4 [v0, v1, v2, v3, v4, v5] (.inr (.inr (.inl r)) :: st) I J = (okO r 3 ∧ GO x d 92 Q 7 [v0, v1, v2, v3, v4, v5] (.inl (I r 0) :: st) I J) := ge (A := (37, 7, 3, 0, 0)) rfl
set_option maxRecDepth 10000 in
theorem g_92_7 : GO x d 92 Q 7 [v0, v1, v2, v3, v4, v5] (.inl a :: st) I J = (inR a ∧ if a = 0 then GO x d 92 Q 10 [v0, v1, v2, v3, v4, v5] st I J else GO x d 92 Q 13 [v0, v1, v2, v3, v4, v5] st I J) := (ge (A := (33, 10, 13, 1, 0)) rfl).trans (gifn (p := a = 0) inferInstance)
set_option maxRecDepth 10000 in
theorem g_92_10 : GO x d 92 Q 10 [v0, v1, v2, v3, v4, v5] st I J = GO x d 92 Q 12 [v0, v1, v2, v3, v4, v5] (.inl (-1000002) :: st) I J := ge (A := (0, 12, 0, 0, -1000002)) rfl
set_option maxRecDepth 10000 in
theorem g_92_12 : GO x d 92 Q 12 [v0, v1, v2, v3, v4, v5] [.inl a] I J = Q (some (.inl a)) I J := ge (A := (55, 13, 0, 0, 0)) rfl
set_option maxRecDepth 10000 in
theorem g_92_13 : GO x d 92 Q 13 [v0, some (.inl a), v2, v3, v4, v5] st I J = GO x d 92 Q 14 [v0, some (.inl a), v2, v3, v4, v5] (.inl a :: st) I J := ge (A := (1, 14, 1, 0, 0)) rfl
set_option maxRecDepth 10000 in
theorem g_92_14 : GO x d 92 Q 14 [v0, v1, v2, v3, v4, v5] (.inl a :: st) I J = (inR a ∧ if a < 0 then GO x d 92 Q 22 [v0, v1, v2, v3, v4, v5] st I J else GO x d 92 Q 17 [v0, v1, v2, v3, v4, v5] st I J) := (ge (A := (33, 17, 22, 2, 0)) rfl).trans (gif (p := a < 0) inferInstance)
set_option maxRecDepth 10000 in
theorem g_92_17 : GO x d 92 Q 17 [v0, some (.inl a), v2, v3, v4, v5] st I J = GO x d 92 Q 18 [v0, some (.inl a), v2, v3, v4, v5] (.inl a :: st) I J := ge (A := (1, 18, 1, 0, 0)) rfl
set_option maxRecDepth 10000 in
theorem g_92_18 : GO x d 92 Q 18 [v0, v1, v2, v3, v4, v5] st I J = GO x d 92 Q 19 [v0, v1, v2, v3, v4, v5] (.inl (1) :: st) I J := ge (A := (0, 19, 0, 0, 1)) rfl
set_option maxRecDepth 10000 in
theorem g_92_19 : GO x d 92 Q 19 [v0, v1, v2, v3, v4, v5] (.inl b :: .inl a :: st) I J = (inR a ∧ inR b ∧ if b < a then GO x d 92 Q 22 [v0, v1, v2, v3, v4, v5] st I J else GO x d 92 Q 25 [v0, v1, v2, v3, v4, v5] st I J) := (ge (A := (34, 22, 25, 5, 0)) rfl).trans (ggec)
set_option maxRecDepth 10000 in
theorem g_92_22 : GO x d 92 Q 22 [v0, v1, v2, v3, v4, v5] st I J = GO x d 92 Q 24 [v0, v1, v2, v3, v4, v5] (.inl (-1000001) :: st) I J := ge (A := (0, 24, 0, 0, -1000001)) rfl
set_option maxRecDepth 10000 in
theorem g_92_24 : GO x d 92 Q 24 [v0, v1, v2, v3, v4, v5] [.inl a] I J = Q (some (.inl a)) I J := ge (A := (55, 25, 0, 0, 0)) rfl
set_option maxRecDepth 10000 in
theorem g_92_25 : GO x d 92 Q 25 [v0, v1, v2, v3, v4, v5] st I J = GO x d 92 Q 27 [v0, v1, v2, v3, v4, v5] (.inl (-1000000) :: st) I J := ge (A := (0, 27, 0, 0, -1000000)) rfl
set_option maxRecDepth 10000 in
theorem g_92_27 : GO x d 92 Q 27 [v0, v1, v2, v3, v4, v5] (.inl a :: st) I J = (nlO (some v1) = true ∧ GO x d 92 Q 28 [v0, v1, some (.inl a), v3, v4, v5] st I J) := (ge (A := (4, 28, 2, 0, 0)) rfl).trans (gst (Nat.le_of_ble_eq_true rfl) _)
set_option maxRecDepth 10000 in
theorem g_92_28 : GO x d 92 Q 28 [v0, v1, v2, v3, v4, v5] st I J = GO x d 92 Q 30 [v0, v1, v2, v3, v4, v5] (.inl (-1000000) :: st) I J := ge (A := (0, 30, 0, 0, -1000000)) rfl
set_option maxRecDepth 10000 in
theorem g_92_30 : GO x d 92 Q 30 [v0, v1, v2, v3, v4, v5] (.inl a :: st) I J = (nlO (some v2) = true ∧ GO x d 92 Q 31 [v0, v1, v2, some (.inl a), v4, v5] st I J) := (ge (A := (4, 31, 3, 0, 0)) rfl).trans (gst (Nat.le_of_ble_eq_true rfl) _)
set_option maxRecDepth 10000 in
theorem g_92_31 : GO x d 92 Q 31 [v0, v1, v2, v3, v4, v5] st I J = GO x d 92 Q 32 [v0, v1, v2, v3, v4, v5] (.inl (0) :: st) I J := ge (A := (0, 32, 0, 0, 0)) rfl
set_option maxRecDepth 10000 in
theorem g_92_32 : GO x d 92 Q 32 [v0, v1, v2, v3, v4, v5] (.inl a :: st) I J = (nlO (some v3) = true ∧ GO x d 92 Q 34 [v0, v1, v2, v3, some (.inl a), v5] st I J) := (ge (A := (4, 34, 4, 0, 0)) rfl).trans (gst (Nat.le_of_ble_eq_true rfl) _)
set_option maxRecDepth 10000 in
theorem g_92_34 : GO x d 92 Q 34 [v0, v1, v2, v3, some (.inl a), v5] st I J = GO x d 92 Q 36 [v0, v1, v2, v3, some (.inl a), v5] (.inl a :: st) I J := ge (A := (1, 36, 4, 0, 0)) rfl
set_option maxRecDepth 10000 in
theorem g_92_36 : GO x d 92 Q 36 [some (.inr (.inr w)), v1, v2, v3, v4, v5] st I J = GO x d 92 Q 37 [some (.inr (.inr w)), v1, v2, v3, v4, v5] (.inr (.inr w) :: st) I J := ge (A := (2, 37, 0, 0, 0)) rfl
set_option maxRecDepth 10000 in
theorem g_92_37 : GO x d 92 Q 37 [v0, v1, v2, v3, v4, v5] (.inr (.inr (.inl r)) :: st) I J = (okF r 9 1 ∧ GO x d 92 Q 40 [v0, v1, v2, v3, v4, v5] (.inr (.inr (.inl (rfN r 1))) :: st) I J) := (ge (A := (39, 40, 9, 1, 0)) rfl).trans (gref (f := fun q => GO x d 92 Q 40 [v0, v1, v2, v3, v4, v5] (.inr (.inr (.inl q)) :: st) I J))
set_option maxRecDepth 10000 in
theorem g_92_40 : GO x d 92 Q 40 [v0, v1, v2, v3, v4, v5] (.inr (.inr (.inl r)) :: st) I J = (okO r 3 ∧ GO x d 92 Q 43 [v0, v1, v2, v3, v4, v5] (.inl (I r 3) :: st) I J) := ge (A := (37, 43, 3, 3, 0)) rfl
set_option maxRecDepth 10000 in
theorem g_92_43 : GO x d 92 Q 43 [v0, v1, v2, v3, v4, v5] (.inl b :: .inl a :: st) I J = (inR a ∧ inR b ∧ if a < b then GO x d 92 Q 46 [v0, v1, v2, v3, v4, v5] st I J else GO x d 92 Q 81 [v0, v1, v2, v3, v4, v5] st I J) := (ge (A := (34, 46, 81, 3, 0)) rfl).trans (ggec)
set_option maxRecDepth 10000 in
theorem g_92_46 : GO x d 92 Q 46 [some (.inr (.inr w)), v1, v2, v3, v4, v5] st I J = GO x d 92 Q 47 [some (.inr (.inr w)), v1, v2, v3, v4, v5] (.inr (.inr w) :: st) I J := ge (A := (2, 47, 0, 0, 0)) rfl
set_option maxRecDepth 10000 in
theorem g_92_47 : GO x d 92 Q 47 [v0, v1, v2, v3, v4, v5] (.inr (.inr (.inl r)) :: st) I J = (okF r 9 1 ∧ GO x d 92 Q 50 [v0, v1, v2, v3, v4, v5] (.inr (.inr (.inl (rfN r 1))) :: st) I J) := (ge (A := (39, 50, 9, 1, 0)) rfl).trans (gref (f := fun q => GO x d 92 Q 50 [v0, v1, v2, v3, v4, v5] (.inr (.inr (.inl q)) :: st) I J))
set_option maxRecDepth 10000 in
theorem g_92_50 : GO x d 92 Q 50 [v0, v1, v2, v3, some (.inl a), v5] st I J = GO x d 92 Q 52 [v0, v1, v2, v3, some (.inl a), v5] (.inl a :: st) I J := ge (A := (1, 52, 4, 0, 0)) rfl
set_option maxRecDepth 10000 in
theorem g_92_52 : GO x d 92 Q 52 [v0, v1, v2, v3, v4, v5] [.inl i0, .inr (.inr (.inl r))] I J = (okO r 3 ∧ EX x d 31 [.inr (.inr (.inl r)), .inl i0] I J (fun r1 I1 J1 => GO x d 92 Q 55 [v0, v1, v2, v3, v4, v5] (r1.toList ++ []) I1 J1)) := (ge (A := (53, 55, 31, 1, 0)) rfl).trans (gtrue (Nat.le_of_ble_eq_true rfl))
set_option maxRecDepth 10000 in
theorem g_92_55 : GO x d 92 Q 55 [v0, v1, v2, v3, v4, v5] (.inl a :: st) I J = (nlO (some v4) = true ∧ GO x d 92 Q 57 [v0, v1, v2, v3, v4, some (.inl a)] st I J) := (ge (A := (4, 57, 5, 0, 0)) rfl).trans (gst (Nat.le_of_ble_eq_true rfl) _)
set_option maxRecDepth 10000 in
theorem g_92_57 : GO x d 92 Q 57 [v0, v1, some (.inl a), v3, v4, v5] st I J = GO x d 92 Q 58 [v0, v1, some (.inl a), v3, v4, v5] (.inl a :: st) I J := ge (A := (1, 58, 2, 0, 0)) rfl
set_option maxRecDepth 10000 in
theorem g_92_58 : GO x d 92 Q 58 [v0, v1, v2, v3, v4, v5] st I J = GO x d 92 Q 60 [v0, v1, v2, v3, v4, v5] (.inl (-1000000) :: st) I J := ge (A := (0, 60, 0, 0, -1000000)) rfl
set_option maxRecDepth 10000 in
theorem g_92_60 : GO x d 92 Q 60 [v0, v1, v2, v3, v4, v5] (.inl b :: .inl a :: st) I J = (inR a ∧ inR b ∧ if a = b then GO x d 92 Q 69 [v0, v1, v2, v3, v4, v5] st I J else GO x d 92 Q 63 [v0, v1, v2, v3, v4, v5] st I J) := (ge (A := (34, 63, 69, 0, 0)) rfl).trans (gic (p := a = b) inferInstance)
set_option maxRecDepth 10000 in
theorem g_92_63 : GO x d 92 Q 63 [v0, v1, v2, v3, v4, some (.inl a)] st I J = GO x d 92 Q 65 [v0, v1, v2, v3, v4, some (.inl a)] (.inl a :: st) I J := ge (A := (1, 65, 5, 0, 0)) rfl
set_option maxRecDepth 10000 in
theorem g_92_65 : GO x d 92 Q 65 [v0, v1, v2, some (.inl a), v4, v5] st I J = GO x d 92 Q 66 [v0, v1, v2, some (.inl a), v4, v5] (.inl a :: st) I J := ge (A := (1, 66, 3, 0, 0)) rfl
set_option maxRecDepth 10000 in
theorem g_92_66 : GO x d 92 Q 66 [v0, v1, v2, v3, v4, v5] (.inl b :: .inl a :: st) I J = (inR a ∧ inR b ∧ if a < b then GO x d 92 Q 69 [v0, v1, v2, v3, v4, v5] st I J else GO x d 92 Q 75 [v0, v1, v2, v3, v4, v5] st I J) := (ge (A := (34, 69, 75, 3, 0)) rfl).trans (ggec)
set_option maxRecDepth 10000 in
theorem g_92_69 : GO x d 92 Q 69 [v0, v1, v2, v3, some (.inl a), v5] st I J = GO x d 92 Q 71 [v0, v1, v2, v3, some (.inl a), v5] (.inl a :: st) I J := ge (A := (1, 71, 4, 0, 0)) rfl
set_option maxRecDepth 10000 in
theorem g_92_71 : GO x d 92 Q 71 [v0, v1, v2, v3, v4, v5] (.inl a :: st) I J = (nlO (some v1) = true ∧ GO x d 92 Q 72 [v0, v1, some (.inl a), v3, v4, v5] st I J) := (ge (A := (4, 72, 2, 0, 0)) rfl).trans (gst (Nat.le_of_ble_eq_true rfl) _)
set_option maxRecDepth 10000 in
theorem g_92_72 : GO x d 92 Q 72 [v0, v1, v2, v3, v4, some (.inl a)] st I J = GO x d 92 Q 74 [v0, v1, v2, v3, v4, some (.inl a)] (.inl a :: st) I J := ge (A := (1, 74, 5, 0, 0)) rfl
set_option maxRecDepth 10000 in
theorem g_92_74 : GO x d 92 Q 74 [v0, v1, v2, v3, v4, v5] (.inl a :: st) I J = (nlO (some v2) = true ∧ GO x d 92 Q 75 [v0, v1, v2, some (.inl a), v4, v5] st I J) := (ge (A := (4, 75, 3, 0, 0)) rfl).trans (gst (Nat.le_of_ble_eq_true rfl) _)
set_option maxRecDepth 10000 in
theorem g_92_75 : GO x d 92 Q 75 [v0, v1, v2, v3, some (.inl a), v5] st I J = (nlO (some v3) = true ∧ GO x d 92 Q 78 [v0, v1, v2, v3, some (.inl (a + (1))), v5] st I J) := ge (A := (7, 78, 4, 0, 1)) rfl
set_option maxRecDepth 10000 in
theorem g_92_78 : GO x d 92 Q 78 [v0, v1, v2, v3, v4, v5] st I J = GO x d 92 Q 34 [v0, v1, v2, v3, v4, v5] st I J := ge (A := (35, 81, 34, 0, 0)) rfl
set_option maxRecDepth 10000 in
theorem g_92_81 : GO x d 92 Q 81 [v0, some (.inl a), v2, v3, v4, v5] st I J = GO x d 92 Q 82 [v0, some (.inl a), v2, v3, v4, v5] (.inl a :: st) I J := ge (A := (1, 82, 1, 0, 0)) rfl
set_option maxRecDepth 10000 in
theorem g_92_82 : GO x d 92 Q 82 [v0, v1, v2, v3, v4, v5] (.inl a :: st) I J = (inR a ∧ if a = 0 then GO x d 92 Q 85 [v0, v1, v2, v3, v4, v5] st I J else GO x d 92 Q 89 [v0, v1, v2, v3, v4, v5] st I J) := (ge (A := (33, 85, 89, 1, 0)) rfl).trans (gifn (p := a = 0) inferInstance)
set_option maxRecDepth 10000 in
theorem g_92_85 : GO x d 92 Q 85 [v0, v1, some (.inl a), v3, v4, v5] st I J = GO x d 92 Q 86 [v0, v1, some (.inl a), v3, v4, v5] (.inl a :: st) I J := ge (A := (1, 86, 2, 0, 0)) rfl
set_option maxRecDepth 10000 in
theorem g_92_86 : GO x d 92 Q 86 [v0, v1, v2, v3, v4, v5] st I J = GO x d 92 Q 90 [v0, v1, v2, v3, v4, v5] st I J := ge (A := (35, 89, 90, 0, 0)) rfl
set_option maxRecDepth 10000 in
theorem g_92_89 : GO x d 92 Q 89 [v0, v1, v2, some (.inl a), v4, v5] st I J = GO x d 92 Q 90 [v0, v1, v2, some (.inl a), v4, v5] (.inl a :: st) I J := ge (A := (1, 90, 3, 0, 0)) rfl
set_option maxRecDepth 10000 in
theorem g_92_90 : GO x d 92 Q 90 [v0, v1, v2, v3, v4, v5] [.inl a] I J = Q (some (.inl a)) I J := ge (A := (55, 91, 0, 0, 0)) rfl
set_option maxRecDepth 10000 in
theorem e_92 : EX x (d + 1) 92 [.inr (.inr w0), .inl i0] I J Q = GO x d 92 Q 0 [some (.inr (.inr w0)), some (.inl i0), none, none, none, none] [] I J := ex_eq (Nat.le_of_ble_eq_true rfl) rfl (Nat.le_of_ble_eq_true rfl) rfl
set_option maxRecDepth 10000 in
theorem g_93_0 : GO x d 93 Q 0 [some (.inr (.inr w)), v1, v2, v3] st I J = GO x d 93 Q 1 [some (.inr (.inr w)), v1, v2, v3] (.inr (.inr w) :: st) I J := ge (A := (2, 1, 0, 0, 0)) rfl
set_option maxRecDepth 10000 in
theorem g_93_1 : GO x d 93 Q 1 [v0, v1, v2, v3] (.inr (.inr (.inl r)) :: st) I J = (okF r 9 1 ∧ GO x d 93 Q 4 [v0, v1, v2, v3] (.inr (.inr (.inl (rfN r 1))) :: st) I J) := (ge (A := (39, 4, 9, 1, 0)) rfl).trans (gref (f := fun q => GO x d 93 Q 4 [v0, v1, v2, v3] (.inr (.inr (.inl q)) :: st) I J))
set_option maxRecDepth 10000 in
theorem g_93_4 : GO x d 93 Q 4 [v0, v1, v2, v3] (.inr (.inr (.inl r)) :: st) I J = (okO r 3 ∧ GO x d 93 Q 7 [v0, v1, v2, v3] (.inl (I r 0) :: st) I J) := ge (A := (37, 7, 3, 0, 0)) rfl
set_option maxRecDepth 10000 in
theorem g_93_7 : GO x d 93 Q 7 [v0, v1, v2, v3] (.inl a :: st) I J = (inR a ∧ if a = 0 then GO x d 93 Q 10 [v0, v1, v2, v3] st I J else GO x d 93 Q 13 [v0, v1, v2, v3] st I J) := (ge (A := (33, 10, 13, 1, 0)) rfl).trans (gifn (p := a = 0) inferInstance)
set_option maxRecDepth 10000 in
theorem g_93_10 : GO x d 93 Q 10 [v0, v1, v2, v3] st I J = GO x d 93 Q 12 [v0, v1, v2, v3] (.inl (-1000002) :: st) I J := ge (A := (0, 12, 0, 0, -1000002)) rfl
set_option maxRecDepth 10000 in
theorem g_93_12 : GO x d 93 Q 12 [v0, v1, v2, v3] [.inl a] I J = Q (some (.inl a)) I J := ge (A := (55, 13, 0, 0, 0)) rfl
set_option maxRecDepth 10000 in
theorem g_93_13 : GO x d 93 Q 13 [v0, some (.inl a), v2, v3] st I J = GO x d 93 Q 14 [v0, some (.inl a), v2, v3] (.inl a :: st) I J := ge (A := (1, 14, 1, 0, 0)) rfl
set_option maxRecDepth 10000 in
theorem g_93_14 : GO x d 93 Q 14 [v0, v1, v2, v3] (.inl a :: st) I J = (inR a ∧ if a < 0 then GO x d 93 Q 39 [v0, v1, v2, v3] st I J else GO x d 93 Q 17 [v0, v1, v2, v3] st I J) := (ge (A := (33, 17, 39, 2, 0)) rfl).trans (gif (p := a < 0) inferInstance)
set_option maxRecDepth 10000 in
theorem g_93_17 : GO x d 93 Q 17 [v0, some (.inl a), v2, v3] st I J = GO x d 93 Q 18 [v0, some (.inl a), v2, v3] (.inl a :: st) I J := ge (A := (1, 18, 1, 0, 0)) rfl
set_option maxRecDepth 10000 in
theorem g_93_18 : GO x d 93 Q 18 [v0, v1, v2, v3] st I J = GO x d 93 Q 19 [v0, v1, v2, v3] (.inl (1) :: st) I J := ge (A := (0, 19, 0, 0, 1)) rfl
set_option maxRecDepth 10000 in
theorem g_93_19 : GO x d 93 Q 19 [some (.inr (.inr w)), v1, v2, v3] st I J = GO x d 93 Q 20 [some (.inr (.inr w)), v1, v2, v3] (.inr (.inr w) :: st) I J := ge (A := (2, 20, 0, 0, 0)) rfl
set_option maxRecDepth 10000 in
theorem g_93_20 : GO x d 93 Q 20 [v0, v1, v2, v3] (.inr (.inr (.inl r)) :: st) I J = (okF r 9 1 ∧ GO x d 93 Q 23 [v0, v1, v2, v3] (.inr (.inr (.inl (rfN r 1))) :: st) I J) := (ge (A := (39, 23, 9, 1, 0)) rfl).trans (gref (f := fun q => GO x d 93 Q 23 [v0, v1, v2, v3] (.inr (.inr (.inl q)) :: st) I J))
set_option maxRecDepth 10000 in
theorem g_93_23 : GO x d 93 Q 23 [v0, v1, v2, v3] (.inr (.inr (.inl r)) :: st) I J = (okO r 3 ∧ GO x d 93 Q 26 [v0, v1, v2, v3] (.inl (I r 3) :: st) I J) := ge (A := (37, 26, 3, 3, 0)) rfl
set_option maxRecDepth 10000 in
theorem g_93_26 : GO x d 93 Q 26 [v0, v1, v2, v3] (.inl b :: .inl a :: st) I J = GO x d 93 Q 27 [v0, v1, v2, v3] (.inl (shlI a b) :: st) I J := ge (A := (14, 27, 0, 0, 0)) rfl
set_option maxRecDepth 10000 in
theorem g_93_27 : GO x d 93 Q 27 [v0, v1, v2, v3] (.inl b :: .inl a :: st) I J = (inR a ∧ inR b ∧ if a < b then GO x d 93 Q 30 [v0, v1, v2, v3] st I J else GO x d 93 Q 39 [v0, v1, v2, v3] st I J) := (ge (A := (34, 30, 39, 3, 0)) rfl).trans (ggec)
set_option maxRecDepth 10000 in
theorem g_93_30 : GO x d 93 Q 30 [v0, v1, some (.inl a), v3] st I J = GO x d 93 Q 31 [v0, v1, some (.inl a), v3] (.inl a :: st) I J := ge (A := (1, 31, 2, 0, 0)) rfl
set_option maxRecDepth 10000 in
theorem g_93_31 : GO x d 93 Q 31 [v0, v1, v2, v3] (.inl a :: st) I J = (inR a ∧ if a < 0 then GO x d 93 Q 39 [v0, v1, v2, v3] st I J else GO x d 93 Q 34 [v0, v1, v2, v3] st I J) := (ge (A := (33, 34, 39, 2, 0)) rfl).trans (gif (p := a < 0) inferInstance)
set_option maxRecDepth 10000 in
theorem g_93_34 : GO x d 93 Q 34 [v0, v1, some (.inl a), v3] st I J = GO x d 93 Q 35 [v0, v1, some (.inl a), v3] (.inl a :: st) I J := ge (A := (1, 35, 2, 0, 0)) rfl
set_option maxRecDepth 10000 in
theorem g_93_35 : GO x d 93 Q 35 [v0, v1, v2, v3] st I J = GO x d 93 Q 36 [v0, v1, v2, v3] (.inl (1) :: st) I J := ge (A := (0, 36, 0, 0, 1)) rfl
set_option maxRecDepth 10000 in
theorem g_93_36 : GO x d 93 Q 36 [v0, v1, v2, v3] (.inl b :: .inl a :: st) I J = (inR a ∧ inR b ∧ if b < a then GO x d 93 Q 39 [v0, v1, v2, v3] st I J else GO x d 93 Q 42 [v0, v1, v2, v3] st I J) := (ge (A := (34, 39, 42, 5, 0)) rfl).trans (ggec)
set_option maxRecDepth 10000 in
theorem g_93_39 : GO x d 93 Q 39 [v0, v1, v2, v3] st I J = GO x d 93 Q 41 [v0, v1, v2, v3] (.inl (-1000001) :: st) I J := ge (A := (0, 41, 0, 0, -1000001)) rfl
set_option maxRecDepth 10000 in
theorem g_93_41 : GO x d 93 Q 41 [v0, v1, v2, v3] [.inl a] I J = Q (some (.inl a)) I J := ge (A := (55, 42, 0, 0, 0)) rfl
set_option maxRecDepth 10000 in
theorem g_93_42 : GO x d 93 Q 42 [some (.inr (.inr w)), v1, v2, v3] st I J = GO x d 93 Q 43 [some (.inr (.inr w)), v1, v2, v3] (.inr (.inr w) :: st) I J := ge (A := (2, 43, 0, 0, 0)) rfl
set_option maxRecDepth 10000 in
theorem g_93_43 : GO x d 93 Q 43 [v0, v1, v2, v3] (.inr (.inr (.inl r)) :: st) I J = (okF r 9 1 ∧ GO x d 93 Q 46 [v0, v1, v2, v3] (.inr (.inr (.inl (rfN r 1))) :: st) I J) := (ge (A := (39, 46, 9, 1, 0)) rfl).trans (gref (f := fun q => GO x d 93 Q 46 [v0, v1, v2, v3] (.inr (.inr (.inl q)) :: st) I J))
set_option maxRecDepth 10000 in
theorem g_93_46 : GO x d 93 Q 46 [v0, some (.inl a), v2, v3] st I J = GO x d 93 Q 47 [v0, some (.inl a), v2, v3] (.inl a :: st) I J := ge (A := (1, 47, 1, 0, 0)) rfl
set_option maxRecDepth 10000 in
theorem g_93_47 : GO x d 93 Q 47 [v0, v1, v2, v3] [.inl i0, .inr (.inr (.inl r))] I J = (okO r 3 ∧ EX x d 32 [.inr (.inr (.inl r)), .inl i0] I J (fun r1 I1 J1 => GO x d 93 Q 50 [v0, v1, v2, v3] (r1.toList ++ []) I1 J1)) := (ge (A := (53, 50, 32, 1, 0)) rfl).trans (gtrue (Nat.le_of_ble_eq_true rfl))
set_option maxRecDepth 10000 in
theorem g_93_50 : GO x d 93 Q 50 [v0, v1, v2, v3] (.inl a :: st) I J = (nlO (some v2) = true ∧ GO x d 93 Q 51 [v0, v1, v2, some (.inl a)] st I J) := (ge (A := (4, 51, 3, 0, 0)) rfl).trans (gst (Nat.le_of_ble_eq_true rfl) _)
set_option maxRecDepth 10000 in
theorem g_93_51 : GO x d 93 Q 51 [v0, v1, some (.inl a), v3] st I J = GO x d 93 Q 52 [v0, v1, some (.inl a), v3] (.inl a :: st) I J := ge (A := (1, 52, 2, 0, 0)) rfl
set_option maxRecDepth 10000 in
theorem g_93_52 : GO x d 93 Q 52 [v0, v1, v2, v3] (.inl a :: st) I J = (inR a ∧ if a = 0 then GO x d 93 Q 55 [v0, v1, v2, v3] st I J else GO x d 93 Q 60 [v0, v1, v2, v3] st I J) := (ge (A := (33, 55, 60, 1, 0)) rfl).trans (gifn (p := a = 0) inferInstance)
set_option maxRecDepth 10000 in
theorem g_93_55 : GO x d 93 Q 55 [v0, v1, v2, some (.inl a)] st I J = GO x d 93 Q 56 [v0, v1, v2, some (.inl a)] (.inl a :: st) I J := ge (A := (1, 56, 3, 0, 0)) rfl
set_option maxRecDepth 10000 in
theorem g_93_56 : GO x d 93 Q 56 [v0, v1, v2, v3] [.inl i0] I J = EX x d 182 [.inl i0] I J (fun r1 I1 J1 => GO x d 93 Q 59 [v0, v1, v2, v3] (r1.toList ++ []) I1 J1) := (ge (A := (52, 59, 182, 1, 0)) rfl).trans (gtrue2 (Nat.le_of_ble_eq_true rfl) (Nat.le_of_ble_eq_true rfl))
set_option maxRecDepth 10000 in
theorem g_93_59 : GO x d 93 Q 59 [v0, v1, v2, v3] [.inl a] I J = Q (some (.inl a)) I J := ge (A := (55, 60, 0, 0, 0)) rfl
set_option maxRecDepth 10000 in
theorem g_93_60 : GO x d 93 Q 60 [v0, v1, v2, some (.inl a)] st I J = GO x d 93 Q 61 [v0, v1, v2, some (.inl a)] (.inl a :: st) I J := ge (A := (1, 61, 3, 0, 0)) rfl
set_option maxRecDepth 10000 in
theorem g_93_61 : GO x d 93 Q 61 [v0, v1, v2, v3] [.inl i0] I J = EX x d 104 [.inl i0] I J (fun r1 I1 J1 => GO x d 93 Q 64 [v0, v1, v2, v3] (r1.toList ++ []) I1 J1) := (ge (A := (52, 64, 104, 1, 0)) rfl).trans (gtrue2 (Nat.le_of_ble_eq_true rfl) (Nat.le_of_ble_eq_true rfl))
set_option maxRecDepth 10000 in
theorem g_93_64 : GO x d 93 Q 64 [v0, v1, v2, v3] [.inl a] I J = Q (some (.inl a)) I J := ge (A := (55, 65, 0, 0, 0)) rfl
set_option maxRecDepth 10000 in
theorem e_93 : EX x (d + 1) 93 [.inr (.inr w0), .inl i0, .inl i1] I J Q = GO x d 93 Q 0 [some (.inr (.inr w0)), some (.inl i0), some (.inl i1), none] [] I J := ex_eq (Nat.le_of_ble_eq_true rfl) rfl (Nat.le_of_ble_eq_true rfl) rfl
set_option maxRecDepth 10000 in
theorem g_94_0 : GO x d 94 Q 0 [some (.inr (.inr w)), v1, v2, v3, v4] st I J = GO x d 94 Q 1 [some (.inr (.inr w)), v1, v2, v3, v4] (.inr (.inr w) :: st) I J := ge (A := (2, 1, 0, 0, 0)) rfl
set_option maxRecDepth 10000 in
theorem g_94_1 : GO x d 94 Q 1 [v0, v1, v2, v3, v4] (.inr (.inr (.inl r)) :: st) I J = (okF r 9 1 ∧ GO x d 94 Q 4 [v0, v1, v2, v3, v4] (.inr (.inr (.inl (rfN r 1))) :: st) I J) := (ge (A := (39, 4, 9, 1, 0)) rfl).trans (gref (f := fun q => GO x d 94 Q 4 [v0, v1, v2, v3, v4] (.inr (.inr (.inl q)) :: st) I J))
set_option maxRecDepth 10000 in
theorem g_94_4 : GO x d 94 Q 4 [v0, v1, v2, v3, v4] (.inr (.inr (.inl r)) :: st) I J = (okO r 3 ∧ GO x d 94 Q 7 [v0, v1, v2, v3, v4] (.inl (I r 0) :: st) I J) := ge (A := (37, 7, 3, 0, 0)) rfl
set_option maxRecDepth 10000 in
theorem g_94_7 : GO x d 94 Q 7 [v0, v1, v2, v3, v4] (.inl a :: st) I J = (inR a ∧ if a = 0 then GO x d 94 Q 10 [v0, v1, v2, v3, v4] st I J else GO x d 94 Q 13 [v0, v1, v2, v3, v4] st I J) := (ge (A := (33, 10, 13, 1, 0)) rfl).trans (gifn (p := a = 0) inferInstance)
set_option maxRecDepth 10000 in
theorem g_94_10 : GO x d 94 Q 10 [v0, v1, v2, v3, v4] st I J = GO x d 94 Q 12 [v0, v1, v2, v3, v4] (.inl (-1000002) :: st) I J := ge (A := (0, 12, 0, 0, -1000002)) rfl
set_option maxRecDepth 10000 in
theorem g_94_12 : GO x d 94 Q 12 [v0, v1, v2, v3, v4] [.inl a] I J = Q (some (.inl a)) I J := ge (A := (55, 13, 0, 0, 0)) rfl
set_option maxRecDepth 10000 in
theorem g_94_13 : GO x d 94 Q 13 [v0, some (.inl a), v2, v3, v4] st I J = GO x d 94 Q 14 [v0, some (.inl a), v2, v3, v4] (.inl a :: st) I J := ge (A := (1, 14, 1, 0, 0)) rfl
set_option maxRecDepth 10000 in
theorem g_94_14 : GO x d 94 Q 14 [v0, v1, v2, v3, v4] [.inl i0] I J = EX x d 75 [.inl i0] I J (fun r1 I1 J1 => GO x d 94 Q 17 [v0, v1, v2, v3, v4] (r1.toList ++ []) I1 J1) := (ge (A := (52, 17, 75, 1, 0)) rfl).trans (gtrue2 (Nat.le_of_ble_eq_true rfl) (Nat.le_of_ble_eq_true rfl))
set_option maxRecDepth 10000 in
theorem g_94_17 : GO x d 94 Q 17 [v0, v1, v2, v3, v4] (.inl a :: st) I J = (inR a ∧ if a = 0 then GO x d 94 Q 29 [v0, v1, v2, v3, v4] st I J else GO x d 94 Q 20 [v0, v1, v2, v3, v4] st I J) := (ge (A := (33, 20, 29, 0, 0)) rfl).trans (gif (p := a = 0) inferInstance)
set_option maxRecDepth 10000 in
theorem g_94_20 : GO x d 94 Q 20 [v0, v1, v2, some (.inl a), v4] st I J = GO x d 94 Q 21 [v0, v1, v2, some (.inl a), v4] (.inl a :: st) I J := ge (A := (1, 21, 3, 0, 0)) rfl
set_option maxRecDepth 10000 in
theorem g_94_21 : GO x d 94 Q 21 [v0, v1, v2, v3, v4] (.inl a :: st) I J = (inR a ∧ if a < 0 then GO x d 94 Q 29 [v0, v1, v2, v3, v4] st I J else GO x d 94 Q 24 [v0, v1, v2, v3, v4] st I J) := (ge (A := (33, 24, 29, 2, 0)) rfl).trans (gif (p := a < 0) inferInstance)
set_option maxRecDepth 10000 in
theorem g_94_24 : GO x d 94 Q 24 [v0, v1, v2, some (.inl a), v4] st I J = GO x d 94 Q 25 [v0, v1, v2, some (.inl a), v4] (.inl a :: st) I J := ge (A := (1, 25, 3, 0, 0)) rfl
set_option maxRecDepth 10000 in
theorem g_94_25 : GO x d 94 Q 25 [v0, v1, v2, v3, v4] st I J = GO x d 94 Q 26 [v0, v1, v2, v3, v4] (.inl (5) :: st) I J := ge (A := (0, 26, 0, 0, 5)) rfl
set_option maxRecDepth 10000 in
theorem g_94_26 : GO x d 94 Q 26 [v0, v1, v2, v3, v4] (.inl b :: .inl a :: st) I J = (inR a ∧ inR b ∧ if b < a then GO x d 94 Q 29 [v0, v1, v2, v3, v4] st I J else GO x d 94 Q 32 [v0, v1, v2, v3, v4] st I J) := (ge (A := (34, 29, 32, 5, 0)) rfl).trans (ggec)
set_option maxRecDepth 10000 in
theorem g_94_29 : GO x d 94 Q 29 [v0, v1, v2, v3, v4] st I J = GO x d 94 Q 31 [v0, v1, v2, v3, v4] (.inl (-1000001) :: st) I J := ge (A := (0, 31, 0, 0, -1000001)) rfl
set_option maxRecDepth 10000 in
theorem g_94_31 : GO x d 94 Q 31 [v0, v1, v2, v3, v4] [.inl a] I J = Q (some (.inl a)) I J := ge (A := (55, 32, 0, 0, 0)) rfl
set_option maxRecDepth 10000 in
theorem g_94_32 : GO x d 94 Q 32 [some (.inr (.inr w)), v1, v2, v3, v4] st I J = GO x d 94 Q 33 [some (.inr (.inr w)), v1, v2, v3, v4] (.inr (.inr w) :: st) I J := ge (A := (2, 33, 0, 0, 0)) rfl
set_option maxRecDepth 10000 in
theorem g_94_33 : GO x d 94 Q 33 [v0, v1, v2, v3, v4] (.inr (.inr (.inl r)) :: st) I J = (okF r 9 0 ∧ GO x d 94 Q 36 [v0, v1, v2, v3, v4] (.inr (.inr (.inl (rfN r 0))) :: st) I J) := (ge (A := (39, 36, 9, 0, 0)) rfl).trans (gref (f := fun q => GO x d 94 Q 36 [v0, v1, v2, v3, v4] (.inr (.inr (.inl q)) :: st) I J))
set_option maxRecDepth 10000 in
theorem g_94_36 : GO x d 94 Q 36 [v0, some (.inl a), v2, v3, v4] st I J = GO x d 94 Q 37 [v0, some (.inl a), v2, v3, v4] (.inl a :: st) I J := ge (A := (1, 37, 1, 0, 0)) rfl
set_option maxRecDepth 10000 in
theorem g_94_37 : GO x d 94 Q 37 [v0, v1, v2, v3, v4] (.inl a :: .inr (.inr (.inl r)) :: st) I J = ((23 ≤ clS S0 r ∧ clS S0 r ≤ 25 ∧ (elS S0 r a.toNat).isSome = true) ∧ 0 ≤ a ∧ a < lnN r ∧ GO x d 94 Q 38 [v0, v1, v2, v3, v4] (.inr (.inr (.inl (elN r a))) :: st) I J) := (ge (A := (50, 38, 0, 0, 0)) rfl).trans (gel2 (f := fun q => GO x d 94 Q 38 [v0, v1, v2, v3, v4] (.inr (.inr (.inl q)) :: st) I J))
set_option maxRecDepth 10000 in
theorem g_94_38 : GO x d 94 Q 38 [v0, v1, v2, v3, v4] (.inr (.inr w) :: st) I J = (nlO (some v3) = true ∧ GO x d 94 Q 40 [v0, v1, v2, v3, some (.inr (.inr w))] st I J) := (ge (A := (5, 40, 4, 0, 0)) rfl).trans (gst (Nat.le_of_ble_eq_true rfl) _)
set_option maxRecDepth 10000 in
theorem g_94_40 : GO x d 94 Q 40 [v0, v1, v2, v3, some (.inr (.inr w))] st I J = GO x d 94 Q 42 [v0, v1, v2, v3, some (.inr (.inr w))] (.inr (.inr w) :: st) I J := ge (A := (2, 42, 4, 0, 0)) rfl
set_option maxRecDepth 10000 in
theorem g_94_42 : GO x d 94 Q 42 [v0, v1, v2, v3, v4] (.inr (.inr (.inl r)) :: st) I J = (okO r 5 ∧ GO x d 94 Q 45 [v0, v1, v2, v3, v4] (.inl (I r 1) :: st) I J) := ge (A := (37, 45, 5, 1, 0)) rfl
set_option maxRecDepth 10000 in
theorem g_94_45 : GO x d 94 Q 45 [v0, v1, v2, v3, v4] (.inl a :: st) I J = (inR a ∧ if a = 0 then GO x d 94 Q 48 [v0, v1, v2, v3, v4] st I J else GO x d 94 Q 54 [v0, v1, v2, v3, v4] st I J) := (ge (A := (33, 48, 54, 1, 0)) rfl).trans (gifn (p := a = 0) inferInstance)
set_option maxRecDepth 10000 in
theorem g_94_48 : GO x d 94 Q 48 [some (.inr (.inr w)), v1, v2, v3, v4] st I J = GO x d 94 Q 49 [some (.inr (.inr w)), v1, v2, v3, v4] (.inr (.inr w) :: st) I J := ge (A := (2, 49, 0, 0, 0)) rfl
set_option maxRecDepth 10000 in
theorem g_94_49 : GO x d 94 Q 49 [v0, v1, v2, v3, v4] st I J = GO x d 94 Q 50 [v0, v1, v2, v3, v4] (.inl (1) :: st) I J := ge (A := (0, 50, 0, 0, 1)) rfl
set_option maxRecDepth 10000 in
theorem g_94_50 : GO x d 94 Q 50 [v0, v1, v2, v3, v4] [.inl i0, .inr (.inr (.inl r))] I J = (okO r 9 ∧ EX x d 76 [.inr (.inr (.inl r)), .inl i0] I J (fun r1 I1 J1 => GO x d 94 Q 53 [v0, v1, v2, v3, v4] (r1.toList ++ []) I1 J1)) := (ge (A := (53, 53, 76, 1, 0)) rfl).trans (gtrue (Nat.le_of_ble_eq_true rfl))
set_option maxRecDepth 10000 in
theorem g_94_53 : GO x d 94 Q 53 [v0, v1, v2, v3, v4] [.inl a] I J = Q (some (.inl a)) I J := ge (A := (55, 54, 0, 0, 0)) rfl
set_option maxRecDepth 10000 in
theorem g_94_54 : GO x d 94 Q 54 [v0, v1, v2, v3, some (.inr (.inr w))] st I J = GO x d 94 Q 56 [v0, v1, v2, v3, some (.inr (.inr w))] (.inr (.inr w) :: st) I J := ge (A := (2, 56, 4, 0, 0)) rfl
set_option maxRecDepth 10000 in
theorem g_94_56 : GO x d 94 Q 56 [v0, v1, some (.inl a), v3, v4] st I J = GO x d 94 Q 57 [v0, v1, some (.inl a), v3, v4] (.inl a :: st) I J := ge (A := (1, 57, 2, 0, 0)) rfl
set_option maxRecDepth 10000 in
theorem g_94_57 : GO x d 94 Q 57 [v0, v1, v2, some (.inl a), v4] st I J = GO x d 94 Q 58 [v0, v1, v2, some (.inl a), v4] (.inl a :: st) I J := ge (A := (1, 58, 3, 0, 0)) rfl
set_option maxRecDepth 10000 in
theorem g_94_58 : GO x d 94 Q 58 [v0, v1, v2, v3, v4] [.inl i0, .inl i1, .inr (.inr (.inl r))] I J = (okO r 5 ∧ EX x d 45 [.inr (.inr (.inl r)), .inl i1, .inl i0] I J (fun r1 I1 J1 => GO x d 94 Q 61 [v0, v1, v2, v3, v4] (r1.toList ++ []) I1 J1)) := (ge (A := (53, 61, 45, 2, 0)) rfl).trans (gtrue (Nat.le_of_ble_eq_true rfl))
set_option maxRecDepth 10000 in
theorem g_94_61 : GO x d 94 Q 61 [v0, v1, v2, v3, v4] (.inl a :: st) I J = (inR a ∧ if a = 0 then GO x d 94 Q 64 [v0, v1, v2, v3, v4] st I J else GO x d 94 Q 70 [v0, v1, v2, v3, v4] st I J) := (ge (A := (33, 64, 70, 1, 0)) rfl).trans (gifn (p := a = 0) inferInstance)
set_option maxRecDepth 10000 in
theorem g_94_64 : GO x d 94 Q 64 [some (.inr (.inr w)), v1, v2, v3, v4] st I J = GO x d 94 Q 65 [some (.inr (.inr w)), v1, v2, v3, v4] (.inr (.inr w) :: st) I J := ge (A := (2, 65, 0, 0, 0)) rfl
set_option maxRecDepth 10000 in
theorem g_94_65 : GO x d 94 Q 65 [v0, v1, v2, v3, v4] st I J = GO x d 94 Q 66 [v0, v1, v2, v3, v4] (.inl (2) :: st) I J := ge (A := (0, 66, 0, 0, 2)) rfl
set_option maxRecDepth 10000 in
theorem g_94_66 : GO x d 94 Q 66 [v0, v1, v2, v3, v4] [.inl i0, .inr (.inr (.inl r))] I J = (okO r 9 ∧ EX x d 76 [.inr (.inr (.inl r)), .inl i0] I J (fun r1 I1 J1 => GO x d 94 Q 69 [v0, v1, v2, v3, v4] (r1.toList ++ []) I1 J1)) := (ge (A := (53, 69, 76, 1, 0)) rfl).trans (gtrue (Nat.le_of_ble_eq_true rfl))
set_option maxRecDepth 10000 in
theorem g_94_69 : GO x d 94 Q 69 [v0, v1, v2, v3, v4] [.inl a] I J = Q (some (.inl a)) I J := ge (A := (55, 70, 0, 0, 0)) rfl
set_option maxRecDepth 10000 in
theorem g_94_70 : GO x d 94 Q 70 [some (.inr (.inr w)), v1, v2, v3, v4] st I J = GO x d 94 Q 71 [some (.inr (.inr w)), v1, v2, v3, v4] (.inr (.inr w) :: st) I J := ge (A := (2, 71, 0, 0, 0)) rfl
set_option maxRecDepth 10000 in
theorem g_94_71 : GO x d 94 Q 71 [v0, v1, v2, v3, v4] (.inr (.inr (.inl r)) :: st) I J = (okF r 9 8 ∧ GO x d 94 Q 74 [v0, v1, v2, v3, v4] (.inr (.inr (.inl (rfN r 8))) :: st) I J) := (ge (A := (39, 74, 9, 8, 0)) rfl).trans (gref (f := fun q => GO x d 94 Q 74 [v0, v1, v2, v3, v4] (.inr (.inr (.inl q)) :: st) I J))
set_option maxRecDepth 10000 in
theorem g_94_74 : GO x d 94 Q 74 [some (.inr (.inr w)), v1, v2, v3, v4] st I J = GO x d 94 Q 75 [some (.inr (.inr w)), v1, v2, v3, v4] (.inr (.inr w) :: st) I J := ge (A := (2, 75, 0, 0, 0)) rfl
set_option maxRecDepth 10000 in
theorem g_94_75 : GO x d 94 Q 75 [v0, v1, v2, v3, v4] (.inr (.inr (.inl r)) :: st) I J = (okF r 9 1 ∧ GO x d 94 Q 78 [v0, v1, v2, v3, v4] (.inr (.inr (.inl (rfN r 1))) :: st) I J) := (ge (A := (39, 78, 9, 1, 0)) rfl).trans (gref (f := fun q => GO x d 94 Q 78 [v0, v1, v2, v3, v4] (.inr (.inr (.inl q)) :: st) I J))
set_option maxRecDepth 10000 in
theorem g_94_78 : GO x d 94 Q 78 [v0, v1, v2, v3, some (.inr (.inr w))] st I J = GO x d 94 Q 80 [v0, v1, v2, v3, some (.inr (.inr w))] (.inr (.inr w) :: st) I J := ge (A := (2, 80, 4, 0, 0)) rfl
set_option maxRecDepth 10000 in
theorem g_94_80 : GO x d 94 Q 80 [v0, v1, some (.inl a), v3, v4] st I J = GO x d 94 Q 81 [v0, v1, some (.inl a), v3, v4] (.inl a :: st) I J := ge (A := (1, 81, 2, 0, 0)) rfl
set_option maxRecDepth 10000 in
theorem g_94_81 : GO x d 94 Q 81 [v0, v1, v2, some (.inl a), v4] st I J = GO x d 94 Q 82 [v0, v1, v2, some (.inl a), v4] (.inl a :: st) I J := ge (A := (1, 82, 3, 0, 0)) rfl
set_option maxRecDepth 10000 in
theorem g_94_82 : GO x d 94 Q 82 [v0, v1, v2, v3, v4] [.inl i0, .inl i1, .inr (.inr w0), .inr (.inr w1), .inr (.inr (.inl r))] I J = (okO r 8 ∧ EX x d 67 [.inr (.inr (.inl r)), .inr (.inr w1), .inr (.inr w0), .inl i1, .inl i0] I J (fun r1 I1 J1 => GO x d 94 Q 85 [v0, v1, v2, v3, v4] (r1.toList ++ []) I1 J1)) := (ge (A := (53, 85, 67, 4, 0)) rfl).trans (gtrue (Nat.le_of_ble_eq_true rfl))
set_option maxRecDepth 10000 in
theorem g_94_85 : GO x d 94 Q 85 [v0, v1, v2, v3, v4] (.inl a :: st) I J = (inR a ∧ if a = 0 then GO x d 94 Q 88 [v0, v1, v2, v3, v4] st I J else GO x d 94 Q 91 [v0, v1, v2, v3, v4] st I J) := (ge (A := (33, 88, 91, 1, 0)) rfl).trans (gifn (p := a = 0) inferInstance)
set_option maxRecDepth 10000 in
theorem g_94_88 : GO x d 94 Q 88 [v0, v1, v2, v3, v4] st I J = GO x d 94 Q 90 [v0, v1, v2, v3, v4] (.inl (-1000001) :: st) I J := ge (A := (0, 90, 0, 0, -1000001)) rfl
set_option maxRecDepth 10000 in
theorem g_94_90 : GO x d 94 Q 90 [v0, v1, v2, v3, v4] [.inl a] I J = Q (some (.inl a)) I J := ge (A := (55, 91, 0, 0, 0)) rfl
set_option maxRecDepth 10000 in
theorem g_94_91 : GO x d 94 Q 91 [some (.inr (.inr w)), v1, v2, v3, v4] st I J = GO x d 94 Q 92 [some (.inr (.inr w)), v1, v2, v3, v4] (.inr (.inr w) :: st) I J := ge (A := (2, 92, 0, 0, 0)) rfl
set_option maxRecDepth 10000 in
theorem g_94_92 : GO x d 94 Q 92 [some (.inr (.inr w)), v1, v2, v3, v4] st I J = GO x d 94 Q 93 [some (.inr (.inr w)), v1, v2, v3, v4] (.inr (.inr w) :: st) I J := ge (A := (2, 93, 0, 0, 0)) rfl
set_option maxRecDepth 10000 in
theorem g_94_93 : GO x d 94 Q 93 [v0, v1, v2, v3, v4] (.inr (.inr (.inl r)) :: st) I J = (okF r 9 8 ∧ GO x d 94 Q 96 [v0, v1, v2, v3, v4] (.inr (.inr (.inl (rfN r 8))) :: st) I J) := (ge (A := (39, 96, 9, 8, 0)) rfl).trans (gref (f := fun q => GO x d 94 Q 96 [v0, v1, v2, v3, v4] (.inr (.inr (.inl q)) :: st) I J))
set_option maxRecDepth 10000 in
theorem g_94_96 : GO x d 94 Q 96 [some (.inr (.inr w)), v1, v2, v3, v4] st I J = GO x d 94 Q 97 [some (.inr (.inr w)), v1, v2, v3, v4] (.inr (.inr w) :: st) I J := ge (A := (2, 97, 0, 0, 0)) rfl
set_option maxRecDepth 10000 in
theorem g_94_97 : GO x d 94 Q 97 [v0, v1, v2, v3, v4] (.inr (.inr (.inl r)) :: st) I J = (okF r 9 1 ∧ GO x d 94 Q 100 [v0, v1, v2, v3, v4] (.inr (.inr (.inl (rfN r 1))) :: st) I J) := (ge (A := (39, 100, 9, 1, 0)) rfl).trans (gref (f := fun q => GO x d 94 Q 100 [v0, v1, v2, v3, v4] (.inr (.inr (.inl q)) :: st) I J))
set_option maxRecDepth 10000 in
theorem g_94_100 : GO x d 94 Q 100 [v0, v1, v2, v3, v4] [.inr (.inr w0), .inr (.inr (.inl r)), .inr (.inr w1)] I J = (okO r 8 ∧ EX x d 68 [.inr (.inr (.inl r)), .inr (.inr w0)] I J (fun r1 I1 J1 => GO x d 94 Q 103 [v0, v1, v2, v3, v4] (r1.toList ++ [.inr (.inr w1)]) I1 J1)) := (ge (A := (53, 103, 68, 1, 0)) rfl).trans (gtrue (Nat.le_of_ble_eq_true rfl))
set_option maxRecDepth 10000 in
theorem g_94_103 : GO x d 94 Q 103 [v0, v1, v2, v3, v4] [.inl i0, .inr (.inr (.inl r))] I J = (okO r 9 ∧ EX x d 77 [.inr (.inr (.inl r)), .inl i0] I J (fun r1 I1 J1 => GO x d 94 Q 106 [v0, v1, v2, v3, v4] (r1.toList ++ []) I1 J1)) := (ge (A := (53, 106, 77, 1, 0)) rfl).trans (gtrue (Nat.le_of_ble_eq_true rfl))
set_option maxRecDepth 10000 in
theorem g_94_106 : GO x d 94 Q 106 [v0, v1, v2, v3, v4] [.inl a] I J = Q (some (.inl a)) I J := ge (A := (55, 107, 0, 0, 0)) rfl
set_option maxRecDepth 10000 in
theorem e_94 : EX x (d + 1) 94 [.inr (.inr w0), .inl i0, .inl i1, .inl i2] I J Q = GO x d 94 Q 0 [some (.inr (.inr w0)), some (.inl i0), some (.inl i1), some (.inl i2), none] [] I J := ex_eq (Nat.le_of_ble_eq_true rfl) rfl (Nat.le_of_ble_eq_true rfl) rfl
set_option maxRecDepth 10000 in
theorem g_95_0 : GO x d 95 Q 0 [v0, some (.inl a)] st I J = GO x d 95 Q 1 [v0, some (.inl a)] (.inl a :: st) I J := ge (A := (1, 1, 1, 0, 0)) rfl
set_option maxRecDepth 10000 in
theorem g_95_1 : GO x d 95 Q 1 [v0, v1] (.inl a :: st) I J = (inR a ∧ if a < 0 then GO x d 95 Q 9 [v0, v1] st I J else GO x d 95 Q 4 [v0, v1] st I J) := (ge (A := (33, 4, 9, 2, 0)) rfl).trans (gif (p := a < 0) inferInstance)
set_option maxRecDepth 10000 in
theorem g_95_4 : GO x d 95 Q 4 [v0, some (.inl a)] st I J = GO x d 95 Q 5 [v0, some (.inl a)] (.inl a :: st) I J := ge (A := (1, 5, 1, 0, 0)) rfl
set_option maxRecDepth 10000 in
theorem g_95_5 : GO x d 95 Q 5 [v0, v1] st I J = GO x d 95 Q 6 [v0, v1] (.inl (2) :: st) I J := ge (A := (0, 6, 0, 0, 2)) rfl
set_option maxRecDepth 10000 in
theorem g_95_6 : GO x d 95 Q 6 [v0, v1] (.inl b :: .inl a :: st) I J = (inR a ∧ inR b ∧ if a < b then GO x d 95 Q 12 [v0, v1] st I J else GO x d 95 Q 9 [v0, v1] st I J) := (ge (A := (34, 9, 12, 2, 0)) rfl).trans (gic (p := a < b) inferInstance)
set_option maxRecDepth 10000 in
theorem g_95_9 : GO x d 95 Q 9 [v0, v1] st I J = GO x d 95 Q 11 [v0, v1] (.inl (-1000001) :: st) I J := ge (A := (0, 11, 0, 0, -1000001)) rfl
set_option maxRecDepth 10000 in
theorem g_95_11 : GO x d 95 Q 11 [v0, v1] [.inl a] I J = Q (some (.inl a)) I J := ge (A := (55, 12, 0, 0, 0)) rfl
set_option maxRecDepth 10000 in
theorem g_95_12 : GO x d 95 Q 12 [some (.inr (.inr w)), v1] st I J = GO x d 95 Q 13 [some (.inr (.inr w)), v1] (.inr (.inr w) :: st) I J := ge (A := (2, 13, 0, 0, 0)) rfl
set_option maxRecDepth 10000 in
theorem g_95_13 : GO x d 95 Q 13 [v0, v1] (.inr (.inr (.inl r)) :: st) I J = (okF r 9 1 ∧ GO x d 95 Q 16 [v0, v1] (.inr (.inr (.inl (rfN r 1))) :: st) I J) := (ge (A := (39, 16, 9, 1, 0)) rfl).trans (gref (f := fun q => GO x d 95 Q 16 [v0, v1] (.inr (.inr (.inl q)) :: st) I J))
set_option maxRecDepth 10000 in
theorem g_95_16 : GO x d 95 Q 16 [v0, v1] (.inr (.inr (.inl r)) :: st) I J = (okO r 3 ∧ GO x d 95 Q 19 [v0, v1] (.inl (I r 0) :: st) I J) := ge (A := (37, 19, 3, 0, 0)) rfl
set_option maxRecDepth 10000 in
theorem g_95_19 : GO x d 95 Q 19 [v0, v1] (.inl a :: st) I J = (inR a ∧ if a = 0 then GO x d 95 Q 22 [v0, v1] st I J else GO x d 95 Q 25 [v0, v1] st I J) := (ge (A := (33, 22, 25, 1, 0)) rfl).trans (gifn (p := a = 0) inferInstance)
set_option maxRecDepth 10000 in
theorem g_95_22 : GO x d 95 Q 22 [v0, v1] st I J = GO x d 95 Q 24 [v0, v1] (.inl (-1000002) :: st) I J := ge (A := (0, 24, 0, 0, -1000002)) rfl
set_option maxRecDepth 10000 in
theorem g_95_24 : GO x d 95 Q 24 [v0, v1] [.inl a] I J = Q (some (.inl a)) I J := ge (A := (55, 25, 0, 0, 0)) rfl
set_option maxRecDepth 10000 in
theorem g_95_25 : GO x d 95 Q 25 [some (.inr (.inr w)), v1] st I J = GO x d 95 Q 26 [some (.inr (.inr w)), v1] (.inr (.inr w) :: st) I J := ge (A := (2, 26, 0, 0, 0)) rfl
set_option maxRecDepth 10000 in
theorem g_95_26 : GO x d 95 Q 26 [v0, v1] (.inr (.inr (.inl r)) :: st) I J = (okF r 9 3 ∧ GO x d 95 Q 29 [v0, v1] (.inr (.inr (.inl (rfN r 3))) :: st) I J) := (ge (A := (39, 29, 9, 3, 0)) rfl).trans (gref (f := fun q => GO x d 95 Q 29 [v0, v1] (.inr (.inr (.inl q)) :: st) I J))
set_option maxRecDepth 10000 in
theorem g_95_29 : GO x d 95 Q 29 [v0, some (.inl a)] st I J = GO x d 95 Q 30 [v0, some (.inl a)] (.inl a :: st) I J := ge (A := (1, 30, 1, 0, 0)) rfl
set_option maxRecDepth 10000 in
theorem g_95_30 : GO x d 95 Q 30 [v0, v1] (.inl a :: .inr (.inr (.inl r)) :: st) I J = ((23 ≤ clS S0 r ∧ clS S0 r ≤ 25 ∧ (elS S0 r a.toNat).isSome = true) ∧ 0 ≤ a ∧ a < lnN r ∧ GO x d 95 Q 31 [v0, v1] (.inr (.inr (.inl (elN r a))) :: st) I J) := (ge (A := (50, 31, 0, 0, 0)) rfl).trans (gel2 (f := fun q => GO x d 95 Q 31 [v0, v1] (.inr (.inr (.inl q)) :: st) I J))
set_option maxRecDepth 10000 in
theorem g_95_31 : GO x d 95 Q 31 [some (.inr (.inr w)), v1] st I J = GO x d 95 Q 32 [some (.inr (.inr w)), v1] (.inr (.inr w) :: st) I J := ge (A := (2, 32, 0, 0, 0)) rfl
set_option maxRecDepth 10000 in
theorem g_95_32 : GO x d 95 Q 32 [v0, v1] (.inr (.inr (.inl r)) :: st) I J = (okF r 9 1 ∧ GO x d 95 Q 35 [v0, v1] (.inr (.inr (.inl (rfN r 1))) :: st) I J) := (ge (A := (39, 35, 9, 1, 0)) rfl).trans (gref (f := fun q => GO x d 95 Q 35 [v0, v1] (.inr (.inr (.inl q)) :: st) I J))
set_option maxRecDepth 10000 in
theorem g_95_35 : GO x d 95 Q 35 [v0, v1] [.inr (.inr w0), .inr (.inr (.inl r))] I J = (okO r 3 ∧ EX x d 15 [.inr (.inr (.inl r)), .inr (.inr w0)] I J (fun r1 I1 J1 => GO x d 95 Q 38 [v0, v1] (r1.toList ++ []) I1 J1)) := (ge (A := (53, 38, 15, 1, 0)) rfl).trans (gtrue (Nat.le_of_ble_eq_true rfl))
set_option maxRecDepth 10000 in
theorem g_95_38 : GO x d 95 Q 38 [v0, v1] st I J = GO x d 95 Q 39 [v0, v1] (.inl (1) :: st) I J := ge (A := (0, 39, 0, 0, 1)) rfl
set_option maxRecDepth 10000 in
theorem g_95_39 : GO x d 95 Q 39 [v0, v1] [.inl a] I J = Q (some (.inl a)) I J := ge (A := (55, 40, 0, 0, 0)) rfl
set_option maxRecDepth 10000 in
theorem e_95 : EX x (d + 1) 95 [.inr (.inr w0), .inl i0] I J Q = GO x d 95 Q 0 [some (.inr (.inr w0)), some (.inl i0)] [] I J := ex_eq (Nat.le_of_ble_eq_true rfl) rfl (Nat.le_of_ble_eq_true rfl) rfl
set_option maxRecDepth 10000 in
theorem g_96_0 : GO x d 96 Q 0 [v0, some (.inl a)] st I J = GO x d 96 Q 1 [v0, some (.inl a)] (.inl a :: st) I J := ge (A := (1, 1, 1, 0, 0)) rfl
set_option maxRecDepth 10000 in
theorem g_96_1 : GO x d 96 Q 1 [v0, v1] (.inl a :: st) I J = (inR a ∧ if a < 0 then GO x d 96 Q 9 [v0, v1] st I J else GO x d 96 Q 4 [v0, v1] st I J) := (ge (A := (33, 4, 9, 2, 0)) rfl).trans (gif (p := a < 0) inferInstance)
set_option maxRecDepth 10000 in
theorem g_96_4 : GO x d 96 Q 4 [v0, some (.inl a)] st I J = GO x d 96 Q 5 [v0, some (.inl a)] (.inl a :: st) I J := ge (A := (1, 5, 1, 0, 0)) rfl
set_option maxRecDepth 10000 in
theorem g_96_5 : GO x d 96 Q 5 [v0, v1] st I J = GO x d 96 Q 6 [v0, v1] (.inl (2) :: st) I J := ge (A := (0, 6, 0, 0, 2)) rfl
set_option maxRecDepth 10000 in
theorem g_96_6 : GO x d 96 Q 6 [v0, v1] (.inl b :: .inl a :: st) I J = (inR a ∧ inR b ∧ if a < b then GO x d 96 Q 12 [v0, v1] st I J else GO x d 96 Q 9 [v0, v1] st I J) := (ge (A := (34, 9, 12, 2, 0)) rfl).trans (gic (p := a < b) inferInstance)
set_option maxRecDepth 10000 in
theorem g_96_9 : GO x d 96 Q 9 [v0, v1] st I J = GO x d 96 Q 11 [v0, v1] (.inl (-1000001) :: st) I J := ge (A := (0, 11, 0, 0, -1000001)) rfl
set_option maxRecDepth 10000 in
theorem g_96_11 : GO x d 96 Q 11 [v0, v1] [.inl a] I J = Q (some (.inl a)) I J := ge (A := (55, 12, 0, 0, 0)) rfl
set_option maxRecDepth 10000 in
theorem g_96_12 : GO x d 96 Q 12 [some (.inr (.inr w)), v1] st I J = GO x d 96 Q 13 [some (.inr (.inr w)), v1] (.inr (.inr w) :: st) I J := ge (A := (2, 13, 0, 0, 0)) rfl
set_option maxRecDepth 10000 in
theorem g_96_13 : GO x d 96 Q 13 [v0, v1] (.inr (.inr (.inl r)) :: st) I J = (okF r 9 3 ∧ GO x d 96 Q 16 [v0, v1] (.inr (.inr (.inl (rfN r 3))) :: st) I J) := (ge (A := (39, 16, 9, 3, 0)) rfl).trans (gref (f := fun q => GO x d 96 Q 16 [v0, v1] (.inr (.inr (.inl q)) :: st) I J))
set_option maxRecDepth 10000 in
theorem g_96_16 : GO x d 96 Q 16 [v0, some (.inl a)] st I J = GO x d 96 Q 17 [v0, some (.inl a)] (.inl a :: st) I J := ge (A := (1, 17, 1, 0, 0)) rfl
set_option maxRecDepth 10000 in
theorem g_96_17 : GO x d 96 Q 17 [v0, v1] (.inl a :: .inr (.inr (.inl r)) :: st) I J = ((23 ≤ clS S0 r ∧ clS S0 r ≤ 25 ∧ (elS S0 r a.toNat).isSome = true) ∧ 0 ≤ a ∧ a < lnN r ∧ GO x d 96 Q 18 [v0, v1] (.inr (.inr (.inl (elN r a))) :: st) I J) := (ge (A := (50, 18, 0, 0, 0)) rfl).trans (gel2 (f := fun q => GO x d 96 Q 18 [v0, v1] (.inr (.inr (.inl q)) :: st) I J))
set_option maxRecDepth 10000 in
theorem g_96_18 : GO x d 96 Q 18 [v0, v1] (.inr (.inr (.inl r)) :: st) I J = (okO r 3 ∧ GO x d 96 Q 21 [v0, v1] (.inl (I r 0) :: st) I J) := ge (A := (37, 21, 3, 0, 0)) rfl
set_option maxRecDepth 10000 in
theorem g_96_21 : GO x d 96 Q 21 [v0, v1] (.inl a :: st) I J = (inR a ∧ if a = 0 then GO x d 96 Q 24 [v0, v1] st I J else GO x d 96 Q 27 [v0, v1] st I J) := (ge (A := (33, 24, 27, 1, 0)) rfl).trans (gifn (p := a = 0) inferInstance)
set_option maxRecDepth 10000 in
theorem g_96_24 : GO x d 96 Q 24 [v0, v1] st I J = GO x d 96 Q 26 [v0, v1] (.inl (-1000002) :: st) I J := ge (A := (0, 26, 0, 0, -1000002)) rfl
set_option maxRecDepth 10000 in
theorem g_96_26 : GO x d 96 Q 26 [v0, v1] [.inl a] I J = Q (some (.inl a)) I J := ge (A := (55, 27, 0, 0, 0)) rfl
set_option maxRecDepth 10000 in
theorem g_96_27 : GO x d 96 Q 27 [some (.inr (.inr w)), v1] st I J = GO x d 96 Q 28 [some (.inr (.inr w)), v1] (.inr (.inr w) :: st) I J := ge (A := (2, 28, 0, 0, 0)) rfl
set_option maxRecDepth 10000 in
theorem g_96_28 : GO x d 96 Q 28 [v0, v1] (.inr (.inr (.inl r)) :: st) I J = (okF r 9 1 ∧ GO x d 96 Q 31 [v0, v1] (.inr (.inr (.inl (rfN r 1))) :: st) I J) := (ge (A := (39, 31, 9, 1, 0)) rfl).trans (gref (f := fun q => GO x d 96 Q 31 [v0, v1] (.inr (.inr (.inl q)) :: st) I J))
set_option maxRecDepth 10000 in
theorem g_96_31 : GO x d 96 Q 31 [some (.inr (.inr w)), v1] st I J = GO x d 96 Q 32 [some (.inr (.inr w)), v1] (.inr (.inr w) :: st) I J := ge (A := (2, 32, 0, 0, 0)) rfl
set_option maxRecDepth 10000 in
theorem g_96_32 : GO x d 96 Q 32 [v0, v1] (.inr (.inr (.inl r)) :: st) I J = (okF r 9 3 ∧ GO x d 96 Q 35 [v0, v1] (.inr (.inr (.inl (rfN r 3))) :: st) I J) := (ge (A := (39, 35, 9, 3, 0)) rfl).trans (gref (f := fun q => GO x d 96 Q 35 [v0, v1] (.inr (.inr (.inl q)) :: st) I J))
set_option maxRecDepth 10000 in
theorem g_96_35 : GO x d 96 Q 35 [v0, some (.inl a)] st I J = GO x d 96 Q 36 [v0, some (.inl a)] (.inl a :: st) I J := ge (A := (1, 36, 1, 0, 0)) rfl
set_option maxRecDepth 10000 in
theorem g_96_36 : GO x d 96 Q 36 [v0, v1] (.inl a :: .inr (.inr (.inl r)) :: st) I J = ((23 ≤ clS S0 r ∧ clS S0 r ≤ 25 ∧ (elS S0 r a.toNat).isSome = true) ∧ 0 ≤ a ∧ a < lnN r ∧ GO x d 96 Q 37 [v0, v1] (.inr (.inr (.inl (elN r a))) :: st) I J) := (ge (A := (50, 37, 0, 0, 0)) rfl).trans (gel2 (f := fun q => GO x d 96 Q 37 [v0, v1] (.inr (.inr (.inl q)) :: st) I J))
set_option maxRecDepth 10000 in
theorem g_96_37 : GO x d 96 Q 37 [v0, v1] [.inr (.inr w0), .inr (.inr (.inl r))] I J = (okO r 3 ∧ EX x d 15 [.inr (.inr (.inl r)), .inr (.inr w0)] I J (fun r1 I1 J1 => GO x d 96 Q 40 [v0, v1] (r1.toList ++ []) I1 J1)) := (ge (A := (53, 40, 15, 1, 0)) rfl).trans (gtrue (Nat.le_of_ble_eq_true rfl))
set_option maxRecDepth 10000 in
theorem g_96_40 : GO x d 96 Q 40 [some (.inr (.inr w)), v1] st I J = GO x d 96 Q 41 [some (.inr (.inr w)), v1] (.inr (.inr w) :: st) I J := ge (A := (2, 41, 0, 0, 0)) rfl
set_option maxRecDepth 10000 in
theorem g_96_41 : GO x d 96 Q 41 [v0, v1] (.inr (.inr (.inl r)) :: st) I J = (okF r 9 5 ∧ GO x d 96 Q 44 [v0, v1] (.inr (.inr (.inl (rfN r 5))) :: st) I J) := (ge (A := (39, 44, 9, 5, 0)) rfl).trans (gref (f := fun q => GO x d 96 Q 44 [v0, v1] (.inr (.inr (.inl q)) :: st) I J))
set_option maxRecDepth 10000 in
theorem g_96_44 : GO x d 96 Q 44 [v0, v1] [.inr (.inr (.inl r))] I J = (okO r 1 ∧ EX x d 2 [.inr (.inr (.inl r))] I J (fun r1 I1 J1 => GO x d 96 Q 47 [v0, v1] (r1.toList ++ []) I1 J1)) := (ge (A := (53, 47, 2, 0, 0)) rfl).trans (gtrue (Nat.le_of_ble_eq_true rfl))
set_option maxRecDepth 10000 in
theorem g_96_47 : GO x d 96 Q 47 [v0, v1] st I J = GO x d 96 Q 48 [v0, v1] (.inl (1) :: st) I J := ge (A := (0, 48, 0, 0, 1)) rfl
set_option maxRecDepth 10000 in
theorem g_96_48 : GO x d 96 Q 48 [v0, v1] [.inl a] I J = Q (some (.inl a)) I J := ge (A := (55, 49, 0, 0, 0)) rfl
set_option maxRecDepth 10000 in
theorem e_96 : EX x (d + 1) 96 [.inr (.inr w0), .inl i0] I J Q = GO x d 96 Q 0 [some (.inr (.inr w0)), some (.inl i0)] [] I J := ex_eq (Nat.le_of_ble_eq_true rfl) rfl (Nat.le_of_ble_eq_true rfl) rfl
set_option maxRecDepth 10000 in
theorem g_97_0 : GO x d 97 Q 0 [some (.inr (.inr w)), v1] st I J = GO x d 97 Q 1 [some (.inr (.inr w)), v1] (.inr (.inr w) :: st) I J := ge (A := (2, 1, 0, 0, 0)) rfl
set_option maxRecDepth 10000 in
theorem g_97_1 : GO x d 97 Q 1 [v0, v1] (.inr (.inr (.inl r)) :: st) I J = (okF r 9 1 ∧ GO x d 97 Q 4 [v0, v1] (.inr (.inr (.inl (rfN r 1))) :: st) I J) := (ge (A := (39, 4, 9, 1, 0)) rfl).trans (gref (f := fun q => GO x d 97 Q 4 [v0, v1] (.inr (.inr (.inl q)) :: st) I J))
set_option maxRecDepth 10000 in
theorem g_97_4 : GO x d 97 Q 4 [v0, some (.inl a)] st I J = GO x d 97 Q 5 [v0, some (.inl a)] (.inl a :: st) I J := ge (A := (1, 5, 1, 0, 0)) rfl
set_option maxRecDepth 10000 in
theorem g_97_5 : GO x d 97 Q 5 [v0, v1] [.inl i0, .inr (.inr (.inl r))] I J = (okO r 3 ∧ EX x d 16 [.inr (.inr (.inl r)), .inl i0] I J (fun r1 I1 J1 => GO x d 97 Q 8 [v0, v1] (r1.toList ++ []) I1 J1)) := (ge (A := (53, 8, 16, 1, 0)) rfl).trans (gtrue (Nat.le_of_ble_eq_true rfl))
set_option maxRecDepth 10000 in
theorem g_97_8 : GO x d 97 Q 8 [v0, v1] (.inl a :: st) I J = (inR a ∧ if a = 0 then GO x d 97 Q 23 [v0, v1] st I J else GO x d 97 Q 11 [v0, v1] st I J) := (ge (A := (33, 11, 23, 0, 0)) rfl).trans (gif (p := a = 0) inferInstance)
set_option maxRecDepth 10000 in
theorem g_97_11 : GO x d 97 Q 11 [some (.inr (.inr w)), v1] st I J = GO x d 97 Q 12 [some (.inr (.inr w)), v1] (.inr (.inr w) :: st) I J := ge (A := (2, 12, 0, 0, 0)) rfl
set_option maxRecDepth 10000 in
theorem g_97_12 : GO x d 97 Q 12 [v0, v1] (.inr (.inr (.inl r)) :: st) I J = (okF r 9 1 ∧ GO x d 97 Q 15 [v0, v1] (.inr (.inr (.inl (rfN r 1))) :: st) I J) := (ge (A := (39, 15, 9, 1, 0)) rfl).trans (gref (f := fun q => GO x d 97 Q 15 [v0, v1] (.inr (.inr (.inl q)) :: st) I J))
set_option maxRecDepth 10000 in
theorem g_97_15 : GO x d 97 Q 15 [v0, v1] (.inr (.inr (.inl r)) :: st) I J = (okF r 3 4 ∧ GO x d 97 Q 18 [v0, v1] (.inr (.inr (.inl (rfN r 4))) :: st) I J) := (ge (A := (39, 18, 3, 4, 0)) rfl).trans (gref (f := fun q => GO x d 97 Q 18 [v0, v1] (.inr (.inr (.inl q)) :: st) I J))
set_option maxRecDepth 10000 in
theorem g_97_18 : GO x d 97 Q 18 [v0, some (.inl a)] st I J = GO x d 97 Q 19 [v0, some (.inl a)] (.inl a :: st) I J := ge (A := (1, 19, 1, 0, 0)) rfl
set_option maxRecDepth 10000 in
theorem h_97_19 : GO x d 97 Q 19 [v0, v1] (.inl a :: .inr (.inr (.inr q)) :: st) I J = (q < 4 ∧ 0 ≤ a ∧ a < (roA x q).1 ∧ GO x d 97 Q 20 [v0, v1] (.inl ((roA x q).2 a.toNat) :: st) I J) := ge (A := (44, 20, 0, 0, 0)) rfl
set_option maxRecDepth 10000 in
theorem g_97_19 : GO x d 97 Q 19 [v0, v1] (.inl a :: .inr (.inr (.inl r)) :: st) I J = (okA r 20 ∧ 0 ≤ a ∧ a < lnN r ∧ GO x d 97 Q 20 [v0, v1] (.inl (I r a) :: st) I J) := ge (A := (44, 20, 0, 0, 0)) rfl
set_option maxRecDepth 10000 in
theorem g_97_20 : GO x d 97 Q 20 [v0, v1] st I J = GO x d 97 Q 25 [v0, v1] st I J := ge (A := (35, 23, 25, 0, 0)) rfl
set_option maxRecDepth 10000 in
theorem g_97_23 : GO x d 97 Q 23 [v0, v1] st I J = GO x d 97 Q 25 [v0, v1] (.inl (-1000001) :: st) I J := ge (A := (0, 25, 0, 0, -1000001)) rfl
set_option maxRecDepth 10000 in
theorem g_97_25 : GO x d 97 Q 25 [v0, v1] [.inl a] I J = Q (some (.inl a)) I J := ge (A := (55, 26, 0, 0, 0)) rfl
set_option maxRecDepth 10000 in
theorem e_97 : EX x (d + 1) 97 [.inr (.inr w0), .inl i0] I J Q = GO x d 97 Q 0 [some (.inr (.inr w0)), some (.inl i0)] [] I J := ex_eq (Nat.le_of_ble_eq_true rfl) rfl (Nat.le_of_ble_eq_true rfl) rfl
set_option maxRecDepth 10000 in
theorem g_98_0 : GO x d 98 Q 0 [some (.inr (.inr w)), v1, v2] st I J = GO x d 98 Q 1 [some (.inr (.inr w)), v1, v2] (.inr (.inr w) :: st) I J := ge (A := (2, 1, 0, 0, 0)) rfl
set_option maxRecDepth 10000 in
theorem g_98_1 : GO x d 98 Q 1 [v0, v1, v2] (.inr (.inr (.inl r)) :: st) I J = (okF r 9 1 ∧ GO x d 98 Q 4 [v0, v1, v2] (.inr (.inr (.inl (rfN r 1))) :: st) I J) := (ge (A := (39, 4, 9, 1, 0)) rfl).trans (gref (f := fun q => GO x d 98 Q 4 [v0, v1, v2] (.inr (.inr (.inl q)) :: st) I J))
set_option maxRecDepth 10000 in
theorem g_98_4 : GO x d 98 Q 4 [v0, some (.inl a), v2] st I J = GO x d 98 Q 5 [v0, some (.inl a), v2] (.inl a :: st) I J := ge (A := (1, 5, 1, 0, 0)) rfl
set_option maxRecDepth 10000 in
theorem g_98_5 : GO x d 98 Q 5 [v0, v1, v2] [.inl i0, .inr (.inr (.inl r))] I J = (okO r 3 ∧ EX x d 16 [.inr (.inr (.inl r)), .inl i0] I J (fun r1 I1 J1 => GO x d 98 Q 8 [v0, v1, v2] (r1.toList ++ []) I1 J1)) := (ge (A := (53, 8, 16, 1, 0)) rfl).trans (gtrue (Nat.le_of_ble_eq_true rfl))
set_option maxRecDepth 10000 in
theorem g_98_8 : GO x d 98 Q 8 [v0, v1, v2] (.inl a :: st) I J = (inR a ∧ if a = 0 then GO x d 98 Q 21 [v0, v1, v2] st I J else GO x d 98 Q 11 [v0, v1, v2] st I J) := (ge (A := (33, 11, 21, 0, 0)) rfl).trans (gif (p := a = 0) inferInstance)
set_option maxRecDepth 10000 in
theorem g_98_11 : GO x d 98 Q 11 [v0, v1, some (.inl a)] st I J = GO x d 98 Q 12 [v0, v1, some (.inl a)] (.inl a :: st) I J := ge (A := (1, 12, 2, 0, 0)) rfl
set_option maxRecDepth 10000 in
theorem g_98_12 : GO x d 98 Q 12 [v0, v1, v2] (.inl a :: st) I J = (inR a ∧ if a < 0 then GO x d 98 Q 21 [v0, v1, v2] st I J else GO x d 98 Q 15 [v0, v1, v2] st I J) := (ge (A := (33, 15, 21, 2, 0)) rfl).trans (gif (p := a < 0) inferInstance)
set_option maxRecDepth 10000 in
theorem g_98_15 : GO x d 98 Q 15 [v0, v1, some (.inl a)] st I J = GO x d 98 Q 16 [v0, v1, some (.inl a)] (.inl a :: st) I J := ge (A := (1, 16, 2, 0, 0)) rfl
set_option maxRecDepth 10000 in
theorem g_98_16 : GO x d 98 Q 16 [v0, v1, v2] st I J = GO x d 98 Q 18 [v0, v1, v2] (.inl (6) :: st) I J := ge (A := (0, 18, 0, 0, 6)) rfl
set_option maxRecDepth 10000 in
theorem g_98_18 : GO x d 98 Q 18 [v0, v1, v2] (.inl b :: .inl a :: st) I J = (inR a ∧ inR b ∧ if a < b then GO x d 98 Q 24 [v0, v1, v2] st I J else GO x d 98 Q 21 [v0, v1, v2] st I J) := (ge (A := (34, 21, 24, 2, 0)) rfl).trans (gic (p := a < b) inferInstance)
set_option maxRecDepth 10000 in
theorem g_98_21 : GO x d 98 Q 21 [v0, v1, v2] st I J = GO x d 98 Q 23 [v0, v1, v2] (.inl (-1000001) :: st) I J := ge (A := (0, 23, 0, 0, -1000001)) rfl
set_option maxRecDepth 10000 in
theorem g_98_23 : GO x d 98 Q 23 [v0, v1, v2] [.inl a] I J = Q (some (.inl a)) I J := ge (A := (55, 24, 0, 0, 0)) rfl
set_option maxRecDepth 10000 in
theorem g_98_24 : GO x d 98 Q 24 [some (.inr (.inr w)), v1, v2] st I J = GO x d 98 Q 25 [some (.inr (.inr w)), v1, v2] (.inr (.inr w) :: st) I J := ge (A := (2, 25, 0, 0, 0)) rfl
set_option maxRecDepth 10000 in
theorem g_98_25 : GO x d 98 Q 25 [v0, v1, v2] (.inr (.inr (.inl r)) :: st) I J = (okF r 9 1 ∧ GO x d 98 Q 28 [v0, v1, v2] (.inr (.inr (.inl (rfN r 1))) :: st) I J) := (ge (A := (39, 28, 9, 1, 0)) rfl).trans (gref (f := fun q => GO x d 98 Q 28 [v0, v1, v2] (.inr (.inr (.inl q)) :: st) I J))
set_option maxRecDepth 10000 in
theorem g_98_28 : GO x d 98 Q 28 [v0, v1, v2] (.inr (.inr (.inl r)) :: st) I J = (okF r 3 4 ∧ GO x d 98 Q 31 [v0, v1, v2] (.inr (.inr (.inl (rfN r 4))) :: st) I J) := (ge (A := (39, 31, 3, 4, 0)) rfl).trans (gref (f := fun q => GO x d 98 Q 31 [v0, v1, v2] (.inr (.inr (.inl q)) :: st) I J))
set_option maxRecDepth 10000 in
theorem g_98_31 : GO x d 98 Q 31 [v0, some (.inl a), v2] st I J = GO x d 98 Q 32 [v0, some (.inl a), v2] (.inl a :: st) I J := ge (A := (1, 32, 1, 0, 0)) rfl
set_option maxRecDepth 10000 in
theorem h_98_32 : GO x d 98 Q 32 [v0, v1, v2] (.inl a :: .inr (.inr (.inr q)) :: st) I J = (q < 4 ∧ 0 ≤ a ∧ a < (roA x q).1 ∧ GO x d 98 Q 33 [v0, v1, v2] (.inl ((roA x q).2 a.toNat) :: st) I J) := ge (A := (44, 33, 0, 0, 0)) rfl
set_option maxRecDepth 10000 in
theorem g_98_32 : GO x d 98 Q 32 [v0, v1, v2] (.inl a :: .inr (.inr (.inl r)) :: st) I J = (okA r 20 ∧ 0 ≤ a ∧ a < lnN r ∧ GO x d 98 Q 33 [v0, v1, v2] (.inl (I r a) :: st) I J) := ge (A := (44, 33, 0, 0, 0)) rfl
set_option maxRecDepth 10000 in
theorem g_98_33 : GO x d 98 Q 33 [v0, v1, some (.inl a)] st I J = GO x d 98 Q 34 [v0, v1, some (.inl a)] (.inl a :: st) I J := ge (A := (1, 34, 2, 0, 0)) rfl
set_option maxRecDepth 10000 in
theorem g_98_34 : GO x d 98 Q 34 [v0, v1, v2] [.inl i0, .inl i1] I J = EX x d 107 [.inl i1, .inl i0] I J (fun r1 I1 J1 => GO x d 98 Q 37 [v0, v1, v2] (r1.toList ++ []) I1 J1) := (ge (A := (52, 37, 107, 2, 0)) rfl).trans (gtrue2 (Nat.le_of_ble_eq_true rfl) (Nat.le_of_ble_eq_true rfl))
set_option maxRecDepth 10000 in
theorem g_98_37 : GO x d 98 Q 37 [v0, v1, v2] (.inl a :: st) I J = (inR a ∧ if a = 0 then GO x d 98 Q 48 [v0, v1, v2] st I J else GO x d 98 Q 40 [v0, v1, v2] st I J) := (ge (A := (33, 40, 48, 0, 0)) rfl).trans (gif (p := a = 0) inferInstance)
set_option maxRecDepth 10000 in
theorem g_98_40 : GO x d 98 Q 40 [some (.inr (.inr w)), v1, v2] st I J = GO x d 98 Q 41 [some (.inr (.inr w)), v1, v2] (.inr (.inr w) :: st) I J := ge (A := (2, 41, 0, 0, 0)) rfl
set_option maxRecDepth 10000 in
theorem g_98_41 : GO x d 98 Q 41 [v0, some (.inl a), v2] st I J = GO x d 98 Q 42 [v0, some (.inl a), v2] (.inl a :: st) I J := ge (A := (1, 42, 1, 0, 0)) rfl
set_option maxRecDepth 10000 in
theorem g_98_42 : GO x d 98 Q 42 [v0, v1, v2] [.inl i0, .inr (.inr (.inl r))] I J = (okO r 9 ∧ EX x d 77 [.inr (.inr (.inl r)), .inl i0] I J (fun r1 I1 J1 => GO x d 98 Q 45 [v0, v1, v2] (r1.toList ++ []) I1 J1)) := (ge (A := (53, 45, 77, 1, 0)) rfl).trans (gtrue (Nat.le_of_ble_eq_true rfl))
set_option maxRecDepth 10000 in
theorem g_98_45 : GO x d 98 Q 45 [v0, v1, v2] st I J = GO x d 98 Q 53 [v0, v1, v2] st I J := ge (A := (35, 48, 53, 0, 0)) rfl
set_option maxRecDepth 10000 in
theorem g_98_48 : GO x d 98 Q 48 [some (.inr (.inr w)), v1, v2] st I J = GO x d 98 Q 49 [some (.inr (.inr w)), v1, v2] (.inr (.inr w) :: st) I J := ge (A := (2, 49, 0, 0, 0)) rfl
set_option maxRecDepth 10000 in
theorem g_98_49 : GO x d 98 Q 49 [v0, v1, v2] st I J = GO x d 98 Q 50 [v0, v1, v2] (.inl (3) :: st) I J := ge (A := (0, 50, 0, 0, 3)) rfl
set_option maxRecDepth 10000 in
theorem g_98_50 : GO x d 98 Q 50 [v0, v1, v2] [.inl i0, .inr (.inr (.inl r))] I J = (okO r 9 ∧ EX x d 76 [.inr (.inr (.inl r)), .inl i0] I J (fun r1 I1 J1 => GO x d 98 Q 53 [v0, v1, v2] (r1.toList ++ []) I1 J1)) := (ge (A := (53, 53, 76, 1, 0)) rfl).trans (gtrue (Nat.le_of_ble_eq_true rfl))
set_option maxRecDepth 10000 in
theorem g_98_53 : GO x d 98 Q 53 [v0, v1, v2] [.inl a] I J = Q (some (.inl a)) I J := ge (A := (55, 54, 0, 0, 0)) rfl
set_option maxRecDepth 10000 in
theorem e_98 : EX x (d + 1) 98 [.inr (.inr w0), .inl i0, .inl i1] I J Q = GO x d 98 Q 0 [some (.inr (.inr w0)), some (.inl i0), some (.inl i1)] [] I J := ex_eq (Nat.le_of_ble_eq_true rfl) rfl (Nat.le_of_ble_eq_true rfl) rfl
set_option maxRecDepth 10000 in
theorem g_99_0 : GO x d 99 Q 0 [some (.inr (.inr w)), v1, v2] st I J = GO x d 99 Q 1 [some (.inr (.inr w)), v1, v2] (.inr (.inr w) :: st) I J := ge (A := (2, 1, 0, 0, 0)) rfl
set_option maxRecDepth 10000 in
theorem g_99_1 : GO x d 99 Q 1 [v0, v1, v2] (.inr (.inr (.inl r)) :: st) I J = (okF r 9 1 ∧ GO x d 99 Q 4 [v0, v1, v2] (.inr (.inr (.inl (rfN r 1))) :: st) I J) := (ge (A := (39, 4, 9, 1, 0)) rfl).trans (gref (f := fun q => GO x d 99 Q 4 [v0, v1, v2] (.inr (.inr (.inl q)) :: st) I J))
set_option maxRecDepth 10000 in
theorem g_99_4 : GO x d 99 Q 4 [v0, some (.inl a), v2] st I J = GO x d 99 Q 5 [v0, some (.inl a), v2] (.inl a :: st) I J := ge (A := (1, 5, 1, 0, 0)) rfl
set_option maxRecDepth 10000 in
theorem g_99_5 : GO x d 99 Q 5 [v0, v1, v2] [.inl i0, .inr (.inr (.inl r))] I J = (okO r 3 ∧ EX x d 16 [.inr (.inr (.inl r)), .inl i0] I J (fun r1 I1 J1 => GO x d 99 Q 8 [v0, v1, v2] (r1.toList ++ []) I1 J1)) := (ge (A := (53, 8, 16, 1, 0)) rfl).trans (gtrue (Nat.le_of_ble_eq_true rfl))
set_option maxRecDepth 10000 in
theorem g_99_8 : GO x d 99 Q 8 [v0, v1, v2] (.inl a :: st) I J = (inR a ∧ if a = 0 then GO x d 99 Q 20 [v0, v1, v2] st I J else GO x d 99 Q 11 [v0, v1, v2] st I J) := (ge (A := (33, 11, 20, 0, 0)) rfl).trans (gif (p := a = 0) inferInstance)
set_option maxRecDepth 10000 in
theorem g_99_11 : GO x d 99 Q 11 [v0, v1, some (.inl a)] st I J = GO x d 99 Q 12 [v0, v1, some (.inl a)] (.inl a :: st) I J := ge (A := (1, 12, 2, 0, 0)) rfl
set_option maxRecDepth 10000 in
theorem g_99_12 : GO x d 99 Q 12 [v0, v1, v2] (.inl a :: st) I J = (inR a ∧ if a < 0 then GO x d 99 Q 20 [v0, v1, v2] st I J else GO x d 99 Q 15 [v0, v1, v2] st I J) := (ge (A := (33, 15, 20, 2, 0)) rfl).trans (gif (p := a < 0) inferInstance)
set_option maxRecDepth 10000 in
theorem g_99_15 : GO x d 99 Q 15 [v0, v1, some (.inl a)] st I J = GO x d 99 Q 16 [v0, v1, some (.inl a)] (.inl a :: st) I J := ge (A := (1, 16, 2, 0, 0)) rfl
set_option maxRecDepth 10000 in
theorem g_99_16 : GO x d 99 Q 16 [v0, v1, v2] st I J = GO x d 99 Q 17 [v0, v1, v2] (.inl (1) :: st) I J := ge (A := (0, 17, 0, 0, 1)) rfl
set_option maxRecDepth 10000 in
theorem g_99_17 : GO x d 99 Q 17 [v0, v1, v2] (.inl b :: .inl a :: st) I J = (inR a ∧ inR b ∧ if b < a then GO x d 99 Q 20 [v0, v1, v2] st I J else GO x d 99 Q 23 [v0, v1, v2] st I J) := (ge (A := (34, 20, 23, 5, 0)) rfl).trans (ggec)
set_option maxRecDepth 10000 in
theorem g_99_20 : GO x d 99 Q 20 [v0, v1, v2] st I J = GO x d 99 Q 22 [v0, v1, v2] (.inl (-1000001) :: st) I J := ge (A := (0, 22, 0, 0, -1000001)) rfl
set_option maxRecDepth 10000 in
theorem g_99_22 : GO x d 99 Q 22 [v0, v1, v2] [.inl a] I J = Q (some (.inl a)) I J := ge (A := (55, 23, 0, 0, 0)) rfl
set_option maxRecDepth 10000 in
theorem g_99_23 : GO x d 99 Q 23 [some (.inr (.inr w)), v1, v2] st I J = GO x d 99 Q 24 [some (.inr (.inr w)), v1, v2] (.inr (.inr w) :: st) I J := ge (A := (2, 24, 0, 0, 0)) rfl
set_option maxRecDepth 10000 in
theorem g_99_24 : GO x d 99 Q 24 [v0, v1, v2] (.inr (.inr (.inl r)) :: st) I J = (okF r 9 9 ∧ GO x d 99 Q 27 [v0, v1, v2] (.inr (.inr (.inl (rfN r 9))) :: st) I J) := (ge (A := (39, 27, 9, 9, 0)) rfl).trans (gref (f := fun q => GO x d 99 Q 27 [v0, v1, v2] (.inr (.inr (.inl q)) :: st) I J))
set_option maxRecDepth 10000 in
theorem g_99_27 : GO x d 99 Q 27 [some (.inr (.inr w)), v1, v2] st I J = GO x d 99 Q 28 [some (.inr (.inr w)), v1, v2] (.inr (.inr w) :: st) I J := ge (A := (2, 28, 0, 0, 0)) rfl
set_option maxRecDepth 10000 in
theorem g_99_28 : GO x d 99 Q 28 [v0, v1, v2] (.inr (.inr (.inl r)) :: st) I J = (okF r 9 1 ∧ GO x d 99 Q 31 [v0, v1, v2] (.inr (.inr (.inl (rfN r 1))) :: st) I J) := (ge (A := (39, 31, 9, 1, 0)) rfl).trans (gref (f := fun q => GO x d 99 Q 31 [v0, v1, v2] (.inr (.inr (.inl q)) :: st) I J))
set_option maxRecDepth 10000 in
theorem g_99_31 : GO x d 99 Q 31 [v0, some (.inl a), v2] st I J = GO x d 99 Q 32 [v0, some (.inl a), v2] (.inl a :: st) I J := ge (A := (1, 32, 1, 0, 0)) rfl
set_option maxRecDepth 10000 in
theorem g_99_32 : GO x d 99 Q 32 [v0, v1, some (.inl a)] st I J = GO x d 99 Q 33 [v0, v1, some (.inl a)] (.inl a :: st) I J := ge (A := (1, 33, 2, 0, 0)) rfl
set_option maxRecDepth 10000 in
theorem g_99_33 : GO x d 99 Q 33 [v0, v1, v2] (.inl a :: st) I J = (inR a ∧ if a = 0 then GO x d 99 Q 36 [v0, v1, v2] st I J else GO x d 99 Q 42 [v0, v1, v2] st I J) := (ge (A := (33, 36, 42, 1, 0)) rfl).trans (gifn (p := a = 0) inferInstance)
set_option maxRecDepth 10000 in
theorem g_99_36 : GO x d 99 Q 36 [v0, v1, v2] st I J = GO x d 99 Q 39 [v0, v1, v2] (.inr (.inr (.inr 2)) :: st) I J := ge (A := (43, 39, 2, 0, 0)) rfl
set_option maxRecDepth 10000 in
theorem g_99_39 : GO x d 99 Q 39 [v0, v1, v2] st I J = GO x d 99 Q 45 [v0, v1, v2] st I J := ge (A := (35, 42, 45, 0, 0)) rfl
set_option maxRecDepth 10000 in
theorem g_99_42 : GO x d 99 Q 42 [v0, v1, v2] st I J = GO x d 99 Q 45 [v0, v1, v2] (.inr (.inr (.inr 3)) :: st) I J := ge (A := (43, 45, 3, 0, 0)) rfl
set_option maxRecDepth 10000 in
theorem g_99_45 : GO x d 99 Q 45 [v0, v1, v2] [.inr (.inr w0), .inl i0, .inr (.inr w1), .inr (.inr (.inl r))] I J = (okO r 2 ∧ EX x d 6 [.inr (.inr (.inl r)), .inr (.inr w1), .inl i0, .inr (.inr w0)] I J (fun r1 I1 J1 => GO x d 99 Q 48 [v0, v1, v2] (r1.toList ++ []) I1 J1)) := (ge (A := (53, 48, 6, 3, 0)) rfl).trans (gtrue (Nat.le_of_ble_eq_true rfl))
set_option maxRecDepth 10000 in
theorem g_99_48 : GO x d 99 Q 48 [v0, v1, v2] [.inl a] I J = Q (some (.inl a)) I J := ge (A := (55, 49, 0, 0, 0)) rfl
set_option maxRecDepth 10000 in
theorem e_99 : EX x (d + 1) 99 [.inr (.inr w0), .inl i0, .inl i1] I J Q = GO x d 99 Q 0 [some (.inr (.inr w0)), some (.inl i0), some (.inl i1)] [] I J := ex_eq (Nat.le_of_ble_eq_true rfl) rfl (Nat.le_of_ble_eq_true rfl) rfl
set_option maxRecDepth 10000 in
theorem g_100_0 : GO x d 100 Q 0 [some (.inr (.inr w)), v1] st I J = GO x d 100 Q 1 [some (.inr (.inr w)), v1] (.inr (.inr w) :: st) I J := ge (A := (2, 1, 0, 0, 0)) rfl
set_option maxRecDepth 10000 in
theorem g_100_1 : GO x d 100 Q 1 [v0, v1] (.inr (.inr (.inl r)) :: st) I J = (okF r 9 9 ∧ GO x d 100 Q 4 [v0, v1] (.inr (.inr (.inl (rfN r 9))) :: st) I J) := (ge (A := (39, 4, 9, 9, 0)) rfl).trans (gref (f := fun q => GO x d 100 Q 4 [v0, v1] (.inr (.inr (.inl q)) :: st) I J))
set_option maxRecDepth 10000 in
theorem g_100_4 : GO x d 100 Q 4 [v0, some (.inl a)] st I J = GO x d 100 Q 5 [v0, some (.inl a)] (.inl a :: st) I J := ge (A := (1, 5, 1, 0, 0)) rfl
set_option maxRecDepth 10000 in
theorem g_100_5 : GO x d 100 Q 5 [v0, v1] [.inl i0, .inr (.inr (.inl r))] I J = (okO r 2 ∧ EX x d 7 [.inr (.inr (.inl r)), .inl i0] I J (fun r1 I1 J1 => GO x d 100 Q 8 [v0, v1] (r1.toList ++ []) I1 J1)) := (ge (A := (53, 8, 7, 1, 0)) rfl).trans (gtrue (Nat.le_of_ble_eq_true rfl))
set_option maxRecDepth 10000 in
theorem g_100_8 : GO x d 100 Q 8 [v0, v1] [.inl a] I J = Q (some (.inl a)) I J := ge (A := (55, 9, 0, 0, 0)) rfl
set_option maxRecDepth 10000 in
theorem e_100 : EX x (d + 1) 100 [.inr (.inr w0), .inl i0] I J Q = GO x d 100 Q 0 [some (.inr (.inr w0)), some (.inl i0)] [] I J := ex_eq (Nat.le_of_ble_eq_true rfl) rfl (Nat.le_of_ble_eq_true rfl) rfl
set_option maxRecDepth 10000 in
theorem g_101_0 : GO x d 101 Q 0 [v0, some (.inl a)] st I J = GO x d 101 Q 1 [v0, some (.inl a)] (.inl a :: st) I J := ge (A := (1, 1, 1, 0, 0)) rfl
set_option maxRecDepth 10000 in
theorem g_101_1 : GO x d 101 Q 1 [v0, v1] (.inl a :: st) I J = (inR a ∧ if a = 0 then GO x d 101 Q 52 [v0, v1] st I J else if a = 1 then GO x d 101 Q 57 [v0, v1] st I J else if a = 2 then GO x d 101 Q 65 [v0, v1] st I J else if a = 3 then GO x d 101 Q 73 [v0, v1] st I J else if a = 4 then GO x d 101 Q 81 [v0, v1] st I J else if a = 5 then GO x d 101 Q 89 [v0, v1] st I J else if a = 6 then GO x d 101 Q 97 [v0, v1] st I J else if a = 7 then GO x d 101 Q 108 [v0, v1] st I J else if a = 8 then GO x d 101 Q 116 [v0, v1] st I J else GO x d 101 Q 124 [v0, v1] st I J) := (ge (A := (36, 52, 4, 0, 0)) rfl).trans (congrArg (And _) (propext (tswF_of (f := fun t => GO x d 101 Q t [v0, v1] st I J) [52, 57, 65, 73, 81, 89, 97, 108, 116] 0)))
set_option maxRecDepth 10000 in
theorem g_101_52 : GO x d 101 Q 52 [some (.inr (.inr w)), v1] st I J = GO x d 101 Q 53 [some (.inr (.inr w)), v1] (.inr (.inr w) :: st) I J := ge (A := (2, 53, 0, 0, 0)) rfl
set_option maxRecDepth 10000 in
theorem g_101_53 : GO x d 101 Q 53 [v0, v1] [.inr (.inr (.inl r))] I J = (okO r 9 ∧ EX x d 103 [.inr (.inr (.inl r))] I J (fun r1 I1 J1 => GO x d 101 Q 56 [v0, v1] (r1.toList ++ []) I1 J1)) := (ge (A := (53, 56, 103, 0, 0)) rfl).trans (gtrue (Nat.le_of_ble_eq_true rfl))
set_option maxRecDepth 10000 in
theorem g_101_56 : GO x d 101 Q 56 [v0, v1] [.inl a] I J = Q (some (.inl a)) I J := ge (A := (55, 57, 0, 0, 0)) rfl
set_option maxRecDepth 10000 in
theorem g_101_57 : GO x d 101 Q 57 [some (.inr (.inr w)), v1] st I J = GO x d 101 Q 58 [some (.inr (.inr w)), v1] (.inr (.inr w) :: st) I J := ge (A := (2, 58, 0, 0, 0)) rfl
set_option maxRecDepth 10000 in
theorem g_101_58 : GO x d 101 Q 58 [v0, v1] (.inr (.inr (.inl r)) :: st) I J = (okF r 9 1 ∧ GO x d 101 Q 61 [v0, v1] (.inr (.inr (.inl (rfN r 1))) :: st) I J) := (ge (A := (39, 61, 9, 1, 0)) rfl).trans (gref (f := fun q => GO x d 101 Q 61 [v0, v1] (.inr (.inr (.inl q)) :: st) I J))
set_option maxRecDepth 10000 in
theorem g_101_61 : GO x d 101 Q 61 [v0, v1] (.inr (.inr (.inl r)) :: st) I J = (okO r 3 ∧ GO x d 101 Q 64 [v0, v1] (.inl (I r 3) :: st) I J) := ge (A := (37, 64, 3, 3, 0)) rfl
set_option maxRecDepth 10000 in
theorem g_101_64 : GO x d 101 Q 64 [v0, v1] [.inl a] I J = Q (some (.inl a)) I J := ge (A := (55, 65, 0, 0, 0)) rfl
set_option maxRecDepth 10000 in
theorem g_101_65 : GO x d 101 Q 65 [some (.inr (.inr w)), v1] st I J = GO x d 101 Q 66 [some (.inr (.inr w)), v1] (.inr (.inr w) :: st) I J := ge (A := (2, 66, 0, 0, 0)) rfl
set_option maxRecDepth 10000 in
theorem g_101_66 : GO x d 101 Q 66 [v0, v1] (.inr (.inr (.inl r)) :: st) I J = (okF r 9 1 ∧ GO x d 101 Q 69 [v0, v1] (.inr (.inr (.inl (rfN r 1))) :: st) I J) := (ge (A := (39, 69, 9, 1, 0)) rfl).trans (gref (f := fun q => GO x d 101 Q 69 [v0, v1] (.inr (.inr (.inl q)) :: st) I J))
set_option maxRecDepth 10000 in
theorem g_101_69 : GO x d 101 Q 69 [v0, v1] (.inr (.inr (.inl r)) :: st) I J = (okO r 3 ∧ GO x d 101 Q 72 [v0, v1] (.inl (I r 8) :: st) I J) := ge (A := (37, 72, 3, 8, 0)) rfl
set_option maxRecDepth 10000 in
theorem g_101_72 : GO x d 101 Q 72 [v0, v1] [.inl a] I J = Q (some (.inl a)) I J := ge (A := (55, 73, 0, 0, 0)) rfl
set_option maxRecDepth 10000 in
theorem g_101_73 : GO x d 101 Q 73 [some (.inr (.inr w)), v1] st I J = GO x d 101 Q 74 [some (.inr (.inr w)), v1] (.inr (.inr w) :: st) I J := ge (A := (2, 74, 0, 0, 0)) rfl
set_option maxRecDepth 10000 in
theorem g_101_74 : GO x d 101 Q 74 [v0, v1] (.inr (.inr (.inl r)) :: st) I J = (okF r 9 1 ∧ GO x d 101 Q 77 [v0, v1] (.inr (.inr (.inl (rfN r 1))) :: st) I J) := (ge (A := (39, 77, 9, 1, 0)) rfl).trans (gref (f := fun q => GO x d 101 Q 77 [v0, v1] (.inr (.inr (.inl q)) :: st) I J))
set_option maxRecDepth 10000 in
theorem g_101_77 : GO x d 101 Q 77 [v0, v1] (.inr (.inr (.inl r)) :: st) I J = (okO r 3 ∧ GO x d 101 Q 80 [v0, v1] (.inl (I r 11) :: st) I J) := ge (A := (37, 80, 3, 11, 0)) rfl
set_option maxRecDepth 10000 in
theorem g_101_80 : GO x d 101 Q 80 [v0, v1] [.inl a] I J = Q (some (.inl a)) I J := ge (A := (55, 81, 0, 0, 0)) rfl
set_option maxRecDepth 10000 in
theorem g_101_81 : GO x d 101 Q 81 [some (.inr (.inr w)), v1] st I J = GO x d 101 Q 82 [some (.inr (.inr w)), v1] (.inr (.inr w) :: st) I J := ge (A := (2, 82, 0, 0, 0)) rfl
set_option maxRecDepth 10000 in
theorem g_101_82 : GO x d 101 Q 82 [v0, v1] (.inr (.inr (.inl r)) :: st) I J = (okF r 9 1 ∧ GO x d 101 Q 85 [v0, v1] (.inr (.inr (.inl (rfN r 1))) :: st) I J) := (ge (A := (39, 85, 9, 1, 0)) rfl).trans (gref (f := fun q => GO x d 101 Q 85 [v0, v1] (.inr (.inr (.inl q)) :: st) I J))
set_option maxRecDepth 10000 in
theorem g_101_85 : GO x d 101 Q 85 [v0, v1] (.inr (.inr (.inl r)) :: st) I J = (okO r 3 ∧ GO x d 101 Q 88 [v0, v1] (.inl (I r 12) :: st) I J) := ge (A := (37, 88, 3, 12, 0)) rfl
set_option maxRecDepth 10000 in
theorem g_101_88 : GO x d 101 Q 88 [v0, v1] [.inl a] I J = Q (some (.inl a)) I J := ge (A := (55, 89, 0, 0, 0)) rfl
set_option maxRecDepth 10000 in
theorem g_101_89 : GO x d 101 Q 89 [some (.inr (.inr w)), v1] st I J = GO x d 101 Q 90 [some (.inr (.inr w)), v1] (.inr (.inr w) :: st) I J := ge (A := (2, 90, 0, 0, 0)) rfl
set_option maxRecDepth 10000 in
theorem g_101_90 : GO x d 101 Q 90 [v0, v1] (.inr (.inr (.inl r)) :: st) I J = (okF r 9 1 ∧ GO x d 101 Q 93 [v0, v1] (.inr (.inr (.inl (rfN r 1))) :: st) I J) := (ge (A := (39, 93, 9, 1, 0)) rfl).trans (gref (f := fun q => GO x d 101 Q 93 [v0, v1] (.inr (.inr (.inl q)) :: st) I J))
set_option maxRecDepth 10000 in
theorem g_101_93 : GO x d 101 Q 93 [v0, v1] (.inr (.inr (.inl r)) :: st) I J = (okO r 3 ∧ GO x d 101 Q 96 [v0, v1] (.inl (I r 13) :: st) I J) := ge (A := (37, 96, 3, 13, 0)) rfl
set_option maxRecDepth 10000 in
theorem g_101_96 : GO x d 101 Q 96 [v0, v1] [.inl a] I J = Q (some (.inl a)) I J := ge (A := (55, 97, 0, 0, 0)) rfl
set_option maxRecDepth 10000 in
theorem g_101_97 : GO x d 101 Q 97 [some (.inr (.inr w)), v1] st I J = GO x d 101 Q 98 [some (.inr (.inr w)), v1] (.inr (.inr w) :: st) I J := ge (A := (2, 98, 0, 0, 0)) rfl
set_option maxRecDepth 10000 in
theorem g_101_98 : GO x d 101 Q 98 [v0, v1] (.inr (.inr (.inl r)) :: st) I J = (okF r 9 1 ∧ GO x d 101 Q 101 [v0, v1] (.inr (.inr (.inl (rfN r 1))) :: st) I J) := (ge (A := (39, 101, 9, 1, 0)) rfl).trans (gref (f := fun q => GO x d 101 Q 101 [v0, v1] (.inr (.inr (.inl q)) :: st) I J))
set_option maxRecDepth 10000 in
theorem g_101_101 : GO x d 101 Q 101 [v0, v1] [.inr (.inr (.inl r))] I J = (okO r 3 ∧ EX x d 19 [.inr (.inr (.inl r))] I J (fun r1 I1 J1 => GO x d 101 Q 104 [v0, v1] (r1.toList ++ []) I1 J1)) := (ge (A := (53, 104, 19, 0, 0)) rfl).trans (gtrue (Nat.le_of_ble_eq_true rfl))
set_option maxRecDepth 10000 in
theorem g_101_104 : GO x d 101 Q 104 [v0, v1] [.inl i0] I J = EX x d 182 [.inl i0] I J (fun r1 I1 J1 => GO x d 101 Q 107 [v0, v1] (r1.toList ++ []) I1 J1) := (ge (A := (52, 107, 182, 1, 0)) rfl).trans (gtrue2 (Nat.le_of_ble_eq_true rfl) (Nat.le_of_ble_eq_true rfl))
set_option maxRecDepth 10000 in
theorem g_101_107 : GO x d 101 Q 107 [v0, v1] [.inl a] I J = Q (some (.inl a)) I J := ge (A := (55, 108, 0, 0, 0)) rfl
set_option maxRecDepth 10000 in
theorem g_101_108 : GO x d 101 Q 108 [some (.inr (.inr w)), v1] st I J = GO x d 101 Q 109 [some (.inr (.inr w)), v1] (.inr (.inr w) :: st) I J := ge (A := (2, 109, 0, 0, 0)) rfl
set_option maxRecDepth 10000 in
theorem g_101_109 : GO x d 101 Q 109 [v0, v1] (.inr (.inr (.inl r)) :: st) I J = (okF r 9 5 ∧ GO x d 101 Q 112 [v0, v1] (.inr (.inr (.inl (rfN r 5))) :: st) I J) := (ge (A := (39, 112, 9, 5, 0)) rfl).trans (gref (f := fun q => GO x d 101 Q 112 [v0, v1] (.inr (.inr (.inl q)) :: st) I J))
set_option maxRecDepth 10000 in
theorem g_101_112 : GO x d 101 Q 112 [v0, v1] (.inr (.inr (.inl r)) :: st) I J = (okO r 1 ∧ GO x d 101 Q 115 [v0, v1] (.inl (I r 2) :: st) I J) := ge (A := (37, 115, 1, 2, 0)) rfl
set_option maxRecDepth 10000 in
theorem g_101_115 : GO x d 101 Q 115 [v0, v1] [.inl a] I J = Q (some (.inl a)) I J := ge (A := (55, 116, 0, 0, 0)) rfl
set_option maxRecDepth 10000 in
theorem g_101_116 : GO x d 101 Q 116 [some (.inr (.inr w)), v1] st I J = GO x d 101 Q 117 [some (.inr (.inr w)), v1] (.inr (.inr w) :: st) I J := ge (A := (2, 117, 0, 0, 0)) rfl
set_option maxRecDepth 10000 in
theorem g_101_117 : GO x d 101 Q 117 [v0, v1] (.inr (.inr (.inl r)) :: st) I J = (okF r 9 4 ∧ GO x d 101 Q 120 [v0, v1] (.inr (.inr (.inl (rfN r 4))) :: st) I J) := (ge (A := (39, 120, 9, 4, 0)) rfl).trans (gref (f := fun q => GO x d 101 Q 120 [v0, v1] (.inr (.inr (.inl q)) :: st) I J))
set_option maxRecDepth 10000 in
theorem g_101_120 : GO x d 101 Q 120 [v0, v1] (.inr (.inr (.inl r)) :: st) I J = (okO r 7 ∧ GO x d 101 Q 123 [v0, v1] (.inl (I r 3) :: st) I J) := ge (A := (37, 123, 7, 3, 0)) rfl
set_option maxRecDepth 10000 in
theorem g_101_123 : GO x d 101 Q 123 [v0, v1] [.inl a] I J = Q (some (.inl a)) I J := ge (A := (55, 124, 0, 0, 0)) rfl
set_option maxRecDepth 10000 in
theorem g_101_124 : GO x d 101 Q 124 [v0, v1] st I J = GO x d 101 Q 126 [v0, v1] (.inl (-1000001) :: st) I J := ge (A := (0, 126, 0, 0, -1000001)) rfl
set_option maxRecDepth 10000 in
theorem g_101_126 : GO x d 101 Q 126 [v0, v1] [.inl a] I J = Q (some (.inl a)) I J := ge (A := (55, 127, 0, 0, 0)) rfl
set_option maxRecDepth 10000 in
theorem e_101 : EX x (d + 1) 101 [.inr (.inr w0), .inl i0] I J Q = GO x d 101 Q 0 [some (.inr (.inr w0)), some (.inl i0)] [] I J := ex_eq (Nat.le_of_ble_eq_true rfl) rfl (Nat.le_of_ble_eq_true rfl) rfl
set_option maxRecDepth 10000 in
theorem g_102_0 : GO x d 102 Q 0 [some (.inr (.inr w))] st I J = GO x d 102 Q 1 [some (.inr (.inr w))] (.inr (.inr w) :: st) I J := ge (A := (2, 1, 0, 0, 0)) rfl
set_option maxRecDepth 10000 in
theorem g_102_1 : GO x d 102 Q 1 [v0] (.inr (.inr (.inl r)) :: st) I J = (okO r 9 ∧ GO x d 102 Q 4 [v0] (.inl (I r 10) :: st) I J) := ge (A := (37, 4, 9, 10, 0)) rfl
set_option maxRecDepth 10000 in
theorem g_102_4 : GO x d 102 Q 4 [v0] [.inl a] I J = Q (some (.inl a)) I J := ge (A := (55, 5, 0, 0, 0)) rfl
set_option maxRecDepth 10000 in
theorem e_102 : EX x (d + 1) 102 [.inr (.inr w0)] I J Q = GO x d 102 Q 0 [some (.inr (.inr w0))] [] I J := ex_eq (Nat.le_of_ble_eq_true rfl) rfl (Nat.le_of_ble_eq_true rfl) rfl
set_option maxRecDepth 10000 in
theorem g_103_0 : GO x d 103 Q 0 [v0, v1, v2] st I J = GO x d 103 Q 1 [v0, v1, v2] (.inl (0) :: st) I J := ge (A := (0, 1, 0, 0, 0)) rfl
set_option maxRecDepth 10000 in
theorem g_103_1 : GO x d 103 Q 1 [v0, v1, v2] (.inl a :: st) I J = (nlO (some v0) = true ∧ GO x d 103 Q 2 [v0, some (.inl a), v2] st I J) := (ge (A := (4, 2, 1, 0, 0)) rfl).trans (gst (Nat.le_of_ble_eq_true rfl) _)
set_option maxRecDepth 10000 in
theorem g_103_2 : GO x d 103 Q 2 [v0, v1, v2] st I J = GO x d 103 Q 3 [v0, v1, v2] (.inl (0) :: st) I J := ge (A := (0, 3, 0, 0, 0)) rfl
set_option maxRecDepth 10000 in
theorem g_103_3 : GO x d 103 Q 3 [v0, v1, v2] (.inl a :: st) I J = (nlO (some v1) = true ∧ GO x d 103 Q 4 [v0, v1, some (.inl a)] st I J) := (ge (A := (4, 4, 2, 0, 0)) rfl).trans (gst (Nat.le_of_ble_eq_true rfl) _)
set_option maxRecDepth 10000 in
theorem g_103_4 : GO x d 103 Q 4 [v0, v1, some (.inl a)] st I J = GO x d 103 Q 5 [v0, v1, some (.inl a)] (.inl a :: st) I J := ge (A := (1, 5, 2, 0, 0)) rfl
set_option maxRecDepth 10000 in
theorem g_103_5 : GO x d 103 Q 5 [v0, v1, v2] st I J = GO x d 103 Q 7 [v0, v1, v2] (.inl (8) :: st) I J := ge (A := (0, 7, 0, 0, 8)) rfl
set_option maxRecDepth 10000 in
theorem g_103_7 : GO x d 103 Q 7 [v0, v1, v2] (.inl b :: .inl a :: st) I J = (inR a ∧ inR b ∧ if a < b then GO x d 103 Q 10 [v0, v1, v2] st I J else GO x d 103 Q 31 [v0, v1, v2] st I J) := (ge (A := (34, 10, 31, 3, 0)) rfl).trans (ggec)
set_option maxRecDepth 10000 in
theorem g_103_10 : GO x d 103 Q 10 [some (.inr (.inr w)), v1, v2] st I J = GO x d 103 Q 11 [some (.inr (.inr w)), v1, v2] (.inr (.inr w) :: st) I J := ge (A := (2, 11, 0, 0, 0)) rfl
set_option maxRecDepth 10000 in
theorem g_103_11 : GO x d 103 Q 11 [v0, v1, v2] (.inr (.inr (.inl r)) :: st) I J = (okF r 9 0 ∧ GO x d 103 Q 14 [v0, v1, v2] (.inr (.inr (.inl (rfN r 0))) :: st) I J) := (ge (A := (39, 14, 9, 0, 0)) rfl).trans (gref (f := fun q => GO x d 103 Q 14 [v0, v1, v2] (.inr (.inr (.inl q)) :: st) I J))
set_option maxRecDepth 10000 in
theorem g_103_14 : GO x d 103 Q 14 [v0, v1, some (.inl a)] st I J = GO x d 103 Q 15 [v0, v1, some (.inl a)] (.inl a :: st) I J := ge (A := (1, 15, 2, 0, 0)) rfl
set_option maxRecDepth 10000 in
theorem g_103_15 : GO x d 103 Q 15 [v0, v1, v2] (.inl a :: .inr (.inr (.inl r)) :: st) I J = ((23 ≤ clS S0 r ∧ clS S0 r ≤ 25 ∧ (elS S0 r a.toNat).isSome = true) ∧ 0 ≤ a ∧ a < lnN r ∧ GO x d 103 Q 16 [v0, v1, v2] (.inr (.inr (.inl (elN r a))) :: st) I J) := (ge (A := (50, 16, 0, 0, 0)) rfl).trans (gel2 (f := fun q => GO x d 103 Q 16 [v0, v1, v2] (.inr (.inr (.inl q)) :: st) I J))
set_option maxRecDepth 10000 in
theorem g_103_16 : GO x d 103 Q 16 [v0, v1, v2] (.inr (.inr (.inl r)) :: st) I J = (okO r 5 ∧ GO x d 103 Q 19 [v0, v1, v2] (.inl (I r 1) :: st) I J) := ge (A := (37, 19, 5, 1, 0)) rfl
set_option maxRecDepth 10000 in
theorem g_103_19 : GO x d 103 Q 19 [v0, v1, v2] (.inl a :: st) I J = (inR a ∧ if a = 0 then GO x d 103 Q 25 [v0, v1, v2] st I J else GO x d 103 Q 22 [v0, v1, v2] st I J) := (ge (A := (33, 22, 25, 0, 0)) rfl).trans (gif (p := a = 0) inferInstance)
set_option maxRecDepth 10000 in
theorem g_103_22 : GO x d 103 Q 22 [v0, some (.inl a), v2] st I J = (nlO (some v0) = true ∧ GO x d 103 Q 25 [v0, some (.inl (a + (1))), v2] st I J) := ge (A := (7, 25, 1, 0, 1)) rfl
set_option maxRecDepth 10000 in
theorem g_103_25 : GO x d 103 Q 25 [v0, v1, some (.inl a)] st I J = (nlO (some v1) = true ∧ GO x d 103 Q 28 [v0, v1, some (.inl (a + (1)))] st I J) := ge (A := (7, 28, 2, 0, 1)) rfl
set_option maxRecDepth 10000 in
theorem g_103_28 : GO x d 103 Q 28 [v0, v1, v2] st I J = GO x d 103 Q 4 [v0, v1, v2] st I J := ge (A := (35, 31, 4, 0, 0)) rfl
set_option maxRecDepth 10000 in
theorem g_103_31 : GO x d 103 Q 31 [v0, some (.inl a), v2] st I J = GO x d 103 Q 32 [v0, some (.inl a), v2] (.inl a :: st) I J := ge (A := (1, 32, 1, 0, 0)) rfl
set_option maxRecDepth 10000 in
theorem g_103_32 : GO x d 103 Q 32 [v0, v1, v2] [.inl a] I J = Q (some (.inl a)) I J := ge (A := (55, 33, 0, 0, 0)) rfl
set_option maxRecDepth 10000 in
theorem e_103 : EX x (d + 1) 103 [.inr (.inr w0)] I J Q = GO x d 103 Q 0 [some (.inr (.inr w0)), none, none] [] I J := ex_eq (Nat.le_of_ble_eq_true rfl) rfl (Nat.le_of_ble_eq_true rfl) rfl
set_option maxRecDepth 10000 in
theorem g_104_0 : GO x d 104 Q 0 [v0, v1] st I J = GO x d 104 Q 1 [v0, v1] (.inl (0) :: st) I J := ge (A := (0, 1, 0, 0, 0)) rfl
set_option maxRecDepth 10000 in
theorem g_104_1 : GO x d 104 Q 1 [v0, v1] (.inl a :: st) I J = (nlO (some v0) = true ∧ GO x d 104 Q 2 [v0, some (.inl a)] st I J) := (ge (A := (4, 2, 1, 0, 0)) rfl).trans (gst (Nat.le_of_ble_eq_true rfl) _)
set_option maxRecDepth 10000 in
theorem g_104_2 : GO x d 104 Q 2 [v0, some (.inl a)] st I J = GO x d 104 Q 3 [v0, some (.inl a)] (.inl a :: st) I J := ge (A := (1, 3, 1, 0, 0)) rfl
set_option maxRecDepth 10000 in
theorem g_104_3 : GO x d 104 Q 3 [v0, v1] st I J = GO x d 104 Q 5 [v0, v1] (.inl (32) :: st) I J := ge (A := (0, 5, 0, 0, 32)) rfl
set_option maxRecDepth 10000 in
theorem g_104_5 : GO x d 104 Q 5 [v0, v1] (.inl b :: .inl a :: st) I J = (inR a ∧ inR b ∧ if a < b then GO x d 104 Q 8 [v0, v1] st I J else GO x d 104 Q 24 [v0, v1] st I J) := (ge (A := (34, 8, 24, 3, 0)) rfl).trans (ggec)
set_option maxRecDepth 10000 in
theorem g_104_8 : GO x d 104 Q 8 [some (.inl a), v1] st I J = GO x d 104 Q 9 [some (.inl a), v1] (.inl a :: st) I J := ge (A := (1, 9, 0, 0, 0)) rfl
set_option maxRecDepth 10000 in
theorem g_104_9 : GO x d 104 Q 9 [v0, some (.inl a)] st I J = GO x d 104 Q 10 [v0, some (.inl a)] (.inl a :: st) I J := ge (A := (1, 10, 1, 0, 0)) rfl
set_option maxRecDepth 10000 in
theorem g_104_10 : GO x d 104 Q 10 [v0, v1] [.inl i0, .inl i1] I J = EX x d 105 [.inl i1, .inl i0] I J (fun r1 I1 J1 => GO x d 104 Q 13 [v0, v1] (r1.toList ++ []) I1 J1) := (ge (A := (52, 13, 105, 2, 0)) rfl).trans (gtrue2 (Nat.le_of_ble_eq_true rfl) (Nat.le_of_ble_eq_true rfl))
set_option maxRecDepth 10000 in
theorem g_104_13 : GO x d 104 Q 13 [v0, v1] (.inl a :: st) I J = (inR a ∧ if a = 0 then GO x d 104 Q 18 [v0, v1] st I J else GO x d 104 Q 16 [v0, v1] st I J) := (ge (A := (33, 16, 18, 0, 0)) rfl).trans (gif (p := a = 0) inferInstance)
set_option maxRecDepth 10000 in
theorem g_104_16 : GO x d 104 Q 16 [v0, some (.inl a)] st I J = GO x d 104 Q 17 [v0, some (.inl a)] (.inl a :: st) I J := ge (A := (1, 17, 1, 0, 0)) rfl
set_option maxRecDepth 10000 in
theorem g_104_17 : GO x d 104 Q 17 [v0, v1] [.inl a] I J = Q (some (.inl a)) I J := ge (A := (55, 18, 0, 0, 0)) rfl
set_option maxRecDepth 10000 in
theorem g_104_18 : GO x d 104 Q 18 [v0, some (.inl a)] st I J = (nlO (some v0) = true ∧ GO x d 104 Q 21 [v0, some (.inl (a + (1)))] st I J) := ge (A := (7, 21, 1, 0, 1)) rfl
set_option maxRecDepth 10000 in
theorem g_104_21 : GO x d 104 Q 21 [v0, v1] st I J = GO x d 104 Q 2 [v0, v1] st I J := ge (A := (35, 24, 2, 0, 0)) rfl
set_option maxRecDepth 10000 in
theorem g_104_24 : GO x d 104 Q 24 [v0, v1] st I J = GO x d 104 Q 26 [v0, v1] (.inl (-1000000) :: st) I J := ge (A := (0, 26, 0, 0, -1000000)) rfl
set_option maxRecDepth 10000 in
theorem g_104_26 : GO x d 104 Q 26 [v0, v1] [.inl a] I J = Q (some (.inl a)) I J := ge (A := (55, 27, 0, 0, 0)) rfl
set_option maxRecDepth 10000 in
theorem e_104 : EX x (d + 1) 104 [.inl i0] I J Q = GO x d 104 Q 0 [some (.inl i0), none] [] I J := ex_eq (Nat.le_of_ble_eq_true rfl) rfl (Nat.le_of_ble_eq_true rfl) rfl
set_option maxRecDepth 10000 in
theorem g_105_0 : GO x d 105 Q 0 [some (.inl a), v1] st I J = GO x d 105 Q 1 [some (.inl a), v1] (.inl a :: st) I J := ge (A := (1, 1, 0, 0, 0)) rfl
set_option maxRecDepth 10000 in
theorem g_105_1 : GO x d 105 Q 1 [v0, some (.inl a)] st I J = GO x d 105 Q 2 [v0, some (.inl a)] (.inl a :: st) I J := ge (A := (1, 2, 1, 0, 0)) rfl
set_option maxRecDepth 10000 in
theorem g_105_2 : GO x d 105 Q 2 [v0, v1] (.inl b :: .inl a :: st) I J = GO x d 105 Q 3 [v0, v1] (.inl (ushrI a b) :: st) I J := ge (A := (16, 3, 0, 0, 0)) rfl
set_option maxRecDepth 10000 in
theorem g_105_3 : GO x d 105 Q 3 [v0, v1] st I J = GO x d 105 Q 4 [v0, v1] (.inl (1) :: st) I J := ge (A := (0, 4, 0, 0, 1)) rfl
set_option maxRecDepth 10000 in
theorem g_105_4 : GO x d 105 Q 4 [v0, v1] (.inl b :: .inl a :: st) I J = GO x d 105 Q 5 [v0, v1] (.inl (andI a b) :: st) I J := ge (A := (11, 5, 0, 0, 0)) rfl
set_option maxRecDepth 10000 in
theorem g_105_5 : GO x d 105 Q 5 [v0, v1] st I J = GO x d 105 Q 6 [v0, v1] (.inl (1) :: st) I J := ge (A := (0, 6, 0, 0, 1)) rfl
set_option maxRecDepth 10000 in
theorem g_105_6 : GO x d 105 Q 6 [v0, v1] (.inl b :: .inl a :: st) I J = (inR a ∧ inR b ∧ if a = b then GO x d 105 Q 9 [v0, v1] st I J else GO x d 105 Q 13 [v0, v1] st I J) := (ge (A := (34, 9, 13, 1, 0)) rfl).trans (gicn (p := a = b) inferInstance)
set_option maxRecDepth 10000 in
theorem g_105_9 : GO x d 105 Q 9 [v0, v1] st I J = GO x d 105 Q 10 [v0, v1] (.inl (1) :: st) I J := ge (A := (0, 10, 0, 0, 1)) rfl
set_option maxRecDepth 10000 in
theorem g_105_10 : GO x d 105 Q 10 [v0, v1] st I J = GO x d 105 Q 14 [v0, v1] st I J := ge (A := (35, 13, 14, 0, 0)) rfl
set_option maxRecDepth 10000 in
theorem g_105_13 : GO x d 105 Q 13 [v0, v1] st I J = GO x d 105 Q 14 [v0, v1] (.inl (0) :: st) I J := ge (A := (0, 14, 0, 0, 0)) rfl
set_option maxRecDepth 10000 in
theorem g_105_14 : GO x d 105 Q 14 [v0, v1] [.inl a] I J = (ret01 a ∧ Q (some (.inl a)) I J) := ge (A := (56, 15, 0, 0, 0)) rfl
set_option maxRecDepth 10000 in
theorem e_105 : EX x (d + 1) 105 [.inl i0, .inl i1] I J Q = GO x d 105 Q 0 [some (.inl i0), some (.inl i1)] [] I J := ex_eq (Nat.le_of_ble_eq_true rfl) rfl (Nat.le_of_ble_eq_true rfl) rfl
set_option maxRecDepth 10000 in
theorem g_106_0 : GO x d 106 Q 0 [some (.inl a)] st I J = GO x d 106 Q 1 [some (.inl a)] (.inl a :: st) I J := ge (A := (1, 1, 0, 0, 0)) rfl
set_option maxRecDepth 10000 in
theorem g_106_1 : GO x d 106 Q 1 [v0] (.inl a :: st) I J = (inR a ∧ if a < 0 then GO x d 106 Q 10 [v0] st I J else GO x d 106 Q 4 [v0] st I J) := (ge (A := (33, 4, 10, 2, 0)) rfl).trans (gif (p := a < 0) inferInstance)
set_option maxRecDepth 10000 in
theorem g_106_4 : GO x d 106 Q 4 [some (.inl a)] st I J = GO x d 106 Q 5 [some (.inl a)] (.inl a :: st) I J := ge (A := (1, 5, 0, 0, 0)) rfl
set_option maxRecDepth 10000 in
theorem g_106_5 : GO x d 106 Q 5 [v0] st I J = GO x d 106 Q 7 [v0] (.inl (6) :: st) I J := ge (A := (0, 7, 0, 0, 6)) rfl
set_option maxRecDepth 10000 in
theorem g_106_7 : GO x d 106 Q 7 [v0] (.inl b :: .inl a :: st) I J = (inR a ∧ inR b ∧ if a < b then GO x d 106 Q 14 [v0] st I J else GO x d 106 Q 10 [v0] st I J) := (ge (A := (34, 10, 14, 2, 0)) rfl).trans (gic (p := a < b) inferInstance)
set_option maxRecDepth 10000 in
theorem g_106_10 : GO x d 106 Q 10 [v0] st I J = GO x d 106 Q 11 [v0] (.inl (-1) :: st) I J := ge (A := (0, 11, 0, 0, -1)) rfl
set_option maxRecDepth 10000 in
theorem g_106_11 : GO x d 106 Q 11 [v0] st I J = GO x d 106 Q 19 [v0] st I J := ge (A := (35, 14, 19, 0, 0)) rfl
set_option maxRecDepth 10000 in
theorem g_106_14 : GO x d 106 Q 14 [v0] st I J = GO x d 106 Q 17 [v0] (.inr (.inr (.inr 1)) :: st) I J := ge (A := (43, 17, 1, 0, 0)) rfl
set_option maxRecDepth 10000 in
theorem g_106_17 : GO x d 106 Q 17 [some (.inl a)] st I J = GO x d 106 Q 18 [some (.inl a)] (.inl a :: st) I J := ge (A := (1, 18, 0, 0, 0)) rfl
set_option maxRecDepth 10000 in
theorem h_106_18 : GO x d 106 Q 18 [v0] (.inl a :: .inr (.inr (.inr q)) :: st) I J = (q < 4 ∧ 0 ≤ a ∧ a < (roA x q).1 ∧ GO x d 106 Q 19 [v0] (.inl ((roA x q).2 a.toNat) :: st) I J) := ge (A := (44, 19, 0, 0, 0)) rfl
set_option maxRecDepth 10000 in
theorem g_106_18 : GO x d 106 Q 18 [v0] (.inl a :: .inr (.inr (.inl r)) :: st) I J = (okA r 20 ∧ 0 ≤ a ∧ a < lnN r ∧ GO x d 106 Q 19 [v0] (.inl (I r a) :: st) I J) := ge (A := (44, 19, 0, 0, 0)) rfl
set_option maxRecDepth 10000 in
theorem g_106_19 : GO x d 106 Q 19 [v0] [.inl a] I J = Q (some (.inl a)) I J := ge (A := (55, 20, 0, 0, 0)) rfl
set_option maxRecDepth 10000 in
theorem e_106 : EX x (d + 1) 106 [.inl i0] I J Q = GO x d 106 Q 0 [some (.inl i0)] [] I J := ex_eq (Nat.le_of_ble_eq_true rfl) rfl (Nat.le_of_ble_eq_true rfl) rfl
set_option maxRecDepth 10000 in
theorem g_107_0 : GO x d 107 Q 0 [some (.inl a), v1, v2, v3] st I J = GO x d 107 Q 1 [some (.inl a), v1, v2, v3] (.inl a :: st) I J := ge (A := (1, 1, 0, 0, 0)) rfl
set_option maxRecDepth 10000 in
theorem g_107_1 : GO x d 107 Q 1 [v0, v1, v2, v3] (.inl a :: st) I J = (nlO (some v1) = true ∧ GO x d 107 Q 2 [v0, v1, some (.inl a), v3] st I J) := (ge (A := (4, 2, 2, 0, 0)) rfl).trans (gst (Nat.le_of_ble_eq_true rfl) _)
set_option maxRecDepth 10000 in
theorem g_107_2 : GO x d 107 Q 2 [v0, v1, v2, v3] st I J = GO x d 107 Q 3 [v0, v1, v2, v3] (.inl (0) :: st) I J := ge (A := (0, 3, 0, 0, 0)) rfl
set_option maxRecDepth 10000 in
theorem g_107_3 : GO x d 107 Q 3 [v0, v1, v2, v3] (.inl a :: st) I J = (nlO (some v2) = true ∧ GO x d 107 Q 4 [v0, v1, v2, some (.inl a)] st I J) := (ge (A := (4, 4, 3, 0, 0)) rfl).trans (gst (Nat.le_of_ble_eq_true rfl) _)
set_option maxRecDepth 10000 in
theorem g_107_4 : GO x d 107 Q 4 [v0, v1, v2, some (.inl a)] st I J = GO x d 107 Q 5 [v0, v1, v2, some (.inl a)] (.inl a :: st) I J := ge (A := (1, 5, 3, 0, 0)) rfl
set_option maxRecDepth 10000 in
theorem g_107_5 : GO x d 107 Q 5 [v0, v1, v2, v3] st I J = GO x d 107 Q 7 [v0, v1, v2, v3] (.inl (6) :: st) I J := ge (A := (0, 7, 0, 0, 6)) rfl
set_option maxRecDepth 10000 in
theorem g_107_7 : GO x d 107 Q 7 [v0, v1, v2, v3] (.inl b :: .inl a :: st) I J = (inR a ∧ inR b ∧ if a < b then GO x d 107 Q 10 [v0, v1, v2, v3] st I J else GO x d 107 Q 32 [v0, v1, v2, v3] st I J) := (ge (A := (34, 10, 32, 3, 0)) rfl).trans (ggec)
set_option maxRecDepth 10000 in
theorem g_107_10 : GO x d 107 Q 10 [v0, v1, some (.inl a), v3] st I J = GO x d 107 Q 11 [v0, v1, some (.inl a), v3] (.inl a :: st) I J := ge (A := (1, 11, 2, 0, 0)) rfl
set_option maxRecDepth 10000 in
theorem g_107_11 : GO x d 107 Q 11 [v0, v1, v2, v3] (.inl a :: st) I J = (inR a ∧ if a < 0 then GO x d 107 Q 32 [v0, v1, v2, v3] st I J else GO x d 107 Q 14 [v0, v1, v2, v3] st I J) := (ge (A := (33, 14, 32, 2, 0)) rfl).trans (gif (p := a < 0) inferInstance)
set_option maxRecDepth 10000 in
theorem g_107_14 : GO x d 107 Q 14 [v0, v1, some (.inl a), v3] st I J = GO x d 107 Q 15 [v0, v1, some (.inl a), v3] (.inl a :: st) I J := ge (A := (1, 15, 2, 0, 0)) rfl
set_option maxRecDepth 10000 in
theorem g_107_15 : GO x d 107 Q 15 [v0, some (.inl a), v2, v3] st I J = GO x d 107 Q 16 [v0, some (.inl a), v2, v3] (.inl a :: st) I J := ge (A := (1, 16, 1, 0, 0)) rfl
set_option maxRecDepth 10000 in
theorem g_107_16 : GO x d 107 Q 16 [v0, v1, v2, v3] (.inl b :: .inl a :: st) I J = (inR a ∧ inR b ∧ if a = b then GO x d 107 Q 19 [v0, v1, v2, v3] st I J else GO x d 107 Q 21 [v0, v1, v2, v3] st I J) := (ge (A := (34, 19, 21, 1, 0)) rfl).trans (gicn (p := a = b) inferInstance)
set_option maxRecDepth 10000 in
theorem g_107_19 : GO x d 107 Q 19 [v0, v1, v2, v3] st I J = GO x d 107 Q 20 [v0, v1, v2, v3] (.inl (1) :: st) I J := ge (A := (0, 20, 0, 0, 1)) rfl
set_option maxRecDepth 10000 in
theorem g_107_20 : GO x d 107 Q 20 [v0, v1, v2, v3] [.inl a] I J = (ret01 a ∧ Q (some (.inl a)) I J) := ge (A := (56, 21, 0, 0, 0)) rfl
set_option maxRecDepth 10000 in
theorem g_107_21 : GO x d 107 Q 21 [v0, v1, some (.inl a), v3] st I J = GO x d 107 Q 22 [v0, v1, some (.inl a), v3] (.inl a :: st) I J := ge (A := (1, 22, 2, 0, 0)) rfl
set_option maxRecDepth 10000 in
theorem g_107_22 : GO x d 107 Q 22 [v0, v1, v2, v3] [.inl i0] I J = EX x d 106 [.inl i0] I J (fun r1 I1 J1 => GO x d 107 Q 25 [v0, v1, v2, v3] (r1.toList ++ []) I1 J1) := (ge (A := (52, 25, 106, 1, 0)) rfl).trans (gtrue2 (Nat.le_of_ble_eq_true rfl) (Nat.le_of_ble_eq_true rfl))
set_option maxRecDepth 10000 in
theorem g_107_25 : GO x d 107 Q 25 [v0, v1, v2, v3] (.inl a :: st) I J = (nlO (some v1) = true ∧ GO x d 107 Q 26 [v0, v1, some (.inl a), v3] st I J) := (ge (A := (4, 26, 2, 0, 0)) rfl).trans (gst (Nat.le_of_ble_eq_true rfl) _)
set_option maxRecDepth 10000 in
theorem g_107_26 : GO x d 107 Q 26 [v0, v1, v2, some (.inl a)] st I J = (nlO (some v2) = true ∧ GO x d 107 Q 29 [v0, v1, v2, some (.inl (a + (1)))] st I J) := ge (A := (7, 29, 3, 0, 1)) rfl
set_option maxRecDepth 10000 in
theorem g_107_29 : GO x d 107 Q 29 [v0, v1, v2, v3] st I J = GO x d 107 Q 4 [v0, v1, v2, v3] st I J := ge (A := (35, 32, 4, 0, 0)) rfl
set_option maxRecDepth 10000 in
theorem g_107_32 : GO x d 107 Q 32 [v0, v1, v2, v3] st I J = GO x d 107 Q 33 [v0, v1, v2, v3] (.inl (0) :: st) I J := ge (A := (0, 33, 0, 0, 0)) rfl
set_option maxRecDepth 10000 in
theorem g_107_33 : GO x d 107 Q 33 [v0, v1, v2, v3] [.inl a] I J = (ret01 a ∧ Q (some (.inl a)) I J) := ge (A := (56, 34, 0, 0, 0)) rfl
set_option maxRecDepth 10000 in
theorem e_107 : EX x (d + 1) 107 [.inl i0, .inl i1] I J Q = GO x d 107 Q 0 [some (.inl i0), some (.inl i1), none, none] [] I J := ex_eq (Nat.le_of_ble_eq_true rfl) rfl (Nat.le_of_ble_eq_true rfl) rfl
set_option maxRecDepth 10000 in
theorem g_109_0 : GO x d 109 Q 0 [some (.inl a), v1, v2] st I J = GO x d 109 Q 1 [some (.inl a), v1, v2] (.inl a :: st) I J := ge (A := (1, 1, 0, 0, 0)) rfl
set_option maxRecDepth 10000 in
theorem g_109_1 : GO x d 109 Q 1 [v0, some (.inl a), v2] st I J = GO x d 109 Q 2 [v0, some (.inl a), v2] (.inl a :: st) I J := ge (A := (1, 2, 1, 0, 0)) rfl
set_option maxRecDepth 10000 in
theorem g_109_2 : GO x d 109 Q 2 [v0, v1, v2] (.inl b :: .inl a :: st) I J = (inR a ∧ inR b ∧ if a < b then GO x d 109 Q 14 [v0, v1, v2] st I J else GO x d 109 Q 5 [v0, v1, v2] st I J) := (ge (A := (34, 5, 14, 2, 0)) rfl).trans (gic (p := a < b) inferInstance)
set_option maxRecDepth 10000 in
theorem g_109_5 : GO x d 109 Q 5 [some (.inl a), v1, v2] st I J = GO x d 109 Q 6 [some (.inl a), v1, v2] (.inl a :: st) I J := ge (A := (1, 6, 0, 0, 0)) rfl
set_option maxRecDepth 10000 in
theorem g_109_6 : GO x d 109 Q 6 [v0, v1, some (.inl a)] st I J = GO x d 109 Q 7 [v0, v1, some (.inl a)] (.inl a :: st) I J := ge (A := (1, 7, 2, 0, 0)) rfl
set_option maxRecDepth 10000 in
theorem g_109_7 : GO x d 109 Q 7 [v0, v1, v2] (.inl b :: .inl a :: st) I J = (inR a ∧ inR b ∧ if b < a then GO x d 109 Q 14 [v0, v1, v2] st I J else GO x d 109 Q 10 [v0, v1, v2] st I J) := (ge (A := (34, 10, 14, 4, 0)) rfl).trans (gic (p := b < a) inferInstance)
set_option maxRecDepth 10000 in
theorem g_109_10 : GO x d 109 Q 10 [v0, v1, v2] st I J = GO x d 109 Q 11 [v0, v1, v2] (.inl (1) :: st) I J := ge (A := (0, 11, 0, 0, 1)) rfl
set_option maxRecDepth 10000 in
theorem g_109_11 : GO x d 109 Q 11 [v0, v1, v2] st I J = GO x d 109 Q 15 [v0, v1, v2] st I J := ge (A := (35, 14, 15, 0, 0)) rfl
set_option maxRecDepth 10000 in
theorem g_109_14 : GO x d 109 Q 14 [v0, v1, v2] st I J = GO x d 109 Q 15 [v0, v1, v2] (.inl (0) :: st) I J := ge (A := (0, 15, 0, 0, 0)) rfl
set_option maxRecDepth 10000 in
theorem g_109_15 : GO x d 109 Q 15 [v0, v1, v2] [.inl a] I J = (ret01 a ∧ Q (some (.inl a)) I J) := ge (A := (56, 16, 0, 0, 0)) rfl
set_option maxRecDepth 10000 in
theorem e_109 : EX x (d + 1) 109 [.inl i0, .inl i1, .inl i2] I J Q = GO x d 109 Q 0 [some (.inl i0), some (.inl i1), some (.inl i2)] [] I J := ex_eq (Nat.le_of_ble_eq_true rfl) rfl (Nat.le_of_ble_eq_true rfl) rfl
set_option maxRecDepth 10000 in
theorem g_110_0 : GO x d 110 Q 0 [some (.inr (.inr w))] st I J = GO x d 110 Q 1 [some (.inr (.inr w))] (.inr (.inr w) :: st) I J := ge (A := (2, 1, 0, 0, 0)) rfl
set_option maxRecDepth 10000 in
theorem g_110_1 : GO x d 110 Q 1 [v0] (.inr (.inr (.inl r)) :: st) I J = (okF r 10 2 ∧ GO x d 110 Q 4 [v0] (.inr (.inr (.inl (rfN r 2))) :: st) I J) := (ge (A := (39, 4, 10, 2, 0)) rfl).trans (gref (f := fun q => GO x d 110 Q 4 [v0] (.inr (.inr (.inl q)) :: st) I J))
set_option maxRecDepth 10000 in
theorem g_110_4 : GO x d 110 Q 4 [v0] st I J = GO x d 110 Q 5 [v0] (.inl (0) :: st) I J := ge (A := (0, 5, 0, 0, 0)) rfl
set_option maxRecDepth 10000 in
theorem h_110_5 : GO x d 110 Q 5 [v0] (.inl a :: .inr (.inr (.inr q)) :: st) I J = (q < 4 ∧ 0 ≤ a ∧ a < (roA x q).1 ∧ GO x d 110 Q 6 [v0] (.inl ((roA x q).2 a.toNat) :: st) I J) := ge (A := (44, 6, 0, 0, 0)) rfl
set_option maxRecDepth 10000 in
theorem g_110_5 : GO x d 110 Q 5 [v0] (.inl a :: .inr (.inr (.inl r)) :: st) I J = (okA r 20 ∧ 0 ≤ a ∧ a < lnN r ∧ GO x d 110 Q 6 [v0] (.inl (I r a) :: st) I J) := ge (A := (44, 6, 0, 0, 0)) rfl
set_option maxRecDepth 10000 in
theorem g_110_6 : GO x d 110 Q 6 [v0] st I J = GO x d 110 Q 7 [v0] (.inl (1) :: st) I J := ge (A := (0, 7, 0, 0, 1)) rfl
set_option maxRecDepth 10000 in
theorem g_110_7 : GO x d 110 Q 7 [v0] (.inl b :: .inl a :: st) I J = (inR a ∧ inR b ∧ if a = b then GO x d 110 Q 10 [v0] st I J else GO x d 110 Q 14 [v0] st I J) := (ge (A := (34, 10, 14, 1, 0)) rfl).trans (gicn (p := a = b) inferInstance)
set_option maxRecDepth 10000 in
theorem g_110_10 : GO x d 110 Q 10 [v0] st I J = GO x d 110 Q 11 [v0] (.inl (1) :: st) I J := ge (A := (0, 11, 0, 0, 1)) rfl
set_option maxRecDepth 10000 in
theorem g_110_11 : GO x d 110 Q 11 [v0] st I J = GO x d 110 Q 15 [v0] st I J := ge (A := (35, 14, 15, 0, 0)) rfl
set_option maxRecDepth 10000 in
theorem g_110_14 : GO x d 110 Q 14 [v0] st I J = GO x d 110 Q 15 [v0] (.inl (0) :: st) I J := ge (A := (0, 15, 0, 0, 0)) rfl
set_option maxRecDepth 10000 in
theorem g_110_15 : GO x d 110 Q 15 [v0] [.inl a] I J = (ret01 a ∧ Q (some (.inl a)) I J) := ge (A := (56, 16, 0, 0, 0)) rfl
set_option maxRecDepth 10000 in
theorem e_110 : EX x (d + 1) 110 [.inr (.inr w0)] I J Q = GO x d 110 Q 0 [some (.inr (.inr w0))] [] I J := ex_eq (Nat.le_of_ble_eq_true rfl) rfl (Nat.le_of_ble_eq_true rfl) rfl
set_option maxRecDepth 10000 in
theorem g_111_0 : GO x d 111 Q 0 [v0, some (.inl a)] st I J = GO x d 111 Q 1 [v0, some (.inl a)] (.inl a :: st) I J := ge (A := (1, 1, 1, 0, 0)) rfl
set_option maxRecDepth 10000 in
theorem g_111_1 : GO x d 111 Q 1 [v0, v1] st I J = GO x d 111 Q 2 [v0, v1] (.inl (0) :: st) I J := ge (A := (0, 2, 0, 0, 0)) rfl
set_option maxRecDepth 10000 in
theorem g_111_2 : GO x d 111 Q 2 [some (.inr (.inr w)), v1] st I J = GO x d 111 Q 3 [some (.inr (.inr w)), v1] (.inr (.inr w) :: st) I J := ge (A := (2, 3, 0, 0, 0)) rfl
set_option maxRecDepth 10000 in
theorem g_111_3 : GO x d 111 Q 3 [v0, v1] (.inr (.inr (.inl r)) :: st) I J = (okF r 10 2 ∧ GO x d 111 Q 6 [v0, v1] (.inr (.inr (.inl (rfN r 2))) :: st) I J) := (ge (A := (39, 6, 10, 2, 0)) rfl).trans (gref (f := fun q => GO x d 111 Q 6 [v0, v1] (.inr (.inr (.inl q)) :: st) I J))
set_option maxRecDepth 10000 in
theorem g_111_6 : GO x d 111 Q 6 [v0, v1] st I J = GO x d 111 Q 7 [v0, v1] (.inl (1) :: st) I J := ge (A := (0, 7, 0, 0, 1)) rfl
set_option maxRecDepth 10000 in
theorem h_111_7 : GO x d 111 Q 7 [v0, v1] (.inl a :: .inr (.inr (.inr q)) :: st) I J = (q < 4 ∧ 0 ≤ a ∧ a < (roA x q).1 ∧ GO x d 111 Q 8 [v0, v1] (.inl ((roA x q).2 a.toNat) :: st) I J) := ge (A := (44, 8, 0, 0, 0)) rfl
set_option maxRecDepth 10000 in
theorem g_111_7 : GO x d 111 Q 7 [v0, v1] (.inl a :: .inr (.inr (.inl r)) :: st) I J = (okA r 20 ∧ 0 ≤ a ∧ a < lnN r ∧ GO x d 111 Q 8 [v0, v1] (.inl (I r a) :: st) I J) := ge (A := (44, 8, 0, 0, 0)) rfl
set_option maxRecDepth 10000 in
theorem g_111_8 : GO x d 111 Q 8 [v0, v1] st I J = GO x d 111 Q 9 [v0, v1] (.inl (1) :: st) I J := ge (A := (0, 9, 0, 0, 1)) rfl
set_option maxRecDepth 10000 in
theorem g_111_9 : GO x d 111 Q 9 [v0, v1] (.inl b :: .inl a :: st) I J = GO x d 111 Q 10 [v0, v1] (.inl (a - b) :: st) I J := ge (A := (9, 10, 0, 0, 0)) rfl
set_option maxRecDepth 10000 in
theorem g_111_10 : GO x d 111 Q 10 [v0, v1] [.inl i0, .inl i1, .inl i2] I J = EX x d 109 [.inl i2, .inl i1, .inl i0] I J (fun r1 I1 J1 => GO x d 111 Q 13 [v0, v1] (r1.toList ++ []) I1 J1) := (ge (A := (52, 13, 109, 3, 0)) rfl).trans (gtrue2 (Nat.le_of_ble_eq_true rfl) (Nat.le_of_ble_eq_true rfl))
set_option maxRecDepth 10000 in
theorem g_111_13 : GO x d 111 Q 13 [v0, v1] [.inl a] I J = (ret01 a ∧ Q (some (.inl a)) I J) := ge (A := (56, 14, 0, 0, 0)) rfl
set_option maxRecDepth 10000 in
theorem e_111 : EX x (d + 1) 111 [.inr (.inr w0), .inl i0] I J Q = GO x d 111 Q 0 [some (.inr (.inr w0)), some (.inl i0)] [] I J := ex_eq (Nat.le_of_ble_eq_true rfl) rfl (Nat.le_of_ble_eq_true rfl) rfl
set_option maxRecDepth 10000 in
theorem g_112_0 : GO x d 112 Q 0 [v0, some (.inl a)] st I J = GO x d 112 Q 1 [v0, some (.inl a)] (.inl a :: st) I J := ge (A := (1, 1, 1, 0, 0)) rfl
set_option maxRecDepth 10000 in
theorem g_112_1 : GO x d 112 Q 1 [v0, v1] st I J = GO x d 112 Q 2 [v0, v1] (.inl (0) :: st) I J := ge (A := (0, 2, 0, 0, 0)) rfl
set_option maxRecDepth 10000 in
theorem g_112_2 : GO x d 112 Q 2 [some (.inr (.inr w)), v1] st I J = GO x d 112 Q 3 [some (.inr (.inr w)), v1] (.inr (.inr w) :: st) I J := ge (A := (2, 3, 0, 0, 0)) rfl
set_option maxRecDepth 10000 in
theorem g_112_3 : GO x d 112 Q 3 [v0, v1] (.inr (.inr (.inl r)) :: st) I J = (okF r 10 2 ∧ GO x d 112 Q 6 [v0, v1] (.inr (.inr (.inl (rfN r 2))) :: st) I J) := (ge (A := (39, 6, 10, 2, 0)) rfl).trans (gref (f := fun q => GO x d 112 Q 6 [v0, v1] (.inr (.inr (.inl q)) :: st) I J))
set_option maxRecDepth 10000 in
theorem g_112_6 : GO x d 112 Q 6 [v0, v1] st I J = GO x d 112 Q 7 [v0, v1] (.inl (2) :: st) I J := ge (A := (0, 7, 0, 0, 2)) rfl
set_option maxRecDepth 10000 in
theorem h_112_7 : GO x d 112 Q 7 [v0, v1] (.inl a :: .inr (.inr (.inr q)) :: st) I J = (q < 4 ∧ 0 ≤ a ∧ a < (roA x q).1 ∧ GO x d 112 Q 8 [v0, v1] (.inl ((roA x q).2 a.toNat) :: st) I J) := ge (A := (44, 8, 0, 0, 0)) rfl
set_option maxRecDepth 10000 in
theorem g_112_7 : GO x d 112 Q 7 [v0, v1] (.inl a :: .inr (.inr (.inl r)) :: st) I J = (okA r 20 ∧ 0 ≤ a ∧ a < lnN r ∧ GO x d 112 Q 8 [v0, v1] (.inl (I r a) :: st) I J) := ge (A := (44, 8, 0, 0, 0)) rfl
set_option maxRecDepth 10000 in
theorem g_112_8 : GO x d 112 Q 8 [v0, v1] st I J = GO x d 112 Q 9 [v0, v1] (.inl (1) :: st) I J := ge (A := (0, 9, 0, 0, 1)) rfl
set_option maxRecDepth 10000 in
theorem g_112_9 : GO x d 112 Q 9 [v0, v1] (.inl b :: .inl a :: st) I J = GO x d 112 Q 10 [v0, v1] (.inl (a - b) :: st) I J := ge (A := (9, 10, 0, 0, 0)) rfl
set_option maxRecDepth 10000 in
theorem g_112_10 : GO x d 112 Q 10 [v0, v1] [.inl i0, .inl i1, .inl i2] I J = EX x d 109 [.inl i2, .inl i1, .inl i0] I J (fun r1 I1 J1 => GO x d 112 Q 13 [v0, v1] (r1.toList ++ []) I1 J1) := (ge (A := (52, 13, 109, 3, 0)) rfl).trans (gtrue2 (Nat.le_of_ble_eq_true rfl) (Nat.le_of_ble_eq_true rfl))
set_option maxRecDepth 10000 in
theorem g_112_13 : GO x d 112 Q 13 [v0, v1] [.inl a] I J = (ret01 a ∧ Q (some (.inl a)) I J) := ge (A := (56, 14, 0, 0, 0)) rfl
set_option maxRecDepth 10000 in
theorem e_112 : EX x (d + 1) 112 [.inr (.inr w0), .inl i0] I J Q = GO x d 112 Q 0 [some (.inr (.inr w0)), some (.inl i0)] [] I J := ex_eq (Nat.le_of_ble_eq_true rfl) rfl (Nat.le_of_ble_eq_true rfl) rfl
set_option maxRecDepth 10000 in
theorem g_113_0 : GO x d 113 Q 0 [some (.inl a)] st I J = GO x d 113 Q 1 [some (.inl a)] (.inl a :: st) I J := ge (A := (1, 1, 0, 0, 0)) rfl
set_option maxRecDepth 10000 in
theorem g_113_1 : GO x d 113 Q 1 [v0] st I J = GO x d 113 Q 2 [v0] (.inl (0) :: st) I J := ge (A := (0, 2, 0, 0, 0)) rfl
set_option maxRecDepth 10000 in
theorem g_113_2 : GO x d 113 Q 2 [v0] st I J = GO x d 113 Q 4 [v0] (.inl (7) :: st) I J := ge (A := (0, 4, 0, 0, 7)) rfl
set_option maxRecDepth 10000 in
theorem g_113_4 : GO x d 113 Q 4 [v0] [.inl i0, .inl i1, .inl i2] I J = EX x d 109 [.inl i2, .inl i1, .inl i0] I J (fun r1 I1 J1 => GO x d 113 Q 7 [v0] (r1.toList ++ []) I1 J1) := (ge (A := (52, 7, 109, 3, 0)) rfl).trans (gtrue2 (Nat.le_of_ble_eq_true rfl) (Nat.le_of_ble_eq_true rfl))
set_option maxRecDepth 10000 in
theorem g_113_7 : GO x d 113 Q 7 [v0] [.inl a] I J = (ret01 a ∧ Q (some (.inl a)) I J) := ge (A := (56, 8, 0, 0, 0)) rfl
set_option maxRecDepth 10000 in
theorem e_113 : EX x (d + 1) 113 [.inl i0] I J Q = GO x d 113 Q 0 [some (.inl i0)] [] I J := ex_eq (Nat.le_of_ble_eq_true rfl) rfl (Nat.le_of_ble_eq_true rfl) rfl
set_option maxRecDepth 10000 in
theorem g_114_0 : GO x d 114 Q 0 [some (.inr (.inr w)), v1] st I J = GO x d 114 Q 1 [some (.inr (.inr w)), v1] (.inr (.inr w) :: st) I J := ge (A := (2, 1, 0, 0, 0)) rfl
set_option maxRecDepth 10000 in
theorem g_114_1 : GO x d 114 Q 1 [v0, some (.inl a)] st I J = GO x d 114 Q 2 [v0, some (.inl a)] (.inl a :: st) I J := ge (A := (1, 2, 1, 0, 0)) rfl
set_option maxRecDepth 10000 in
theorem g_114_2 : GO x d 114 Q 2 [v0, v1] (.inl a :: .inr (.inr (.inl r)) :: st) I J = (okO r 10 ∧ GO x d 114 Q 5 [v0, v1] st (up I r 13 a) J) := ge (A := (40, 5, 10, 13, 0)) rfl
set_option maxRecDepth 10000 in
theorem g_114_5 : GO x d 114 Q 5 [v0, v1] st I J = GO x d 114 Q 7 [v0, v1] (.inl (-1000010) :: st) I J := ge (A := (0, 7, 0, 0, -1000010)) rfl
set_option maxRecDepth 10000 in
theorem g_114_7 : GO x d 114 Q 7 [v0, some (.inl a)] st I J = GO x d 114 Q 8 [v0, some (.inl a)] (.inl a :: st) I J := ge (A := (1, 8, 1, 0, 0)) rfl
set_option maxRecDepth 10000 in
theorem g_114_8 : GO x d 114 Q 8 [v0, v1] (.inl b :: .inl a :: st) I J = GO x d 114 Q 9 [v0, v1] (.inl (a - b) :: st) I J := ge (A := (9, 9, 0, 0, 0)) rfl
set_option maxRecDepth 10000 in
theorem g_114_9 : GO x d 114 Q 9 [v0, v1] [.inl a] I J = Q (some (.inl a)) I J := ge (A := (55, 10, 0, 0, 0)) rfl
set_option maxRecDepth 10000 in
theorem e_114 : EX x (d + 1) 114 [.inr (.inr w0), .inl i0] I J Q = GO x d 114 Q 0 [some (.inr (.inr w0)), some (.inl i0)] [] I J := ex_eq (Nat.le_of_ble_eq_true rfl) rfl (Nat.le_of_ble_eq_true rfl) rfl
set_option maxRecDepth 10000 in
theorem g_115_0 : GO x d 115 Q 0 [v0, some (.inl a), v2, v3, v4] st I J = GO x d 115 Q 1 [v0, some (.inl a), v2, v3, v4] (.inl a :: st) I J := ge (A := (1, 1, 1, 0, 0)) rfl
set_option maxRecDepth 10000 in
theorem g_115_1 : GO x d 115 Q 1 [v0, v1, v2, v3, v4] [.inl i0] I J = EX x d 113 [.inl i0] I J (fun r1 I1 J1 => GO x d 115 Q 4 [v0, v1, v2, v3, v4] (r1.toList ++ []) I1 J1) := (ge (A := (52, 4, 113, 1, 0)) rfl).trans (gtrue2 (Nat.le_of_ble_eq_true rfl) (Nat.le_of_ble_eq_true rfl))
set_option maxRecDepth 10000 in
theorem g_115_4 : GO x d 115 Q 4 [v0, v1, v2, v3, v4] (.inl a :: st) I J = (inR a ∧ if a = 0 then GO x d 115 Q 22 [v0, v1, v2, v3, v4] st I J else GO x d 115 Q 7 [v0, v1, v2, v3, v4] st I J) := (ge (A := (33, 7, 22, 0, 0)) rfl).trans (gif (p := a = 0) inferInstance)
set_option maxRecDepth 10000 in
theorem g_115_7 : GO x d 115 Q 7 [v0, v1, some (.inl a), v3, v4] st I J = GO x d 115 Q 8 [v0, v1, some (.inl a), v3, v4] (.inl a :: st) I J := ge (A := (1, 8, 2, 0, 0)) rfl
set_option maxRecDepth 10000 in
theorem g_115_8 : GO x d 115 Q 8 [v0, v1, v2, v3, v4] st I J = GO x d 115 Q 9 [v0, v1, v2, v3, v4] (.inl (0) :: st) I J := ge (A := (0, 9, 0, 0, 0)) rfl
set_option maxRecDepth 10000 in
theorem g_115_9 : GO x d 115 Q 9 [v0, v1, v2, v3, v4] st I J = GO x d 115 Q 10 [v0, v1, v2, v3, v4] (.inl (2) :: st) I J := ge (A := (0, 10, 0, 0, 2)) rfl
set_option maxRecDepth 10000 in
theorem g_115_10 : GO x d 115 Q 10 [v0, v1, v2, v3, v4] [.inl i0, .inl i1, .inl i2] I J = EX x d 109 [.inl i2, .inl i1, .inl i0] I J (fun r1 I1 J1 => GO x d 115 Q 13 [v0, v1, v2, v3, v4] (r1.toList ++ []) I1 J1) := (ge (A := (52, 13, 109, 3, 0)) rfl).trans (gtrue2 (Nat.le_of_ble_eq_true rfl) (Nat.le_of_ble_eq_true rfl))
set_option maxRecDepth 10000 in
theorem g_115_13 : GO x d 115 Q 13 [v0, v1, v2, v3, v4] (.inl a :: st) I J = (inR a ∧ if a = 0 then GO x d 115 Q 22 [v0, v1, v2, v3, v4] st I J else GO x d 115 Q 16 [v0, v1, v2, v3, v4] st I J) := (ge (A := (33, 16, 22, 0, 0)) rfl).trans (gif (p := a = 0) inferInstance)
set_option maxRecDepth 10000 in
theorem g_115_16 : GO x d 115 Q 16 [v0, v1, v2, some (.inl a), v4] st I J = GO x d 115 Q 17 [v0, v1, v2, some (.inl a), v4] (.inl a :: st) I J := ge (A := (1, 17, 3, 0, 0)) rfl
set_option maxRecDepth 10000 in
theorem g_115_17 : GO x d 115 Q 17 [v0, v1, v2, v3, v4] st I J = GO x d 115 Q 19 [v0, v1, v2, v3, v4] (.inl (40) :: st) I J := ge (A := (0, 19, 0, 0, 40)) rfl
set_option maxRecDepth 10000 in
theorem g_115_19 : GO x d 115 Q 19 [v0, v1, v2, v3, v4] (.inl b :: .inl a :: st) I J = (inR a ∧ inR b ∧ if b < a then GO x d 115 Q 22 [v0, v1, v2, v3, v4] st I J else GO x d 115 Q 25 [v0, v1, v2, v3, v4] st I J) := (ge (A := (34, 22, 25, 5, 0)) rfl).trans (ggec)
set_option maxRecDepth 10000 in
theorem g_115_22 : GO x d 115 Q 22 [v0, v1, v2, v3, v4] st I J = GO x d 115 Q 24 [v0, v1, v2, v3, v4] (.inl (-1000001) :: st) I J := ge (A := (0, 24, 0, 0, -1000001)) rfl
set_option maxRecDepth 10000 in
theorem g_115_24 : GO x d 115 Q 24 [v0, v1, v2, v3, v4] [.inl a] I J = Q (some (.inl a)) I J := ge (A := (55, 25, 0, 0, 0)) rfl
set_option maxRecDepth 10000 in
theorem g_115_25 : GO x d 115 Q 25 [v0, v1, v2, some (.inl a), v4] st I J = GO x d 115 Q 26 [v0, v1, v2, some (.inl a), v4] (.inl a :: st) I J := ge (A := (1, 26, 3, 0, 0)) rfl
set_option maxRecDepth 10000 in
theorem g_115_26 : GO x d 115 Q 26 [v0, v1, v2, v3, v4] (.inl a :: st) I J = (inR a ∧ if a < 0 then GO x d 115 Q 29 [v0, v1, v2, v3, v4] st I J else GO x d 115 Q 35 [v0, v1, v2, v3, v4] st I J) := (ge (A := (33, 29, 35, 3, 0)) rfl).trans (gge)
set_option maxRecDepth 10000 in
theorem g_115_29 : GO x d 115 Q 29 [some (.inr (.inr w)), v1, v2, v3, v4] st I J = GO x d 115 Q 30 [some (.inr (.inr w)), v1, v2, v3, v4] (.inr (.inr w) :: st) I J := ge (A := (2, 30, 0, 0, 0)) rfl
set_option maxRecDepth 10000 in
theorem g_115_30 : GO x d 115 Q 30 [v0, v1, v2, v3, v4] st I J = GO x d 115 Q 31 [v0, v1, v2, v3, v4] (.inl (4) :: st) I J := ge (A := (0, 31, 0, 0, 4)) rfl
set_option maxRecDepth 10000 in
theorem g_115_31 : GO x d 115 Q 31 [v0, v1, v2, v3, v4] [.inl i0, .inr (.inr (.inl r))] I J = (okO r 10 ∧ EX x d 114 [.inr (.inr (.inl r)), .inl i0] I J (fun r1 I1 J1 => GO x d 115 Q 34 [v0, v1, v2, v3, v4] (r1.toList ++ []) I1 J1)) := (ge (A := (53, 34, 114, 1, 0)) rfl).trans (gtrue (Nat.le_of_ble_eq_true rfl))
set_option maxRecDepth 10000 in
theorem g_115_34 : GO x d 115 Q 34 [v0, v1, v2, v3, v4] [.inl a] I J = Q (some (.inl a)) I J := ge (A := (55, 35, 0, 0, 0)) rfl
set_option maxRecDepth 10000 in
theorem g_115_35 : GO x d 115 Q 35 [some (.inr (.inr w)), v1, v2, v3, v4] st I J = GO x d 115 Q 36 [some (.inr (.inr w)), v1, v2, v3, v4] (.inr (.inr w) :: st) I J := ge (A := (2, 36, 0, 0, 0)) rfl
set_option maxRecDepth 10000 in
theorem g_115_36 : GO x d 115 Q 36 [v0, v1, v2, v3, v4] st I J = GO x d 115 Q 37 [v0, v1, v2, v3, v4] (.inl (0) :: st) I J := ge (A := (0, 37, 0, 0, 0)) rfl
set_option maxRecDepth 10000 in
theorem g_115_37 : GO x d 115 Q 37 [v0, v1, v2, v3, v4] (.inl a :: .inr (.inr (.inl r)) :: st) I J = (okO r 10 ∧ GO x d 115 Q 40 [v0, v1, v2, v3, v4] st (up I r 13 a) J) := ge (A := (40, 40, 10, 13, 0)) rfl
set_option maxRecDepth 10000 in
theorem g_115_40 : GO x d 115 Q 40 [some (.inr (.inr w)), v1, v2, v3, v4] st I J = GO x d 115 Q 41 [some (.inr (.inr w)), v1, v2, v3, v4] (.inr (.inr w) :: st) I J := ge (A := (2, 41, 0, 0, 0)) rfl
set_option maxRecDepth 10000 in
theorem g_115_41 : GO x d 115 Q 41 [v0, v1, v2, v3, v4] (.inr (.inr (.inl r)) :: st) I J = (okF r 10 8 ∧ GO x d 115 Q 44 [v0, v1, v2, v3, v4] (.inr (.inr (.inl (rfN r 8))) :: st) I J) := (ge (A := (39, 44, 10, 8, 0)) rfl).trans (gref (f := fun q => GO x d 115 Q 44 [v0, v1, v2, v3, v4] (.inr (.inr (.inl q)) :: st) I J))
set_option maxRecDepth 10000 in
theorem g_115_44 : GO x d 115 Q 44 [v0, some (.inl a), v2, v3, v4] st I J = GO x d 115 Q 45 [v0, some (.inl a), v2, v3, v4] (.inl a :: st) I J := ge (A := (1, 45, 1, 0, 0)) rfl
set_option maxRecDepth 10000 in
theorem g_115_45 : GO x d 115 Q 45 [v0, v1, some (.inl a), v3, v4] st I J = GO x d 115 Q 46 [v0, v1, some (.inl a), v3, v4] (.inl a :: st) I J := ge (A := (1, 46, 2, 0, 0)) rfl
set_option maxRecDepth 10000 in
theorem g_115_46 : GO x d 115 Q 46 [v0, v1, v2, v3, v4] st I J = GO x d 115 Q 47 [v0, v1, v2, v3, v4] (.inl (1) :: st) I J := ge (A := (0, 47, 0, 0, 1)) rfl
set_option maxRecDepth 10000 in
theorem g_115_47 : GO x d 115 Q 47 [v0, v1, v2, v3, v4] (.inl b :: .inl a :: st) I J = GO x d 115 Q 48 [v0, v1, v2, v3, v4] (.inl (a + b) :: st) I J := ge (A := (8, 48, 0, 0, 0)) rfl
set_option maxRecDepth 10000 in
theorem g_115_48 : GO x d 115 Q 48 [v0, v1, v2, v3, v4] (.inl b :: .inl a :: .inr (.inr (.inl r)) :: st) I J = (okA r 20 ∧ 0 ≤ a ∧ a < lnN r ∧ GO x d 115 Q 49 [v0, v1, v2, v3, v4] st (up I r a b) J) := ge (A := (45, 49, 0, 0, 0)) rfl
set_option maxRecDepth 10000 in
theorem g_115_49 : GO x d 115 Q 49 [some (.inr (.inr w)), v1, v2, v3, v4] st I J = GO x d 115 Q 50 [some (.inr (.inr w)), v1, v2, v3, v4] (.inr (.inr w) :: st) I J := ge (A := (2, 50, 0, 0, 0)) rfl
set_option maxRecDepth 10000 in
theorem g_115_50 : GO x d 115 Q 50 [v0, v1, v2, v3, v4] (.inr (.inr (.inl r)) :: st) I J = (okF r 10 9 ∧ GO x d 115 Q 53 [v0, v1, v2, v3, v4] (.inr (.inr (.inl (rfN r 9))) :: st) I J) := (ge (A := (39, 53, 10, 9, 0)) rfl).trans (gref (f := fun q => GO x d 115 Q 53 [v0, v1, v2, v3, v4] (.inr (.inr (.inl q)) :: st) I J))
set_option maxRecDepth 10000 in
theorem g_115_53 : GO x d 115 Q 53 [v0, some (.inl a), v2, v3, v4] st I J = GO x d 115 Q 54 [v0, some (.inl a), v2, v3, v4] (.inl a :: st) I J := ge (A := (1, 54, 1, 0, 0)) rfl
set_option maxRecDepth 10000 in
theorem g_115_54 : GO x d 115 Q 54 [v0, v1, v2, some (.inl a), v4] st I J = GO x d 115 Q 55 [v0, v1, v2, some (.inl a), v4] (.inl a :: st) I J := ge (A := (1, 55, 3, 0, 0)) rfl
set_option maxRecDepth 10000 in
theorem g_115_55 : GO x d 115 Q 55 [v0, v1, v2, v3, v4] (.inl b :: .inl a :: .inr (.inr (.inl r)) :: st) I J = (okA r 20 ∧ 0 ≤ a ∧ a < lnN r ∧ GO x d 115 Q 56 [v0, v1, v2, v3, v4] st (up I r a b) J) := ge (A := (45, 56, 0, 0, 0)) rfl
set_option maxRecDepth 10000 in
theorem g_115_56 : GO x d 115 Q 56 [v0, v1, v2, v3, v4] st I J = GO x d 115 Q 57 [v0, v1, v2, v3, v4] (.inl (0) :: st) I J := ge (A := (0, 57, 0, 0, 0)) rfl
set_option maxRecDepth 10000 in
theorem g_115_57 : GO x d 115 Q 57 [v0, v1, v2, v3, v4] (.inl a :: st) I J = (nlO (some v3) = true ∧ GO x d 115 Q 59 [v0, v1, v2, v3, some (.inl a)] st I J) := (ge (A := (4, 59, 4, 0, 0)) rfl).trans (gst (Nat.le_of_ble_eq_true rfl) _)
set_option maxRecDepth 10000 in
theorem g_115_59 : GO x d 115 Q 59 [v0, v1, v2, v3, some (.inl a)] st I J = GO x d 115 Q 61 [v0, v1, v2, v3, some (.inl a)] (.inl a :: st) I J := ge (A := (1, 61, 4, 0, 0)) rfl
set_option maxRecDepth 10000 in
theorem g_115_61 : GO x d 115 Q 61 [v0, v1, v2, v3, v4] st I J = GO x d 115 Q 63 [v0, v1, v2, v3, v4] (.inl (40) :: st) I J := ge (A := (0, 63, 0, 0, 40)) rfl
set_option maxRecDepth 10000 in
theorem g_115_63 : GO x d 115 Q 63 [v0, v1, v2, v3, v4] (.inl b :: .inl a :: st) I J = (inR a ∧ inR b ∧ if a < b then GO x d 115 Q 66 [v0, v1, v2, v3, v4] st I J else GO x d 115 Q 85 [v0, v1, v2, v3, v4] st I J) := (ge (A := (34, 66, 85, 3, 0)) rfl).trans (ggec)
set_option maxRecDepth 10000 in
theorem g_115_66 : GO x d 115 Q 66 [some (.inr (.inr w)), v1, v2, v3, v4] st I J = GO x d 115 Q 67 [some (.inr (.inr w)), v1, v2, v3, v4] (.inr (.inr w) :: st) I J := ge (A := (2, 67, 0, 0, 0)) rfl
set_option maxRecDepth 10000 in
theorem g_115_67 : GO x d 115 Q 67 [v0, v1, v2, v3, v4] (.inr (.inr (.inl r)) :: st) I J = (okF r 10 10 ∧ GO x d 115 Q 70 [v0, v1, v2, v3, v4] (.inr (.inr (.inl (rfN r 10))) :: st) I J) := (ge (A := (39, 70, 10, 10, 0)) rfl).trans (gref (f := fun q => GO x d 115 Q 70 [v0, v1, v2, v3, v4] (.inr (.inr (.inl q)) :: st) I J))
set_option maxRecDepth 10000 in
theorem g_115_70 : GO x d 115 Q 70 [v0, v1, v2, v3, v4] st I J = GO x d 115 Q 72 [v0, v1, v2, v3, v4] (.inl (40) :: st) I J := ge (A := (0, 72, 0, 0, 40)) rfl
set_option maxRecDepth 10000 in
theorem g_115_72 : GO x d 115 Q 72 [v0, some (.inl a), v2, v3, v4] st I J = GO x d 115 Q 73 [v0, some (.inl a), v2, v3, v4] (.inl a :: st) I J := ge (A := (1, 73, 1, 0, 0)) rfl
set_option maxRecDepth 10000 in
theorem g_115_73 : GO x d 115 Q 73 [v0, v1, v2, v3, v4] (.inl b :: .inl a :: st) I J = GO x d 115 Q 74 [v0, v1, v2, v3, v4] (.inl (a * b) :: st) I J := ge (A := (10, 74, 0, 0, 0)) rfl
set_option maxRecDepth 10000 in
theorem g_115_74 : GO x d 115 Q 74 [v0, v1, v2, v3, some (.inl a)] st I J = GO x d 115 Q 76 [v0, v1, v2, v3, some (.inl a)] (.inl a :: st) I J := ge (A := (1, 76, 4, 0, 0)) rfl
set_option maxRecDepth 10000 in
theorem g_115_76 : GO x d 115 Q 76 [v0, v1, v2, v3, v4] (.inl b :: .inl a :: st) I J = GO x d 115 Q 77 [v0, v1, v2, v3, v4] (.inl (a + b) :: st) I J := ge (A := (8, 77, 0, 0, 0)) rfl
set_option maxRecDepth 10000 in
theorem g_115_77 : GO x d 115 Q 77 [v0, v1, v2, v3, v4] st I J = GO x d 115 Q 78 [v0, v1, v2, v3, v4] (.inl (0) :: st) I J := ge (A := (0, 78, 0, 0, 0)) rfl
set_option maxRecDepth 10000 in
theorem g_115_78 : GO x d 115 Q 78 [v0, v1, v2, v3, v4] (.inl b :: .inl a :: .inr (.inr (.inl r)) :: st) I J = (okA r 20 ∧ 0 ≤ a ∧ a < lnN r ∧ GO x d 115 Q 79 [v0, v1, v2, v3, v4] st (up I r a b) J) := ge (A := (45, 79, 0, 0, 0)) rfl
set_option maxRecDepth 10000 in
theorem g_115_79 : GO x d 115 Q 79 [v0, v1, v2, v3, some (.inl a)] st I J = (nlO (some v3) = true ∧ GO x d 115 Q 82 [v0, v1, v2, v3, some (.inl (a + (1)))] st I J) := ge (A := (7, 82, 4, 0, 1)) rfl
set_option maxRecDepth 10000 in
theorem g_115_82 : GO x d 115 Q 82 [v0, v1, v2, v3, v4] st I J = GO x d 115 Q 59 [v0, v1, v2, v3, v4] st I J := ge (A := (35, 85, 59, 0, 0)) rfl
set_option maxRecDepth 10000 in
theorem g_115_85 : GO x d 115 Q 85 [v0, v1, v2, some (.inl a), v4] st I J = GO x d 115 Q 86 [v0, v1, v2, some (.inl a), v4] (.inl a :: st) I J := ge (A := (1, 86, 3, 0, 0)) rfl
set_option maxRecDepth 10000 in
theorem g_115_86 : GO x d 115 Q 86 [v0, v1, v2, v3, v4] [.inl a] I J = Q (some (.inl a)) I J := ge (A := (55, 87, 0, 0, 0)) rfl
set_option maxRecDepth 10000 in
theorem e_115 : EX x (d + 1) 115 [.inr (.inr w0), .inl i0, .inl i1, .inl i2] I J Q = GO x d 115 Q 0 [some (.inr (.inr w0)), some (.inl i0), some (.inl i1), some (.inl i2), none] [] I J := ex_eq (Nat.le_of_ble_eq_true rfl) rfl (Nat.le_of_ble_eq_true rfl) rfl
set_option maxRecDepth 10000 in
theorem g_116_0 : GO x d 116 Q 0 [v0, some (.inl a), v2, v3, v4] st I J = GO x d 116 Q 1 [v0, some (.inl a), v2, v3, v4] (.inl a :: st) I J := ge (A := (1, 1, 1, 0, 0)) rfl
set_option maxRecDepth 10000 in
theorem g_116_1 : GO x d 116 Q 1 [v0, v1, v2, v3, v4] [.inl i0] I J = EX x d 113 [.inl i0] I J (fun r1 I1 J1 => GO x d 116 Q 4 [v0, v1, v2, v3, v4] (r1.toList ++ []) I1 J1) := (ge (A := (52, 4, 113, 1, 0)) rfl).trans (gtrue2 (Nat.le_of_ble_eq_true rfl) (Nat.le_of_ble_eq_true rfl))
set_option maxRecDepth 10000 in
theorem g_116_4 : GO x d 116 Q 4 [v0, v1, v2, v3, v4] (.inl a :: st) I J = (inR a ∧ if a = 0 then GO x d 116 Q 7 [v0, v1, v2, v3, v4] st I J else GO x d 116 Q 10 [v0, v1, v2, v3, v4] st I J) := (ge (A := (33, 7, 10, 1, 0)) rfl).trans (gifn (p := a = 0) inferInstance)
set_option maxRecDepth 10000 in
theorem g_116_7 : GO x d 116 Q 7 [v0, v1, v2, v3, v4] st I J = GO x d 116 Q 9 [v0, v1, v2, v3, v4] (.inl (-1000001) :: st) I J := ge (A := (0, 9, 0, 0, -1000001)) rfl
set_option maxRecDepth 10000 in
theorem g_116_9 : GO x d 116 Q 9 [v0, v1, v2, v3, v4] [.inl a] I J = Q (some (.inl a)) I J := ge (A := (55, 10, 0, 0, 0)) rfl
set_option maxRecDepth 10000 in
theorem g_116_10 : GO x d 116 Q 10 [some (.inr (.inr w)), v1, v2, v3, v4] st I J = GO x d 116 Q 11 [some (.inr (.inr w)), v1, v2, v3, v4] (.inr (.inr w) :: st) I J := ge (A := (2, 11, 0, 0, 0)) rfl
set_option maxRecDepth 10000 in
theorem g_116_11 : GO x d 116 Q 11 [v0, v1, v2, v3, v4] (.inr (.inr (.inl r)) :: st) I J = (okF r 10 8 ∧ GO x d 116 Q 14 [v0, v1, v2, v3, v4] (.inr (.inr (.inl (rfN r 8))) :: st) I J) := (ge (A := (39, 14, 10, 8, 0)) rfl).trans (gref (f := fun q => GO x d 116 Q 14 [v0, v1, v2, v3, v4] (.inr (.inr (.inl q)) :: st) I J))
set_option maxRecDepth 10000 in
theorem g_116_14 : GO x d 116 Q 14 [v0, some (.inl a), v2, v3, v4] st I J = GO x d 116 Q 15 [v0, some (.inl a), v2, v3, v4] (.inl a :: st) I J := ge (A := (1, 15, 1, 0, 0)) rfl
set_option maxRecDepth 10000 in
theorem h_116_15 : GO x d 116 Q 15 [v0, v1, v2, v3, v4] (.inl a :: .inr (.inr (.inr q)) :: st) I J = (q < 4 ∧ 0 ≤ a ∧ a < (roA x q).1 ∧ GO x d 116 Q 16 [v0, v1, v2, v3, v4] (.inl ((roA x q).2 a.toNat) :: st) I J) := ge (A := (44, 16, 0, 0, 0)) rfl
set_option maxRecDepth 10000 in
theorem g_116_15 : GO x d 116 Q 15 [v0, v1, v2, v3, v4] (.inl a :: .inr (.inr (.inl r)) :: st) I J = (okA r 20 ∧ 0 ≤ a ∧ a < lnN r ∧ GO x d 116 Q 16 [v0, v1, v2, v3, v4] (.inl (I r a) :: st) I J) := ge (A := (44, 16, 0, 0, 0)) rfl
set_option maxRecDepth 10000 in
theorem g_116_16 : GO x d 116 Q 16 [v0, v1, v2, v3, v4] (.inl a :: st) I J = (inR a ∧ if a = 0 then GO x d 116 Q 19 [v0, v1, v2, v3, v4] st I J else GO x d 116 Q 25 [v0, v1, v2, v3, v4] st I J) := (ge (A := (33, 19, 25, 1, 0)) rfl).trans (gifn (p := a = 0) inferInstance)
set_option maxRecDepth 10000 in
theorem g_116_19 : GO x d 116 Q 19 [some (.inr (.inr w)), v1, v2, v3, v4] st I J = GO x d 116 Q 20 [some (.inr (.inr w)), v1, v2, v3, v4] (.inr (.inr w) :: st) I J := ge (A := (2, 20, 0, 0, 0)) rfl
set_option maxRecDepth 10000 in
theorem g_116_20 : GO x d 116 Q 20 [v0, v1, v2, v3, v4] st I J = GO x d 116 Q 21 [v0, v1, v2, v3, v4] (.inl (1) :: st) I J := ge (A := (0, 21, 0, 0, 1)) rfl
set_option maxRecDepth 10000 in
theorem g_116_21 : GO x d 116 Q 21 [v0, v1, v2, v3, v4] [.inl i0, .inr (.inr (.inl r))] I J = (okO r 10 ∧ EX x d 114 [.inr (.inr (.inl r)), .inl i0] I J (fun r1 I1 J1 => GO x d 116 Q 24 [v0, v1, v2, v3, v4] (r1.toList ++ []) I1 J1)) := (ge (A := (53, 24, 114, 1, 0)) rfl).trans (gtrue (Nat.le_of_ble_eq_true rfl))
set_option maxRecDepth 10000 in
theorem g_116_24 : GO x d 116 Q 24 [v0, v1, v2, v3, v4] [.inl a] I J = Q (some (.inl a)) I J := ge (A := (55, 25, 0, 0, 0)) rfl
set_option maxRecDepth 10000 in
theorem g_116_25 : GO x d 116 Q 25 [v0, v1, some (.inl a), v3, v4] st I J = GO x d 116 Q 26 [v0, v1, some (.inl a), v3, v4] (.inl a :: st) I J := ge (A := (1, 26, 2, 0, 0)) rfl
set_option maxRecDepth 10000 in
theorem g_116_26 : GO x d 116 Q 26 [v0, v1, v2, v3, v4] st I J = GO x d 116 Q 27 [v0, v1, v2, v3, v4] (.inl (0) :: st) I J := ge (A := (0, 27, 0, 0, 0)) rfl
set_option maxRecDepth 10000 in
theorem g_116_27 : GO x d 116 Q 27 [some (.inr (.inr w)), v1, v2, v3, v4] st I J = GO x d 116 Q 28 [some (.inr (.inr w)), v1, v2, v3, v4] (.inr (.inr w) :: st) I J := ge (A := (2, 28, 0, 0, 0)) rfl
set_option maxRecDepth 10000 in
theorem g_116_28 : GO x d 116 Q 28 [v0, v1, v2, v3, v4] (.inr (.inr (.inl r)) :: st) I J = (okF r 10 9 ∧ GO x d 116 Q 31 [v0, v1, v2, v3, v4] (.inr (.inr (.inl (rfN r 9))) :: st) I J) := (ge (A := (39, 31, 10, 9, 0)) rfl).trans (gref (f := fun q => GO x d 116 Q 31 [v0, v1, v2, v3, v4] (.inr (.inr (.inl q)) :: st) I J))
set_option maxRecDepth 10000 in
theorem g_116_31 : GO x d 116 Q 31 [v0, some (.inl a), v2, v3, v4] st I J = GO x d 116 Q 32 [v0, some (.inl a), v2, v3, v4] (.inl a :: st) I J := ge (A := (1, 32, 1, 0, 0)) rfl
set_option maxRecDepth 10000 in
theorem h_116_32 : GO x d 116 Q 32 [v0, v1, v2, v3, v4] (.inl a :: .inr (.inr (.inr q)) :: st) I J = (q < 4 ∧ 0 ≤ a ∧ a < (roA x q).1 ∧ GO x d 116 Q 33 [v0, v1, v2, v3, v4] (.inl ((roA x q).2 a.toNat) :: st) I J) := ge (A := (44, 33, 0, 0, 0)) rfl
set_option maxRecDepth 10000 in
theorem g_116_32 : GO x d 116 Q 32 [v0, v1, v2, v3, v4] (.inl a :: .inr (.inr (.inl r)) :: st) I J = (okA r 20 ∧ 0 ≤ a ∧ a < lnN r ∧ GO x d 116 Q 33 [v0, v1, v2, v3, v4] (.inl (I r a) :: st) I J) := ge (A := (44, 33, 0, 0, 0)) rfl
set_option maxRecDepth 10000 in
theorem g_116_33 : GO x d 116 Q 33 [v0, v1, v2, v3, v4] st I J = GO x d 116 Q 34 [v0, v1, v2, v3, v4] (.inl (1) :: st) I J := ge (A := (0, 34, 0, 0, 1)) rfl
set_option maxRecDepth 10000 in
theorem g_116_34 : GO x d 116 Q 34 [v0, v1, v2, v3, v4] (.inl b :: .inl a :: st) I J = GO x d 116 Q 35 [v0, v1, v2, v3, v4] (.inl (a - b) :: st) I J := ge (A := (9, 35, 0, 0, 0)) rfl
set_option maxRecDepth 10000 in
theorem g_116_35 : GO x d 116 Q 35 [v0, v1, v2, v3, v4] [.inl i0, .inl i1, .inl i2] I J = EX x d 109 [.inl i2, .inl i1, .inl i0] I J (fun r1 I1 J1 => GO x d 116 Q 38 [v0, v1, v2, v3, v4] (r1.toList ++ []) I1 J1) := (ge (A := (52, 38, 109, 3, 0)) rfl).trans (gtrue2 (Nat.le_of_ble_eq_true rfl) (Nat.le_of_ble_eq_true rfl))
set_option maxRecDepth 10000 in
theorem g_116_38 : GO x d 116 Q 38 [v0, v1, v2, v3, v4] (.inl a :: st) I J = (inR a ∧ if a = 0 then GO x d 116 Q 41 [v0, v1, v2, v3, v4] st I J else GO x d 116 Q 47 [v0, v1, v2, v3, v4] st I J) := (ge (A := (33, 41, 47, 1, 0)) rfl).trans (gifn (p := a = 0) inferInstance)
set_option maxRecDepth 10000 in
theorem g_116_41 : GO x d 116 Q 41 [some (.inr (.inr w)), v1, v2, v3, v4] st I J = GO x d 116 Q 42 [some (.inr (.inr w)), v1, v2, v3, v4] (.inr (.inr w) :: st) I J := ge (A := (2, 42, 0, 0, 0)) rfl
set_option maxRecDepth 10000 in
theorem g_116_42 : GO x d 116 Q 42 [v0, v1, v2, v3, v4] st I J = GO x d 116 Q 43 [v0, v1, v2, v3, v4] (.inl (2) :: st) I J := ge (A := (0, 43, 0, 0, 2)) rfl
set_option maxRecDepth 10000 in
theorem g_116_43 : GO x d 116 Q 43 [v0, v1, v2, v3, v4] [.inl i0, .inr (.inr (.inl r))] I J = (okO r 10 ∧ EX x d 114 [.inr (.inr (.inl r)), .inl i0] I J (fun r1 I1 J1 => GO x d 116 Q 46 [v0, v1, v2, v3, v4] (r1.toList ++ []) I1 J1)) := (ge (A := (53, 46, 114, 1, 0)) rfl).trans (gtrue (Nat.le_of_ble_eq_true rfl))
set_option maxRecDepth 10000 in
theorem g_116_46 : GO x d 116 Q 46 [v0, v1, v2, v3, v4] [.inl a] I J = Q (some (.inl a)) I J := ge (A := (55, 47, 0, 0, 0)) rfl
set_option maxRecDepth 10000 in
theorem g_116_47 : GO x d 116 Q 47 [some (.inr (.inr w)), v1, v2, v3, v4] st I J = GO x d 116 Q 48 [some (.inr (.inr w)), v1, v2, v3, v4] (.inr (.inr w) :: st) I J := ge (A := (2, 48, 0, 0, 0)) rfl
set_option maxRecDepth 10000 in
theorem g_116_48 : GO x d 116 Q 48 [v0, v1, v2, v3, v4] st I J = GO x d 116 Q 49 [v0, v1, v2, v3, v4] (.inl (0) :: st) I J := ge (A := (0, 49, 0, 0, 0)) rfl
set_option maxRecDepth 10000 in
theorem g_116_49 : GO x d 116 Q 49 [v0, v1, v2, v3, v4] (.inl a :: .inr (.inr (.inl r)) :: st) I J = (okO r 10 ∧ GO x d 116 Q 52 [v0, v1, v2, v3, v4] st (up I r 13 a) J) := ge (A := (40, 52, 10, 13, 0)) rfl
set_option maxRecDepth 10000 in
theorem g_116_52 : GO x d 116 Q 52 [some (.inr (.inr w)), v1, v2, v3, v4] st I J = GO x d 116 Q 53 [some (.inr (.inr w)), v1, v2, v3, v4] (.inr (.inr w) :: st) I J := ge (A := (2, 53, 0, 0, 0)) rfl
set_option maxRecDepth 10000 in
theorem g_116_53 : GO x d 116 Q 53 [v0, v1, v2, v3, v4] (.inr (.inr (.inl r)) :: st) I J = (okF r 10 8 ∧ GO x d 116 Q 56 [v0, v1, v2, v3, v4] (.inr (.inr (.inl (rfN r 8))) :: st) I J) := (ge (A := (39, 56, 10, 8, 0)) rfl).trans (gref (f := fun q => GO x d 116 Q 56 [v0, v1, v2, v3, v4] (.inr (.inr (.inl q)) :: st) I J))
set_option maxRecDepth 10000 in
theorem g_116_56 : GO x d 116 Q 56 [v0, some (.inl a), v2, v3, v4] st I J = GO x d 116 Q 57 [v0, some (.inl a), v2, v3, v4] (.inl a :: st) I J := ge (A := (1, 57, 1, 0, 0)) rfl
set_option maxRecDepth 10000 in
theorem h_116_57 : GO x d 116 Q 57 [v0, v1, v2, v3, v4] (.inl a :: .inr (.inr (.inr q)) :: st) I J = (q < 4 ∧ 0 ≤ a ∧ a < (roA x q).1 ∧ GO x d 116 Q 58 [v0, v1, v2, v3, v4] (.inl ((roA x q).2 a.toNat) :: st) I J) := ge (A := (44, 58, 0, 0, 0)) rfl
set_option maxRecDepth 10000 in
theorem g_116_57 : GO x d 116 Q 57 [v0, v1, v2, v3, v4] (.inl a :: .inr (.inr (.inl r)) :: st) I J = (okA r 20 ∧ 0 ≤ a ∧ a < lnN r ∧ GO x d 116 Q 58 [v0, v1, v2, v3, v4] (.inl (I r a) :: st) I J) := ge (A := (44, 58, 0, 0, 0)) rfl
set_option maxRecDepth 10000 in
theorem g_116_58 : GO x d 116 Q 58 [v0, v1, v2, v3, v4] st I J = GO x d 116 Q 59 [v0, v1, v2, v3, v4] (.inl (1) :: st) I J := ge (A := (0, 59, 0, 0, 1)) rfl
set_option maxRecDepth 10000 in
theorem g_116_59 : GO x d 116 Q 59 [v0, v1, v2, v3, v4] (.inl b :: .inl a :: st) I J = (inR a ∧ inR b ∧ if a = b then GO x d 116 Q 62 [v0, v1, v2, v3, v4] st I J else GO x d 116 Q 67 [v0, v1, v2, v3, v4] st I J) := (ge (A := (34, 62, 67, 1, 0)) rfl).trans (gicn (p := a = b) inferInstance)
set_option maxRecDepth 10000 in
theorem g_116_62 : GO x d 116 Q 62 [v0, v1, v2, some (.inl a), v4] st I J = GO x d 116 Q 63 [v0, v1, v2, some (.inl a), v4] (.inl a :: st) I J := ge (A := (1, 63, 3, 0, 0)) rfl
set_option maxRecDepth 10000 in
theorem g_116_63 : GO x d 116 Q 63 [v0, v1, v2, v3, v4] (.inl a :: st) I J = GO x d 116 Q 64 [v0, v1, v2, v3, v4] (.inl (b8 a) :: st) I J := ge (A := (20, 64, 0, 0, 0)) rfl
set_option maxRecDepth 10000 in
theorem g_116_64 : GO x d 116 Q 64 [v0, v1, v2, v3, v4] st I J = GO x d 116 Q 83 [v0, v1, v2, v3, v4] st I J := ge (A := (35, 67, 83, 0, 0)) rfl
set_option maxRecDepth 10000 in
theorem g_116_67 : GO x d 116 Q 67 [some (.inr (.inr w)), v1, v2, v3, v4] st I J = GO x d 116 Q 68 [some (.inr (.inr w)), v1, v2, v3, v4] (.inr (.inr w) :: st) I J := ge (A := (2, 68, 0, 0, 0)) rfl
set_option maxRecDepth 10000 in
theorem g_116_68 : GO x d 116 Q 68 [v0, v1, v2, v3, v4] (.inr (.inr (.inl r)) :: st) I J = (okF r 10 8 ∧ GO x d 116 Q 71 [v0, v1, v2, v3, v4] (.inr (.inr (.inl (rfN r 8))) :: st) I J) := (ge (A := (39, 71, 10, 8, 0)) rfl).trans (gref (f := fun q => GO x d 116 Q 71 [v0, v1, v2, v3, v4] (.inr (.inr (.inl q)) :: st) I J))
set_option maxRecDepth 10000 in
theorem g_116_71 : GO x d 116 Q 71 [v0, some (.inl a), v2, v3, v4] st I J = GO x d 116 Q 72 [v0, some (.inl a), v2, v3, v4] (.inl a :: st) I J := ge (A := (1, 72, 1, 0, 0)) rfl
set_option maxRecDepth 10000 in
theorem h_116_72 : GO x d 116 Q 72 [v0, v1, v2, v3, v4] (.inl a :: .inr (.inr (.inr q)) :: st) I J = (q < 4 ∧ 0 ≤ a ∧ a < (roA x q).1 ∧ GO x d 116 Q 73 [v0, v1, v2, v3, v4] (.inl ((roA x q).2 a.toNat) :: st) I J) := ge (A := (44, 73, 0, 0, 0)) rfl
set_option maxRecDepth 10000 in
theorem g_116_72 : GO x d 116 Q 72 [v0, v1, v2, v3, v4] (.inl a :: .inr (.inr (.inl r)) :: st) I J = (okA r 20 ∧ 0 ≤ a ∧ a < lnN r ∧ GO x d 116 Q 73 [v0, v1, v2, v3, v4] (.inl (I r a) :: st) I J) := ge (A := (44, 73, 0, 0, 0)) rfl
set_option maxRecDepth 10000 in
theorem g_116_73 : GO x d 116 Q 73 [v0, v1, v2, v3, v4] st I J = GO x d 116 Q 74 [v0, v1, v2, v3, v4] (.inl (2) :: st) I J := ge (A := (0, 74, 0, 0, 2)) rfl
set_option maxRecDepth 10000 in
theorem g_116_74 : GO x d 116 Q 74 [v0, v1, v2, v3, v4] (.inl b :: .inl a :: st) I J = (inR a ∧ inR b ∧ if a = b then GO x d 116 Q 77 [v0, v1, v2, v3, v4] st I J else GO x d 116 Q 82 [v0, v1, v2, v3, v4] st I J) := (ge (A := (34, 77, 82, 1, 0)) rfl).trans (gicn (p := a = b) inferInstance)
set_option maxRecDepth 10000 in
theorem g_116_77 : GO x d 116 Q 77 [v0, v1, v2, some (.inl a), v4] st I J = GO x d 116 Q 78 [v0, v1, v2, some (.inl a), v4] (.inl a :: st) I J := ge (A := (1, 78, 3, 0, 0)) rfl
set_option maxRecDepth 10000 in
theorem g_116_78 : GO x d 116 Q 78 [v0, v1, v2, v3, v4] (.inl a :: st) I J = GO x d 116 Q 79 [v0, v1, v2, v3, v4] (.inl (b16 a) :: st) I J := ge (A := (21, 79, 0, 0, 0)) rfl
set_option maxRecDepth 10000 in
theorem g_116_79 : GO x d 116 Q 79 [v0, v1, v2, v3, v4] st I J = GO x d 116 Q 83 [v0, v1, v2, v3, v4] st I J := ge (A := (35, 82, 83, 0, 0)) rfl
set_option maxRecDepth 10000 in
theorem g_116_82 : GO x d 116 Q 82 [v0, v1, v2, some (.inl a), v4] st I J = GO x d 116 Q 83 [v0, v1, v2, some (.inl a), v4] (.inl a :: st) I J := ge (A := (1, 83, 3, 0, 0)) rfl
set_option maxRecDepth 10000 in
theorem g_116_83 : GO x d 116 Q 83 [v0, v1, v2, v3, v4] (.inl a :: st) I J = (nlO (some v3) = true ∧ GO x d 116 Q 85 [v0, v1, v2, v3, some (.inl a)] st I J) := (ge (A := (4, 85, 4, 0, 0)) rfl).trans (gst (Nat.le_of_ble_eq_true rfl) _)
set_option maxRecDepth 10000 in
theorem g_116_85 : GO x d 116 Q 85 [some (.inr (.inr w)), v1, v2, v3, v4] st I J = GO x d 116 Q 86 [some (.inr (.inr w)), v1, v2, v3, v4] (.inr (.inr w) :: st) I J := ge (A := (2, 86, 0, 0, 0)) rfl
set_option maxRecDepth 10000 in
theorem g_116_86 : GO x d 116 Q 86 [v0, v1, v2, v3, v4] (.inr (.inr (.inl r)) :: st) I J = (okF r 10 10 ∧ GO x d 116 Q 89 [v0, v1, v2, v3, v4] (.inr (.inr (.inl (rfN r 10))) :: st) I J) := (ge (A := (39, 89, 10, 10, 0)) rfl).trans (gref (f := fun q => GO x d 116 Q 89 [v0, v1, v2, v3, v4] (.inr (.inr (.inl q)) :: st) I J))
set_option maxRecDepth 10000 in
theorem g_116_89 : GO x d 116 Q 89 [v0, v1, v2, v3, v4] st I J = GO x d 116 Q 91 [v0, v1, v2, v3, v4] (.inl (40) :: st) I J := ge (A := (0, 91, 0, 0, 40)) rfl
set_option maxRecDepth 10000 in
theorem g_116_91 : GO x d 116 Q 91 [v0, some (.inl a), v2, v3, v4] st I J = GO x d 116 Q 92 [v0, some (.inl a), v2, v3, v4] (.inl a :: st) I J := ge (A := (1, 92, 1, 0, 0)) rfl
set_option maxRecDepth 10000 in
theorem g_116_92 : GO x d 116 Q 92 [v0, v1, v2, v3, v4] (.inl b :: .inl a :: st) I J = GO x d 116 Q 93 [v0, v1, v2, v3, v4] (.inl (a * b) :: st) I J := ge (A := (10, 93, 0, 0, 0)) rfl
set_option maxRecDepth 10000 in
theorem g_116_93 : GO x d 116 Q 93 [v0, v1, some (.inl a), v3, v4] st I J = GO x d 116 Q 94 [v0, v1, some (.inl a), v3, v4] (.inl a :: st) I J := ge (A := (1, 94, 2, 0, 0)) rfl
set_option maxRecDepth 10000 in
theorem g_116_94 : GO x d 116 Q 94 [v0, v1, v2, v3, v4] (.inl b :: .inl a :: st) I J = GO x d 116 Q 95 [v0, v1, v2, v3, v4] (.inl (a + b) :: st) I J := ge (A := (8, 95, 0, 0, 0)) rfl
set_option maxRecDepth 10000 in
theorem g_116_95 : GO x d 116 Q 95 [v0, v1, v2, v3, some (.inl a)] st I J = GO x d 116 Q 97 [v0, v1, v2, v3, some (.inl a)] (.inl a :: st) I J := ge (A := (1, 97, 4, 0, 0)) rfl
set_option maxRecDepth 10000 in
theorem g_116_97 : GO x d 116 Q 97 [v0, v1, v2, v3, v4] (.inl b :: .inl a :: .inr (.inr (.inl r)) :: st) I J = (okA r 20 ∧ 0 ≤ a ∧ a < lnN r ∧ GO x d 116 Q 98 [v0, v1, v2, v3, v4] st (up I r a b) J) := ge (A := (45, 98, 0, 0, 0)) rfl
set_option maxRecDepth 10000 in
theorem g_116_98 : GO x d 116 Q 98 [v0, v1, v2, v3, some (.inl a)] st I J = GO x d 116 Q 100 [v0, v1, v2, v3, some (.inl a)] (.inl a :: st) I J := ge (A := (1, 100, 4, 0, 0)) rfl
set_option maxRecDepth 10000 in
theorem g_116_100 : GO x d 116 Q 100 [v0, v1, v2, v3, v4] [.inl a] I J = Q (some (.inl a)) I J := ge (A := (55, 101, 0, 0, 0)) rfl
set_option maxRecDepth 10000 in
theorem e_116 : EX x (d + 1) 116 [.inr (.inr w0), .inl i0, .inl i1, .inl i2] I J Q = GO x d 116 Q 0 [some (.inr (.inr w0)), some (.inl i0), some (.inl i1), some (.inl i2), none] [] I J := ex_eq (Nat.le_of_ble_eq_true rfl) rfl (Nat.le_of_ble_eq_true rfl) rfl
set_option maxRecDepth 10000 in
theorem g_117_0 : GO x d 117 Q 0 [some (.inl a), v1, v2] st I J = GO x d 117 Q 1 [some (.inl a), v1, v2] (.inl a :: st) I J := ge (A := (1, 1, 0, 0, 0)) rfl
set_option maxRecDepth 10000 in
theorem g_117_1 : GO x d 117 Q 1 [v0, v1, v2] (.inl a :: st) I J = (inR a ∧ if a < 0 then GO x d 117 Q 15 [v0, v1, v2] st I J else GO x d 117 Q 4 [v0, v1, v2] st I J) := (ge (A := (33, 4, 15, 2, 0)) rfl).trans (gif (p := a < 0) inferInstance)
set_option maxRecDepth 10000 in
theorem g_117_4 : GO x d 117 Q 4 [v0, some (.inl a), v2] st I J = GO x d 117 Q 5 [v0, some (.inl a), v2] (.inl a :: st) I J := ge (A := (1, 5, 1, 0, 0)) rfl
set_option maxRecDepth 10000 in
theorem g_117_5 : GO x d 117 Q 5 [v0, v1, v2] (.inl a :: st) I J = (inR a ∧ if a < 0 then GO x d 117 Q 15 [v0, v1, v2] st I J else GO x d 117 Q 8 [v0, v1, v2] st I J) := (ge (A := (33, 8, 15, 2, 0)) rfl).trans (gif (p := a < 0) inferInstance)
set_option maxRecDepth 10000 in
theorem g_117_8 : GO x d 117 Q 8 [v0, some (.inl a), v2] st I J = GO x d 117 Q 9 [v0, some (.inl a), v2] (.inl a :: st) I J := ge (A := (1, 9, 1, 0, 0)) rfl
set_option maxRecDepth 10000 in
theorem g_117_9 : GO x d 117 Q 9 [v0, v1, some (.inl a)] st I J = GO x d 117 Q 10 [v0, v1, some (.inl a)] (.inl a :: st) I J := ge (A := (1, 10, 2, 0, 0)) rfl
set_option maxRecDepth 10000 in
theorem g_117_10 : GO x d 117 Q 10 [some (.inl a), v1, v2] st I J = GO x d 117 Q 11 [some (.inl a), v1, v2] (.inl a :: st) I J := ge (A := (1, 11, 0, 0, 0)) rfl
set_option maxRecDepth 10000 in
theorem g_117_11 : GO x d 117 Q 11 [v0, v1, v2] (.inl b :: .inl a :: st) I J = GO x d 117 Q 12 [v0, v1, v2] (.inl (a - b) :: st) I J := ge (A := (9, 12, 0, 0, 0)) rfl
set_option maxRecDepth 10000 in
theorem g_117_12 : GO x d 117 Q 12 [v0, v1, v2] (.inl b :: .inl a :: st) I J = (inR a ∧ inR b ∧ if b < a then GO x d 117 Q 15 [v0, v1, v2] st I J else GO x d 117 Q 19 [v0, v1, v2] st I J) := (ge (A := (34, 15, 19, 5, 0)) rfl).trans (ggec)
set_option maxRecDepth 10000 in
theorem g_117_15 : GO x d 117 Q 15 [v0, v1, v2] st I J = GO x d 117 Q 16 [v0, v1, v2] (.inl (1) :: st) I J := ge (A := (0, 16, 0, 0, 1)) rfl
set_option maxRecDepth 10000 in
theorem g_117_16 : GO x d 117 Q 16 [v0, v1, v2] st I J = GO x d 117 Q 20 [v0, v1, v2] st I J := ge (A := (35, 19, 20, 0, 0)) rfl
set_option maxRecDepth 10000 in
theorem g_117_19 : GO x d 117 Q 19 [v0, v1, v2] st I J = GO x d 117 Q 20 [v0, v1, v2] (.inl (0) :: st) I J := ge (A := (0, 20, 0, 0, 0)) rfl
set_option maxRecDepth 10000 in
theorem g_117_20 : GO x d 117 Q 20 [v0, v1, v2] [.inl a] I J = (ret01 a ∧ Q (some (.inl a)) I J) := ge (A := (56, 21, 0, 0, 0)) rfl
set_option maxRecDepth 10000 in
theorem e_117 : EX x (d + 1) 117 [.inl i0, .inl i1, .inl i2] I J Q = GO x d 117 Q 0 [some (.inl i0), some (.inl i1), some (.inl i2)] [] I J := ex_eq (Nat.le_of_ble_eq_true rfl) rfl (Nat.le_of_ble_eq_true rfl) rfl
set_option maxRecDepth 10000 in
theorem g_118_0 : GO x d 118 Q 0 [v0, some (.inl a), v2, v3, v4, v5, v6] st I J = GO x d 118 Q 1 [v0, some (.inl a), v2, v3, v4, v5, v6] (.inl a :: st) I J := ge (A := (1, 1, 1, 0, 0)) rfl
set_option maxRecDepth 10000 in
theorem g_118_1 : GO x d 118 Q 1 [v0, v1, v2, v3, v4, v5, v6] [.inl i0] I J = EX x d 113 [.inl i0] I J (fun r1 I1 J1 => GO x d 118 Q 4 [v0, v1, v2, v3, v4, v5, v6] (r1.toList ++ []) I1 J1) := (ge (A := (52, 4, 113, 1, 0)) rfl).trans (gtrue2 (Nat.le_of_ble_eq_true rfl) (Nat.le_of_ble_eq_true rfl))
set_option maxRecDepth 10000 in
theorem g_118_4 : GO x d 118 Q 4 [v0, v1, v2, v3, v4, v5, v6] (.inl a :: st) I J = (inR a ∧ if a = 0 then GO x d 118 Q 14 [v0, v1, v2, v3, v4, v5, v6] st I J else GO x d 118 Q 7 [v0, v1, v2, v3, v4, v5, v6] st I J) := (ge (A := (33, 7, 14, 0, 0)) rfl).trans (gif (p := a = 0) inferInstance)
set_option maxRecDepth 10000 in
theorem g_118_7 : GO x d 118 Q 7 [v0, v1, v2, some (.inl a), v4, v5, v6] st I J = GO x d 118 Q 8 [v0, v1, v2, some (.inl a), v4, v5, v6] (.inl a :: st) I J := ge (A := (1, 8, 3, 0, 0)) rfl
set_option maxRecDepth 10000 in
theorem g_118_8 : GO x d 118 Q 8 [v0, v1, v2, v3, v4, v5, v6] [.inl i0] I J = EX x d 113 [.inl i0] I J (fun r1 I1 J1 => GO x d 118 Q 11 [v0, v1, v2, v3, v4, v5, v6] (r1.toList ++ []) I1 J1) := (ge (A := (52, 11, 113, 1, 0)) rfl).trans (gtrue2 (Nat.le_of_ble_eq_true rfl) (Nat.le_of_ble_eq_true rfl))
set_option maxRecDepth 10000 in
theorem g_118_11 : GO x d 118 Q 11 [v0, v1, v2, v3, v4, v5, v6] (.inl a :: st) I J = (inR a ∧ if a = 0 then GO x d 118 Q 14 [v0, v1, v2, v3, v4, v5, v6] st I J else GO x d 118 Q 17 [v0, v1, v2, v3, v4, v5, v6] st I J) := (ge (A := (33, 14, 17, 1, 0)) rfl).trans (gifn (p := a = 0) inferInstance)
set_option maxRecDepth 10000 in
theorem g_118_14 : GO x d 118 Q 14 [v0, v1, v2, v3, v4, v5, v6] st I J = GO x d 118 Q 16 [v0, v1, v2, v3, v4, v5, v6] (.inl (-1000001) :: st) I J := ge (A := (0, 16, 0, 0, -1000001)) rfl
set_option maxRecDepth 10000 in
theorem g_118_16 : GO x d 118 Q 16 [v0, v1, v2, v3, v4, v5, v6] [.inl a] I J = Q (some (.inl a)) I J := ge (A := (55, 17, 0, 0, 0)) rfl
set_option maxRecDepth 10000 in
theorem g_118_17 : GO x d 118 Q 17 [some (.inr (.inr w)), v1, v2, v3, v4, v5, v6] st I J = GO x d 118 Q 18 [some (.inr (.inr w)), v1, v2, v3, v4, v5, v6] (.inr (.inr w) :: st) I J := ge (A := (2, 18, 0, 0, 0)) rfl
set_option maxRecDepth 10000 in
theorem g_118_18 : GO x d 118 Q 18 [v0, v1, v2, v3, v4, v5, v6] (.inr (.inr (.inl r)) :: st) I J = (okF r 10 8 ∧ GO x d 118 Q 21 [v0, v1, v2, v3, v4, v5, v6] (.inr (.inr (.inl (rfN r 8))) :: st) I J) := (ge (A := (39, 21, 10, 8, 0)) rfl).trans (gref (f := fun q => GO x d 118 Q 21 [v0, v1, v2, v3, v4, v5, v6] (.inr (.inr (.inl q)) :: st) I J))
set_option maxRecDepth 10000 in
theorem g_118_21 : GO x d 118 Q 21 [v0, some (.inl a), v2, v3, v4, v5, v6] st I J = GO x d 118 Q 22 [v0, some (.inl a), v2, v3, v4, v5, v6] (.inl a :: st) I J := ge (A := (1, 22, 1, 0, 0)) rfl
set_option maxRecDepth 10000 in
theorem h_118_22 : GO x d 118 Q 22 [v0, v1, v2, v3, v4, v5, v6] (.inl a :: .inr (.inr (.inr q)) :: st) I J = (q < 4 ∧ 0 ≤ a ∧ a < (roA x q).1 ∧ GO x d 118 Q 23 [v0, v1, v2, v3, v4, v5, v6] (.inl ((roA x q).2 a.toNat) :: st) I J) := ge (A := (44, 23, 0, 0, 0)) rfl
set_option maxRecDepth 10000 in
theorem g_118_22 : GO x d 118 Q 22 [v0, v1, v2, v3, v4, v5, v6] (.inl a :: .inr (.inr (.inl r)) :: st) I J = (okA r 20 ∧ 0 ≤ a ∧ a < lnN r ∧ GO x d 118 Q 23 [v0, v1, v2, v3, v4, v5, v6] (.inl (I r a) :: st) I J) := ge (A := (44, 23, 0, 0, 0)) rfl
set_option maxRecDepth 10000 in
theorem g_118_23 : GO x d 118 Q 23 [v0, v1, v2, v3, v4, v5, v6] (.inl a :: st) I J = (inR a ∧ if a = 0 then GO x d 118 Q 35 [v0, v1, v2, v3, v4, v5, v6] st I J else GO x d 118 Q 26 [v0, v1, v2, v3, v4, v5, v6] st I J) := (ge (A := (33, 26, 35, 0, 0)) rfl).trans (gif (p := a = 0) inferInstance)
set_option maxRecDepth 10000 in
theorem g_118_26 : GO x d 118 Q 26 [some (.inr (.inr w)), v1, v2, v3, v4, v5, v6] st I J = GO x d 118 Q 27 [some (.inr (.inr w)), v1, v2, v3, v4, v5, v6] (.inr (.inr w) :: st) I J := ge (A := (2, 27, 0, 0, 0)) rfl
set_option maxRecDepth 10000 in
theorem g_118_27 : GO x d 118 Q 27 [v0, v1, v2, v3, v4, v5, v6] (.inr (.inr (.inl r)) :: st) I J = (okF r 10 8 ∧ GO x d 118 Q 30 [v0, v1, v2, v3, v4, v5, v6] (.inr (.inr (.inl (rfN r 8))) :: st) I J) := (ge (A := (39, 30, 10, 8, 0)) rfl).trans (gref (f := fun q => GO x d 118 Q 30 [v0, v1, v2, v3, v4, v5, v6] (.inr (.inr (.inl q)) :: st) I J))
set_option maxRecDepth 10000 in
theorem g_118_30 : GO x d 118 Q 30 [v0, v1, v2, some (.inl a), v4, v5, v6] st I J = GO x d 118 Q 31 [v0, v1, v2, some (.inl a), v4, v5, v6] (.inl a :: st) I J := ge (A := (1, 31, 3, 0, 0)) rfl
set_option maxRecDepth 10000 in
theorem h_118_31 : GO x d 118 Q 31 [v0, v1, v2, v3, v4, v5, v6] (.inl a :: .inr (.inr (.inr q)) :: st) I J = (q < 4 ∧ 0 ≤ a ∧ a < (roA x q).1 ∧ GO x d 118 Q 32 [v0, v1, v2, v3, v4, v5, v6] (.inl ((roA x q).2 a.toNat) :: st) I J) := ge (A := (44, 32, 0, 0, 0)) rfl
set_option maxRecDepth 10000 in
theorem g_118_31 : GO x d 118 Q 31 [v0, v1, v2, v3, v4, v5, v6] (.inl a :: .inr (.inr (.inl r)) :: st) I J = (okA r 20 ∧ 0 ≤ a ∧ a < lnN r ∧ GO x d 118 Q 32 [v0, v1, v2, v3, v4, v5, v6] (.inl (I r a) :: st) I J) := ge (A := (44, 32, 0, 0, 0)) rfl
set_option maxRecDepth 10000 in
theorem g_118_32 : GO x d 118 Q 32 [v0, v1, v2, v3, v4, v5, v6] (.inl a :: st) I J = (inR a ∧ if a = 0 then GO x d 118 Q 35 [v0, v1, v2, v3, v4, v5, v6] st I J else GO x d 118 Q 41 [v0, v1, v2, v3, v4, v5, v6] st I J) := (ge (A := (33, 35, 41, 1, 0)) rfl).trans (gifn (p := a = 0) inferInstance)
set_option maxRecDepth 10000 in
theorem g_118_35 : GO x d 118 Q 35 [some (.inr (.inr w)), v1, v2, v3, v4, v5, v6] st I J = GO x d 118 Q 36 [some (.inr (.inr w)), v1, v2, v3, v4, v5, v6] (.inr (.inr w) :: st) I J := ge (A := (2, 36, 0, 0, 0)) rfl
set_option maxRecDepth 10000 in
theorem g_118_36 : GO x d 118 Q 36 [v0, v1, v2, v3, v4, v5, v6] st I J = GO x d 118 Q 37 [v0, v1, v2, v3, v4, v5, v6] (.inl (1) :: st) I J := ge (A := (0, 37, 0, 0, 1)) rfl
set_option maxRecDepth 10000 in
theorem g_118_37 : GO x d 118 Q 37 [v0, v1, v2, v3, v4, v5, v6] [.inl i0, .inr (.inr (.inl r))] I J = (okO r 10 ∧ EX x d 114 [.inr (.inr (.inl r)), .inl i0] I J (fun r1 I1 J1 => GO x d 118 Q 40 [v0, v1, v2, v3, v4, v5, v6] (r1.toList ++ []) I1 J1)) := (ge (A := (53, 40, 114, 1, 0)) rfl).trans (gtrue (Nat.le_of_ble_eq_true rfl))
set_option maxRecDepth 10000 in
theorem g_118_40 : GO x d 118 Q 40 [v0, v1, v2, v3, v4, v5, v6] [.inl a] I J = Q (some (.inl a)) I J := ge (A := (55, 41, 0, 0, 0)) rfl
set_option maxRecDepth 10000 in
theorem g_118_41 : GO x d 118 Q 41 [some (.inr (.inr w)), v1, v2, v3, v4, v5, v6] st I J = GO x d 118 Q 42 [some (.inr (.inr w)), v1, v2, v3, v4, v5, v6] (.inr (.inr w) :: st) I J := ge (A := (2, 42, 0, 0, 0)) rfl
set_option maxRecDepth 10000 in
theorem g_118_42 : GO x d 118 Q 42 [v0, v1, v2, v3, v4, v5, v6] (.inr (.inr (.inl r)) :: st) I J = (okF r 10 8 ∧ GO x d 118 Q 45 [v0, v1, v2, v3, v4, v5, v6] (.inr (.inr (.inl (rfN r 8))) :: st) I J) := (ge (A := (39, 45, 10, 8, 0)) rfl).trans (gref (f := fun q => GO x d 118 Q 45 [v0, v1, v2, v3, v4, v5, v6] (.inr (.inr (.inl q)) :: st) I J))
set_option maxRecDepth 10000 in
theorem g_118_45 : GO x d 118 Q 45 [v0, some (.inl a), v2, v3, v4, v5, v6] st I J = GO x d 118 Q 46 [v0, some (.inl a), v2, v3, v4, v5, v6] (.inl a :: st) I J := ge (A := (1, 46, 1, 0, 0)) rfl
set_option maxRecDepth 10000 in
theorem h_118_46 : GO x d 118 Q 46 [v0, v1, v2, v3, v4, v5, v6] (.inl a :: .inr (.inr (.inr q)) :: st) I J = (q < 4 ∧ 0 ≤ a ∧ a < (roA x q).1 ∧ GO x d 118 Q 47 [v0, v1, v2, v3, v4, v5, v6] (.inl ((roA x q).2 a.toNat) :: st) I J) := ge (A := (44, 47, 0, 0, 0)) rfl
set_option maxRecDepth 10000 in
theorem g_118_46 : GO x d 118 Q 46 [v0, v1, v2, v3, v4, v5, v6] (.inl a :: .inr (.inr (.inl r)) :: st) I J = (okA r 20 ∧ 0 ≤ a ∧ a < lnN r ∧ GO x d 118 Q 47 [v0, v1, v2, v3, v4, v5, v6] (.inl (I r a) :: st) I J) := ge (A := (44, 47, 0, 0, 0)) rfl
set_option maxRecDepth 10000 in
theorem g_118_47 : GO x d 118 Q 47 [some (.inr (.inr w)), v1, v2, v3, v4, v5, v6] st I J = GO x d 118 Q 48 [some (.inr (.inr w)), v1, v2, v3, v4, v5, v6] (.inr (.inr w) :: st) I J := ge (A := (2, 48, 0, 0, 0)) rfl
set_option maxRecDepth 10000 in
theorem g_118_48 : GO x d 118 Q 48 [v0, v1, v2, v3, v4, v5, v6] (.inr (.inr (.inl r)) :: st) I J = (okF r 10 8 ∧ GO x d 118 Q 51 [v0, v1, v2, v3, v4, v5, v6] (.inr (.inr (.inl (rfN r 8))) :: st) I J) := (ge (A := (39, 51, 10, 8, 0)) rfl).trans (gref (f := fun q => GO x d 118 Q 51 [v0, v1, v2, v3, v4, v5, v6] (.inr (.inr (.inl q)) :: st) I J))
set_option maxRecDepth 10000 in
theorem g_118_51 : GO x d 118 Q 51 [v0, v1, v2, some (.inl a), v4, v5, v6] st I J = GO x d 118 Q 52 [v0, v1, v2, some (.inl a), v4, v5, v6] (.inl a :: st) I J := ge (A := (1, 52, 3, 0, 0)) rfl
set_option maxRecDepth 10000 in
theorem h_118_52 : GO x d 118 Q 52 [v0, v1, v2, v3, v4, v5, v6] (.inl a :: .inr (.inr (.inr q)) :: st) I J = (q < 4 ∧ 0 ≤ a ∧ a < (roA x q).1 ∧ GO x d 118 Q 53 [v0, v1, v2, v3, v4, v5, v6] (.inl ((roA x q).2 a.toNat) :: st) I J) := ge (A := (44, 53, 0, 0, 0)) rfl
set_option maxRecDepth 10000 in
theorem g_118_52 : GO x d 118 Q 52 [v0, v1, v2, v3, v4, v5, v6] (.inl a :: .inr (.inr (.inl r)) :: st) I J = (okA r 20 ∧ 0 ≤ a ∧ a < lnN r ∧ GO x d 118 Q 53 [v0, v1, v2, v3, v4, v5, v6] (.inl (I r a) :: st) I J) := ge (A := (44, 53, 0, 0, 0)) rfl
set_option maxRecDepth 10000 in
theorem g_118_53 : GO x d 118 Q 53 [v0, v1, v2, v3, v4, v5, v6] (.inl b :: .inl a :: st) I J = (inR a ∧ inR b ∧ if a = b then GO x d 118 Q 62 [v0, v1, v2, v3, v4, v5, v6] st I J else GO x d 118 Q 56 [v0, v1, v2, v3, v4, v5, v6] st I J) := (ge (A := (34, 56, 62, 0, 0)) rfl).trans (gic (p := a = b) inferInstance)
set_option maxRecDepth 10000 in
theorem g_118_56 : GO x d 118 Q 56 [some (.inr (.inr w)), v1, v2, v3, v4, v5, v6] st I J = GO x d 118 Q 57 [some (.inr (.inr w)), v1, v2, v3, v4, v5, v6] (.inr (.inr w) :: st) I J := ge (A := (2, 57, 0, 0, 0)) rfl
set_option maxRecDepth 10000 in
theorem g_118_57 : GO x d 118 Q 57 [v0, v1, v2, v3, v4, v5, v6] st I J = GO x d 118 Q 58 [v0, v1, v2, v3, v4, v5, v6] (.inl (5) :: st) I J := ge (A := (0, 58, 0, 0, 5)) rfl
set_option maxRecDepth 10000 in
theorem g_118_58 : GO x d 118 Q 58 [v0, v1, v2, v3, v4, v5, v6] [.inl i0, .inr (.inr (.inl r))] I J = (okO r 10 ∧ EX x d 114 [.inr (.inr (.inl r)), .inl i0] I J (fun r1 I1 J1 => GO x d 118 Q 61 [v0, v1, v2, v3, v4, v5, v6] (r1.toList ++ []) I1 J1)) := (ge (A := (53, 61, 114, 1, 0)) rfl).trans (gtrue (Nat.le_of_ble_eq_true rfl))
set_option maxRecDepth 10000 in
theorem g_118_61 : GO x d 118 Q 61 [v0, v1, v2, v3, v4, v5, v6] [.inl a] I J = Q (some (.inl a)) I J := ge (A := (55, 62, 0, 0, 0)) rfl
set_option maxRecDepth 10000 in
theorem g_118_62 : GO x d 118 Q 62 [v0, v1, some (.inl a), v3, v4, v5, v6] st I J = GO x d 118 Q 63 [v0, v1, some (.inl a), v3, v4, v5, v6] (.inl a :: st) I J := ge (A := (1, 63, 2, 0, 0)) rfl
set_option maxRecDepth 10000 in
theorem g_118_63 : GO x d 118 Q 63 [v0, v1, v2, v3, v4, some (.inl a), v6] st I J = GO x d 118 Q 65 [v0, v1, v2, v3, v4, some (.inl a), v6] (.inl a :: st) I J := ge (A := (1, 65, 5, 0, 0)) rfl
set_option maxRecDepth 10000 in
theorem g_118_65 : GO x d 118 Q 65 [some (.inr (.inr w)), v1, v2, v3, v4, v5, v6] st I J = GO x d 118 Q 66 [some (.inr (.inr w)), v1, v2, v3, v4, v5, v6] (.inr (.inr w) :: st) I J := ge (A := (2, 66, 0, 0, 0)) rfl
set_option maxRecDepth 10000 in
theorem g_118_66 : GO x d 118 Q 66 [v0, v1, v2, v3, v4, v5, v6] (.inr (.inr (.inl r)) :: st) I J = (okF r 10 9 ∧ GO x d 118 Q 69 [v0, v1, v2, v3, v4, v5, v6] (.inr (.inr (.inl (rfN r 9))) :: st) I J) := (ge (A := (39, 69, 10, 9, 0)) rfl).trans (gref (f := fun q => GO x d 118 Q 69 [v0, v1, v2, v3, v4, v5, v6] (.inr (.inr (.inl q)) :: st) I J))
set_option maxRecDepth 10000 in
theorem g_118_69 : GO x d 118 Q 69 [v0, some (.inl a), v2, v3, v4, v5, v6] st I J = GO x d 118 Q 70 [v0, some (.inl a), v2, v3, v4, v5, v6] (.inl a :: st) I J := ge (A := (1, 70, 1, 0, 0)) rfl
set_option maxRecDepth 10000 in
theorem h_118_70 : GO x d 118 Q 70 [v0, v1, v2, v3, v4, v5, v6] (.inl a :: .inr (.inr (.inr q)) :: st) I J = (q < 4 ∧ 0 ≤ a ∧ a < (roA x q).1 ∧ GO x d 118 Q 71 [v0, v1, v2, v3, v4, v5, v6] (.inl ((roA x q).2 a.toNat) :: st) I J) := ge (A := (44, 71, 0, 0, 0)) rfl
set_option maxRecDepth 10000 in
theorem g_118_70 : GO x d 118 Q 70 [v0, v1, v2, v3, v4, v5, v6] (.inl a :: .inr (.inr (.inl r)) :: st) I J = (okA r 20 ∧ 0 ≤ a ∧ a < lnN r ∧ GO x d 118 Q 71 [v0, v1, v2, v3, v4, v5, v6] (.inl (I r a) :: st) I J) := ge (A := (44, 71, 0, 0, 0)) rfl
set_option maxRecDepth 10000 in
theorem g_118_71 : GO x d 118 Q 71 [v0, v1, v2, v3, v4, v5, v6] [.inl i0, .inl i1, .inl i2] I J = EX x d 117 [.inl i2, .inl i1, .inl i0] I J (fun r1 I1 J1 => GO x d 118 Q 74 [v0, v1, v2, v3, v4, v5, v6] (r1.toList ++ []) I1 J1) := (ge (A := (52, 74, 117, 3, 0)) rfl).trans (gtrue2 (Nat.le_of_ble_eq_true rfl) (Nat.le_of_ble_eq_true rfl))
set_option maxRecDepth 10000 in
theorem g_118_74 : GO x d 118 Q 74 [v0, v1, v2, v3, v4, v5, v6] (.inl a :: st) I J = (inR a ∧ if a = 0 then GO x d 118 Q 77 [v0, v1, v2, v3, v4, v5, v6] st I J else GO x d 118 Q 93 [v0, v1, v2, v3, v4, v5, v6] st I J) := (ge (A := (33, 77, 93, 1, 0)) rfl).trans (gifn (p := a = 0) inferInstance)
set_option maxRecDepth 10000 in
theorem g_118_77 : GO x d 118 Q 77 [v0, v1, v2, v3, some (.inl a), v5, v6] st I J = GO x d 118 Q 79 [v0, v1, v2, v3, some (.inl a), v5, v6] (.inl a :: st) I J := ge (A := (1, 79, 4, 0, 0)) rfl
set_option maxRecDepth 10000 in
theorem g_118_79 : GO x d 118 Q 79 [v0, v1, v2, v3, v4, some (.inl a), v6] st I J = GO x d 118 Q 81 [v0, v1, v2, v3, v4, some (.inl a), v6] (.inl a :: st) I J := ge (A := (1, 81, 5, 0, 0)) rfl
set_option maxRecDepth 10000 in
theorem g_118_81 : GO x d 118 Q 81 [some (.inr (.inr w)), v1, v2, v3, v4, v5, v6] st I J = GO x d 118 Q 82 [some (.inr (.inr w)), v1, v2, v3, v4, v5, v6] (.inr (.inr w) :: st) I J := ge (A := (2, 82, 0, 0, 0)) rfl
set_option maxRecDepth 10000 in
theorem g_118_82 : GO x d 118 Q 82 [v0, v1, v2, v3, v4, v5, v6] (.inr (.inr (.inl r)) :: st) I J = (okF r 10 9 ∧ GO x d 118 Q 85 [v0, v1, v2, v3, v4, v5, v6] (.inr (.inr (.inl (rfN r 9))) :: st) I J) := (ge (A := (39, 85, 10, 9, 0)) rfl).trans (gref (f := fun q => GO x d 118 Q 85 [v0, v1, v2, v3, v4, v5, v6] (.inr (.inr (.inl q)) :: st) I J))
set_option maxRecDepth 10000 in
theorem g_118_85 : GO x d 118 Q 85 [v0, v1, v2, some (.inl a), v4, v5, v6] st I J = GO x d 118 Q 86 [v0, v1, v2, some (.inl a), v4, v5, v6] (.inl a :: st) I J := ge (A := (1, 86, 3, 0, 0)) rfl
set_option maxRecDepth 10000 in
theorem h_118_86 : GO x d 118 Q 86 [v0, v1, v2, v3, v4, v5, v6] (.inl a :: .inr (.inr (.inr q)) :: st) I J = (q < 4 ∧ 0 ≤ a ∧ a < (roA x q).1 ∧ GO x d 118 Q 87 [v0, v1, v2, v3, v4, v5, v6] (.inl ((roA x q).2 a.toNat) :: st) I J) := ge (A := (44, 87, 0, 0, 0)) rfl
set_option maxRecDepth 10000 in
theorem g_118_86 : GO x d 118 Q 86 [v0, v1, v2, v3, v4, v5, v6] (.inl a :: .inr (.inr (.inl r)) :: st) I J = (okA r 20 ∧ 0 ≤ a ∧ a < lnN r ∧ GO x d 118 Q 87 [v0, v1, v2, v3, v4, v5, v6] (.inl (I r a) :: st) I J) := ge (A := (44, 87, 0, 0, 0)) rfl
set_option maxRecDepth 10000 in
theorem g_118_87 : GO x d 118 Q 87 [v0, v1, v2, v3, v4, v5, v6] [.inl i0, .inl i1, .inl i2] I J = EX x d 117 [.inl i2, .inl i1, .inl i0] I J (fun r1 I1 J1 => GO x d 118 Q 90 [v0, v1, v2, v3, v4, v5, v6] (r1.toList ++ []) I1 J1) := (ge (A := (52, 90, 117, 3, 0)) rfl).trans (gtrue2 (Nat.le_of_ble_eq_true rfl) (Nat.le_of_ble_eq_true rfl))
set_option maxRecDepth 10000 in
theorem g_118_90 : GO x d 118 Q 90 [v0, v1, v2, v3, v4, v5, v6] (.inl a :: st) I J = (inR a ∧ if a = 0 then GO x d 118 Q 99 [v0, v1, v2, v3, v4, v5, v6] st I J else GO x d 118 Q 93 [v0, v1, v2, v3, v4, v5, v6] st I J) := (ge (A := (33, 93, 99, 0, 0)) rfl).trans (gif (p := a = 0) inferInstance)
set_option maxRecDepth 10000 in
theorem g_118_93 : GO x d 118 Q 93 [some (.inr (.inr w)), v1, v2, v3, v4, v5, v6] st I J = GO x d 118 Q 94 [some (.inr (.inr w)), v1, v2, v3, v4, v5, v6] (.inr (.inr w) :: st) I J := ge (A := (2, 94, 0, 0, 0)) rfl
set_option maxRecDepth 10000 in
theorem g_118_94 : GO x d 118 Q 94 [v0, v1, v2, v3, v4, v5, v6] st I J = GO x d 118 Q 95 [v0, v1, v2, v3, v4, v5, v6] (.inl (2) :: st) I J := ge (A := (0, 95, 0, 0, 2)) rfl
set_option maxRecDepth 10000 in
theorem g_118_95 : GO x d 118 Q 95 [v0, v1, v2, v3, v4, v5, v6] [.inl i0, .inr (.inr (.inl r))] I J = (okO r 10 ∧ EX x d 114 [.inr (.inr (.inl r)), .inl i0] I J (fun r1 I1 J1 => GO x d 118 Q 98 [v0, v1, v2, v3, v4, v5, v6] (r1.toList ++ []) I1 J1)) := (ge (A := (53, 98, 114, 1, 0)) rfl).trans (gtrue (Nat.le_of_ble_eq_true rfl))
set_option maxRecDepth 10000 in
theorem g_118_98 : GO x d 118 Q 98 [v0, v1, v2, v3, v4, v5, v6] [.inl a] I J = Q (some (.inl a)) I J := ge (A := (55, 99, 0, 0, 0)) rfl
set_option maxRecDepth 10000 in
theorem g_118_99 : GO x d 118 Q 99 [some (.inr (.inr w)), v1, v2, v3, v4, v5, v6] st I J = GO x d 118 Q 100 [some (.inr (.inr w)), v1, v2, v3, v4, v5, v6] (.inr (.inr w) :: st) I J := ge (A := (2, 100, 0, 0, 0)) rfl
set_option maxRecDepth 10000 in
theorem g_118_100 : GO x d 118 Q 100 [v0, v1, v2, v3, v4, v5, v6] st I J = GO x d 118 Q 101 [v0, v1, v2, v3, v4, v5, v6] (.inl (0) :: st) I J := ge (A := (0, 101, 0, 0, 0)) rfl
set_option maxRecDepth 10000 in
theorem g_118_101 : GO x d 118 Q 101 [v0, v1, v2, v3, v4, v5, v6] (.inl a :: .inr (.inr (.inl r)) :: st) I J = (okO r 10 ∧ GO x d 118 Q 104 [v0, v1, v2, v3, v4, v5, v6] st (up I r 13 a) J) := ge (A := (40, 104, 10, 13, 0)) rfl
set_option maxRecDepth 10000 in
theorem g_118_104 : GO x d 118 Q 104 [v0, v1, v2, v3, v4, v5, v6] st I J = GO x d 118 Q 105 [v0, v1, v2, v3, v4, v5, v6] (.inl (0) :: st) I J := ge (A := (0, 105, 0, 0, 0)) rfl
set_option maxRecDepth 10000 in
theorem g_118_105 : GO x d 118 Q 105 [v0, v1, v2, v3, v4, v5, v6] (.inl a :: st) I J = (nlO (some v5) = true ∧ GO x d 118 Q 107 [v0, v1, v2, v3, v4, v5, some (.inl a)] st I J) := (ge (A := (4, 107, 6, 0, 0)) rfl).trans (gst (Nat.le_of_ble_eq_true rfl) _)
set_option maxRecDepth 10000 in
theorem g_118_107 : GO x d 118 Q 107 [v0, v1, v2, v3, v4, v5, some (.inl a)] st I J = GO x d 118 Q 109 [v0, v1, v2, v3, v4, v5, some (.inl a)] (.inl a :: st) I J := ge (A := (1, 109, 6, 0, 0)) rfl
set_option maxRecDepth 10000 in
theorem g_118_109 : GO x d 118 Q 109 [v0, v1, v2, v3, v4, some (.inl a), v6] st I J = GO x d 118 Q 111 [v0, v1, v2, v3, v4, some (.inl a), v6] (.inl a :: st) I J := ge (A := (1, 111, 5, 0, 0)) rfl
set_option maxRecDepth 10000 in
theorem g_118_111 : GO x d 118 Q 111 [v0, v1, v2, v3, v4, v5, v6] (.inl b :: .inl a :: st) I J = (inR a ∧ inR b ∧ if a < b then GO x d 118 Q 114 [v0, v1, v2, v3, v4, v5, v6] st I J else GO x d 118 Q 141 [v0, v1, v2, v3, v4, v5, v6] st I J) := (ge (A := (34, 114, 141, 3, 0)) rfl).trans (ggec)
set_option maxRecDepth 10000 in
theorem g_118_114 : GO x d 118 Q 114 [some (.inr (.inr w)), v1, v2, v3, v4, v5, v6] st I J = GO x d 118 Q 115 [some (.inr (.inr w)), v1, v2, v3, v4, v5, v6] (.inr (.inr w) :: st) I J := ge (A := (2, 115, 0, 0, 0)) rfl
set_option maxRecDepth 10000 in
theorem g_118_115 : GO x d 118 Q 115 [v0, v1, v2, v3, v4, v5, v6] (.inr (.inr (.inl r)) :: st) I J = (okF r 10 20 ∧ GO x d 118 Q 118 [v0, v1, v2, v3, v4, v5, v6] (.inr (.inr (.inl (rfN r 20))) :: st) I J) := (ge (A := (39, 118, 10, 20, 0)) rfl).trans (gref (f := fun q => GO x d 118 Q 118 [v0, v1, v2, v3, v4, v5, v6] (.inr (.inr (.inl q)) :: st) I J))
set_option maxRecDepth 10000 in
theorem g_118_118 : GO x d 118 Q 118 [v0, v1, v2, v3, v4, v5, some (.inl a)] st I J = GO x d 118 Q 120 [v0, v1, v2, v3, v4, v5, some (.inl a)] (.inl a :: st) I J := ge (A := (1, 120, 6, 0, 0)) rfl
set_option maxRecDepth 10000 in
theorem g_118_120 : GO x d 118 Q 120 [some (.inr (.inr w)), v1, v2, v3, v4, v5, v6] st I J = GO x d 118 Q 121 [some (.inr (.inr w)), v1, v2, v3, v4, v5, v6] (.inr (.inr w) :: st) I J := ge (A := (2, 121, 0, 0, 0)) rfl
set_option maxRecDepth 10000 in
theorem g_118_121 : GO x d 118 Q 121 [v0, v1, v2, v3, v4, v5, v6] (.inr (.inr (.inl r)) :: st) I J = (okF r 10 10 ∧ GO x d 118 Q 124 [v0, v1, v2, v3, v4, v5, v6] (.inr (.inr (.inl (rfN r 10))) :: st) I J) := (ge (A := (39, 124, 10, 10, 0)) rfl).trans (gref (f := fun q => GO x d 118 Q 124 [v0, v1, v2, v3, v4, v5, v6] (.inr (.inr (.inl q)) :: st) I J))
set_option maxRecDepth 10000 in
theorem g_118_124 : GO x d 118 Q 124 [v0, v1, v2, v3, v4, v5, v6] st I J = GO x d 118 Q 126 [v0, v1, v2, v3, v4, v5, v6] (.inl (40) :: st) I J := ge (A := (0, 126, 0, 0, 40)) rfl
set_option maxRecDepth 10000 in
theorem g_118_126 : GO x d 118 Q 126 [v0, some (.inl a), v2, v3, v4, v5, v6] st I J = GO x d 118 Q 127 [v0, some (.inl a), v2, v3, v4, v5, v6] (.inl a :: st) I J := ge (A := (1, 127, 1, 0, 0)) rfl
set_option maxRecDepth 10000 in
theorem g_118_127 : GO x d 118 Q 127 [v0, v1, v2, v3, v4, v5, v6] (.inl b :: .inl a :: st) I J = GO x d 118 Q 128 [v0, v1, v2, v3, v4, v5, v6] (.inl (a * b) :: st) I J := ge (A := (10, 128, 0, 0, 0)) rfl
set_option maxRecDepth 10000 in
theorem g_118_128 : GO x d 118 Q 128 [v0, v1, some (.inl a), v3, v4, v5, v6] st I J = GO x d 118 Q 129 [v0, v1, some (.inl a), v3, v4, v5, v6] (.inl a :: st) I J := ge (A := (1, 129, 2, 0, 0)) rfl
set_option maxRecDepth 10000 in
theorem g_118_129 : GO x d 118 Q 129 [v0, v1, v2, v3, v4, v5, v6] (.inl b :: .inl a :: st) I J = GO x d 118 Q 130 [v0, v1, v2, v3, v4, v5, v6] (.inl (a + b) :: st) I J := ge (A := (8, 130, 0, 0, 0)) rfl
set_option maxRecDepth 10000 in
theorem g_118_130 : GO x d 118 Q 130 [v0, v1, v2, v3, v4, v5, some (.inl a)] st I J = GO x d 118 Q 132 [v0, v1, v2, v3, v4, v5, some (.inl a)] (.inl a :: st) I J := ge (A := (1, 132, 6, 0, 0)) rfl
set_option maxRecDepth 10000 in
theorem g_118_132 : GO x d 118 Q 132 [v0, v1, v2, v3, v4, v5, v6] (.inl b :: .inl a :: st) I J = GO x d 118 Q 133 [v0, v1, v2, v3, v4, v5, v6] (.inl (a + b) :: st) I J := ge (A := (8, 133, 0, 0, 0)) rfl
set_option maxRecDepth 10000 in
theorem h_118_133 : GO x d 118 Q 133 [v0, v1, v2, v3, v4, v5, v6] (.inl a :: .inr (.inr (.inr q)) :: st) I J = (q < 4 ∧ 0 ≤ a ∧ a < (roA x q).1 ∧ GO x d 118 Q 134 [v0, v1, v2, v3, v4, v5, v6] (.inl ((roA x q).2 a.toNat) :: st) I J) := ge (A := (44, 134, 0, 0, 0)) rfl
set_option maxRecDepth 10000 in
theorem g_118_133 : GO x d 118 Q 133 [v0, v1, v2, v3, v4, v5, v6] (.inl a :: .inr (.inr (.inl r)) :: st) I J = (okA r 20 ∧ 0 ≤ a ∧ a < lnN r ∧ GO x d 118 Q 134 [v0, v1, v2, v3, v4, v5, v6] (.inl (I r a) :: st) I J) := ge (A := (44, 134, 0, 0, 0)) rfl
set_option maxRecDepth 10000 in
theorem g_118_134 : GO x d 118 Q 134 [v0, v1, v2, v3, v4, v5, v6] (.inl b :: .inl a :: .inr (.inr (.inl r)) :: st) I J = (okA r 20 ∧ 0 ≤ a ∧ a < lnN r ∧ GO x d 118 Q 135 [v0, v1, v2, v3, v4, v5, v6] st (up I r a b) J) := ge (A := (45, 135, 0, 0, 0)) rfl
set_option maxRecDepth 10000 in
theorem g_118_135 : GO x d 118 Q 135 [v0, v1, v2, v3, v4, v5, some (.inl a)] st I J = (nlO (some v5) = true ∧ GO x d 118 Q 138 [v0, v1, v2, v3, v4, v5, some (.inl (a + (1)))] st I J) := ge (A := (7, 138, 6, 0, 1)) rfl
set_option maxRecDepth 10000 in
theorem g_118_138 : GO x d 118 Q 138 [v0, v1, v2, v3, v4, v5, v6] st I J = GO x d 118 Q 107 [v0, v1, v2, v3, v4, v5, v6] st I J := ge (A := (35, 141, 107, 0, 0)) rfl
set_option maxRecDepth 10000 in
theorem g_118_141 : GO x d 118 Q 141 [v0, v1, v2, v3, v4, v5, v6] st I J = GO x d 118 Q 142 [v0, v1, v2, v3, v4, v5, v6] (.inl (0) :: st) I J := ge (A := (0, 142, 0, 0, 0)) rfl
set_option maxRecDepth 10000 in
theorem g_118_142 : GO x d 118 Q 142 [v0, v1, v2, v3, v4, v5, v6] (.inl a :: st) I J = (nlO (some v5) = true ∧ GO x d 118 Q 144 [v0, v1, v2, v3, v4, v5, some (.inl a)] st I J) := (ge (A := (4, 144, 6, 0, 0)) rfl).trans (gst (Nat.le_of_ble_eq_true rfl) _)
set_option maxRecDepth 10000 in
theorem g_118_144 : GO x d 118 Q 144 [v0, v1, v2, v3, v4, v5, some (.inl a)] st I J = GO x d 118 Q 146 [v0, v1, v2, v3, v4, v5, some (.inl a)] (.inl a :: st) I J := ge (A := (1, 146, 6, 0, 0)) rfl
set_option maxRecDepth 10000 in
theorem g_118_146 : GO x d 118 Q 146 [v0, v1, v2, v3, v4, some (.inl a), v6] st I J = GO x d 118 Q 148 [v0, v1, v2, v3, v4, some (.inl a), v6] (.inl a :: st) I J := ge (A := (1, 148, 5, 0, 0)) rfl
set_option maxRecDepth 10000 in
theorem g_118_148 : GO x d 118 Q 148 [v0, v1, v2, v3, v4, v5, v6] (.inl b :: .inl a :: st) I J = (inR a ∧ inR b ∧ if a < b then GO x d 118 Q 151 [v0, v1, v2, v3, v4, v5, v6] st I J else GO x d 118 Q 179 [v0, v1, v2, v3, v4, v5, v6] st I J) := (ge (A := (34, 151, 179, 3, 0)) rfl).trans (ggec)
set_option maxRecDepth 10000 in
theorem g_118_151 : GO x d 118 Q 151 [some (.inr (.inr w)), v1, v2, v3, v4, v5, v6] st I J = GO x d 118 Q 152 [some (.inr (.inr w)), v1, v2, v3, v4, v5, v6] (.inr (.inr w) :: st) I J := ge (A := (2, 152, 0, 0, 0)) rfl
set_option maxRecDepth 10000 in
theorem g_118_152 : GO x d 118 Q 152 [v0, v1, v2, v3, v4, v5, v6] (.inr (.inr (.inl r)) :: st) I J = (okF r 10 10 ∧ GO x d 118 Q 155 [v0, v1, v2, v3, v4, v5, v6] (.inr (.inr (.inl (rfN r 10))) :: st) I J) := (ge (A := (39, 155, 10, 10, 0)) rfl).trans (gref (f := fun q => GO x d 118 Q 155 [v0, v1, v2, v3, v4, v5, v6] (.inr (.inr (.inl q)) :: st) I J))
set_option maxRecDepth 10000 in
theorem g_118_155 : GO x d 118 Q 155 [v0, v1, v2, v3, v4, v5, v6] st I J = GO x d 118 Q 157 [v0, v1, v2, v3, v4, v5, v6] (.inl (40) :: st) I J := ge (A := (0, 157, 0, 0, 40)) rfl
set_option maxRecDepth 10000 in
theorem g_118_157 : GO x d 118 Q 157 [v0, v1, v2, some (.inl a), v4, v5, v6] st I J = GO x d 118 Q 158 [v0, v1, v2, some (.inl a), v4, v5, v6] (.inl a :: st) I J := ge (A := (1, 158, 3, 0, 0)) rfl
set_option maxRecDepth 10000 in
theorem g_118_158 : GO x d 118 Q 158 [v0, v1, v2, v3, v4, v5, v6] (.inl b :: .inl a :: st) I J = GO x d 118 Q 159 [v0, v1, v2, v3, v4, v5, v6] (.inl (a * b) :: st) I J := ge (A := (10, 159, 0, 0, 0)) rfl
set_option maxRecDepth 10000 in
theorem g_118_159 : GO x d 118 Q 159 [v0, v1, v2, v3, some (.inl a), v5, v6] st I J = GO x d 118 Q 161 [v0, v1, v2, v3, some (.inl a), v5, v6] (.inl a :: st) I J := ge (A := (1, 161, 4, 0, 0)) rfl
set_option maxRecDepth 10000 in
theorem g_118_161 : GO x d 118 Q 161 [v0, v1, v2, v3, v4, v5, v6] (.inl b :: .inl a :: st) I J = GO x d 118 Q 162 [v0, v1, v2, v3, v4, v5, v6] (.inl (a + b) :: st) I J := ge (A := (8, 162, 0, 0, 0)) rfl
set_option maxRecDepth 10000 in
theorem g_118_162 : GO x d 118 Q 162 [v0, v1, v2, v3, v4, v5, some (.inl a)] st I J = GO x d 118 Q 164 [v0, v1, v2, v3, v4, v5, some (.inl a)] (.inl a :: st) I J := ge (A := (1, 164, 6, 0, 0)) rfl
set_option maxRecDepth 10000 in
theorem g_118_164 : GO x d 118 Q 164 [v0, v1, v2, v3, v4, v5, v6] (.inl b :: .inl a :: st) I J = GO x d 118 Q 165 [v0, v1, v2, v3, v4, v5, v6] (.inl (a + b) :: st) I J := ge (A := (8, 165, 0, 0, 0)) rfl
set_option maxRecDepth 10000 in
theorem g_118_165 : GO x d 118 Q 165 [some (.inr (.inr w)), v1, v2, v3, v4, v5, v6] st I J = GO x d 118 Q 166 [some (.inr (.inr w)), v1, v2, v3, v4, v5, v6] (.inr (.inr w) :: st) I J := ge (A := (2, 166, 0, 0, 0)) rfl
set_option maxRecDepth 10000 in
theorem g_118_166 : GO x d 118 Q 166 [v0, v1, v2, v3, v4, v5, v6] (.inr (.inr (.inl r)) :: st) I J = (okF r 10 20 ∧ GO x d 118 Q 169 [v0, v1, v2, v3, v4, v5, v6] (.inr (.inr (.inl (rfN r 20))) :: st) I J) := (ge (A := (39, 169, 10, 20, 0)) rfl).trans (gref (f := fun q => GO x d 118 Q 169 [v0, v1, v2, v3, v4, v5, v6] (.inr (.inr (.inl q)) :: st) I J))
set_option maxRecDepth 10000 in
theorem g_118_169 : GO x d 118 Q 169 [v0, v1, v2, v3, v4, v5, some (.inl a)] st I J = GO x d 118 Q 171 [v0, v1, v2, v3, v4, v5, some (.inl a)] (.inl a :: st) I J := ge (A := (1, 171, 6, 0, 0)) rfl
set_option maxRecDepth 10000 in
theorem h_118_171 : GO x d 118 Q 171 [v0, v1, v2, v3, v4, v5, v6] (.inl a :: .inr (.inr (.inr q)) :: st) I J = (q < 4 ∧ 0 ≤ a ∧ a < (roA x q).1 ∧ GO x d 118 Q 172 [v0, v1, v2, v3, v4, v5, v6] (.inl ((roA x q).2 a.toNat) :: st) I J) := ge (A := (44, 172, 0, 0, 0)) rfl
set_option maxRecDepth 10000 in
theorem g_118_171 : GO x d 118 Q 171 [v0, v1, v2, v3, v4, v5, v6] (.inl a :: .inr (.inr (.inl r)) :: st) I J = (okA r 20 ∧ 0 ≤ a ∧ a < lnN r ∧ GO x d 118 Q 172 [v0, v1, v2, v3, v4, v5, v6] (.inl (I r a) :: st) I J) := ge (A := (44, 172, 0, 0, 0)) rfl
set_option maxRecDepth 10000 in
theorem g_118_172 : GO x d 118 Q 172 [v0, v1, v2, v3, v4, v5, v6] (.inl b :: .inl a :: .inr (.inr (.inl r)) :: st) I J = (okA r 20 ∧ 0 ≤ a ∧ a < lnN r ∧ GO x d 118 Q 173 [v0, v1, v2, v3, v4, v5, v6] st (up I r a b) J) := ge (A := (45, 173, 0, 0, 0)) rfl
set_option maxRecDepth 10000 in
theorem g_118_173 : GO x d 118 Q 173 [v0, v1, v2, v3, v4, v5, some (.inl a)] st I J = (nlO (some v5) = true ∧ GO x d 118 Q 176 [v0, v1, v2, v3, v4, v5, some (.inl (a + (1)))] st I J) := ge (A := (7, 176, 6, 0, 1)) rfl
set_option maxRecDepth 10000 in
theorem g_118_176 : GO x d 118 Q 176 [v0, v1, v2, v3, v4, v5, v6] st I J = GO x d 118 Q 144 [v0, v1, v2, v3, v4, v5, v6] st I J := ge (A := (35, 179, 144, 0, 0)) rfl
set_option maxRecDepth 10000 in
theorem g_118_179 : GO x d 118 Q 179 [v0, v1, v2, v3, v4, some (.inl a), v6] st I J = GO x d 118 Q 181 [v0, v1, v2, v3, v4, some (.inl a), v6] (.inl a :: st) I J := ge (A := (1, 181, 5, 0, 0)) rfl
set_option maxRecDepth 10000 in
theorem g_118_181 : GO x d 118 Q 181 [v0, v1, v2, v3, v4, v5, v6] [.inl a] I J = Q (some (.inl a)) I J := ge (A := (55, 182, 0, 0, 0)) rfl
set_option maxRecDepth 10000 in
theorem e_118 : EX x (d + 1) 118 [.inr (.inr w0), .inl i0, .inl i1, .inl i2, .inl i3, .inl i4] I J Q = GO x d 118 Q 0 [some (.inr (.inr w0)), some (.inl i0), some (.inl i1), some (.inl i2), some (.inl i3), some (.inl i4), none] [] I J := ex_eq (Nat.le_of_ble_eq_true rfl) rfl (Nat.le_of_ble_eq_true rfl) rfl
set_option maxRecDepth 10000 in
theorem g_119_0 : GO x d 119 Q 0 [v0, some (.inl a)] st I J = GO x d 119 Q 1 [v0, some (.inl a)] (.inl a :: st) I J := ge (A := (1, 1, 1, 0, 0)) rfl
set_option maxRecDepth 10000 in
theorem g_119_1 : GO x d 119 Q 1 [v0, v1] [.inl i0] I J = EX x d 113 [.inl i0] I J (fun r1 I1 J1 => GO x d 119 Q 4 [v0, v1] (r1.toList ++ []) I1 J1) := (ge (A := (52, 4, 113, 1, 0)) rfl).trans (gtrue2 (Nat.le_of_ble_eq_true rfl) (Nat.le_of_ble_eq_true rfl))
set_option maxRecDepth 10000 in
theorem g_119_4 : GO x d 119 Q 4 [v0, v1] (.inl a :: st) I J = (inR a ∧ if a = 0 then GO x d 119 Q 7 [v0, v1] st I J else GO x d 119 Q 10 [v0, v1] st I J) := (ge (A := (33, 7, 10, 1, 0)) rfl).trans (gifn (p := a = 0) inferInstance)
set_option maxRecDepth 10000 in
theorem g_119_7 : GO x d 119 Q 7 [v0, v1] st I J = GO x d 119 Q 9 [v0, v1] (.inl (-1000001) :: st) I J := ge (A := (0, 9, 0, 0, -1000001)) rfl
set_option maxRecDepth 10000 in
theorem g_119_9 : GO x d 119 Q 9 [v0, v1] [.inl a] I J = Q (some (.inl a)) I J := ge (A := (55, 10, 0, 0, 0)) rfl
set_option maxRecDepth 10000 in
theorem g_119_10 : GO x d 119 Q 10 [some (.inr (.inr w)), v1] st I J = GO x d 119 Q 11 [some (.inr (.inr w)), v1] (.inr (.inr w) :: st) I J := ge (A := (2, 11, 0, 0, 0)) rfl
set_option maxRecDepth 10000 in
theorem g_119_11 : GO x d 119 Q 11 [v0, v1] (.inr (.inr (.inl r)) :: st) I J = (okF r 10 8 ∧ GO x d 119 Q 14 [v0, v1] (.inr (.inr (.inl (rfN r 8))) :: st) I J) := (ge (A := (39, 14, 10, 8, 0)) rfl).trans (gref (f := fun q => GO x d 119 Q 14 [v0, v1] (.inr (.inr (.inl q)) :: st) I J))
set_option maxRecDepth 10000 in
theorem g_119_14 : GO x d 119 Q 14 [v0, some (.inl a)] st I J = GO x d 119 Q 15 [v0, some (.inl a)] (.inl a :: st) I J := ge (A := (1, 15, 1, 0, 0)) rfl
set_option maxRecDepth 10000 in
theorem h_119_15 : GO x d 119 Q 15 [v0, v1] (.inl a :: .inr (.inr (.inr q)) :: st) I J = (q < 4 ∧ 0 ≤ a ∧ a < (roA x q).1 ∧ GO x d 119 Q 16 [v0, v1] (.inl ((roA x q).2 a.toNat) :: st) I J) := ge (A := (44, 16, 0, 0, 0)) rfl
set_option maxRecDepth 10000 in
theorem g_119_15 : GO x d 119 Q 15 [v0, v1] (.inl a :: .inr (.inr (.inl r)) :: st) I J = (okA r 20 ∧ 0 ≤ a ∧ a < lnN r ∧ GO x d 119 Q 16 [v0, v1] (.inl (I r a) :: st) I J) := ge (A := (44, 16, 0, 0, 0)) rfl
set_option maxRecDepth 10000 in
theorem g_119_16 : GO x d 119 Q 16 [v0, v1] (.inl a :: st) I J = (inR a ∧ if a = 0 then GO x d 119 Q 19 [v0, v1] st I J else GO x d 119 Q 25 [v0, v1] st I J) := (ge (A := (33, 19, 25, 1, 0)) rfl).trans (gifn (p := a = 0) inferInstance)
set_option maxRecDepth 10000 in
theorem g_119_19 : GO x d 119 Q 19 [some (.inr (.inr w)), v1] st I J = GO x d 119 Q 20 [some (.inr (.inr w)), v1] (.inr (.inr w) :: st) I J := ge (A := (2, 20, 0, 0, 0)) rfl
set_option maxRecDepth 10000 in
theorem g_119_20 : GO x d 119 Q 20 [v0, v1] st I J = GO x d 119 Q 21 [v0, v1] (.inl (1) :: st) I J := ge (A := (0, 21, 0, 0, 1)) rfl
set_option maxRecDepth 10000 in
theorem g_119_21 : GO x d 119 Q 21 [v0, v1] [.inl i0, .inr (.inr (.inl r))] I J = (okO r 10 ∧ EX x d 114 [.inr (.inr (.inl r)), .inl i0] I J (fun r1 I1 J1 => GO x d 119 Q 24 [v0, v1] (r1.toList ++ []) I1 J1)) := (ge (A := (53, 24, 114, 1, 0)) rfl).trans (gtrue (Nat.le_of_ble_eq_true rfl))
set_option maxRecDepth 10000 in
theorem g_119_24 : GO x d 119 Q 24 [v0, v1] [.inl a] I J = Q (some (.inl a)) I J := ge (A := (55, 25, 0, 0, 0)) rfl
set_option maxRecDepth 10000 in
theorem g_119_25 : GO x d 119 Q 25 [some (.inr (.inr w)), v1] st I J = GO x d 119 Q 26 [some (.inr (.inr w)), v1] (.inr (.inr w) :: st) I J := ge (A := (2, 26, 0, 0, 0)) rfl
set_option maxRecDepth 10000 in
theorem g_119_26 : GO x d 119 Q 26 [v0, v1] st I J = GO x d 119 Q 27 [v0, v1] (.inl (0) :: st) I J := ge (A := (0, 27, 0, 0, 0)) rfl
set_option maxRecDepth 10000 in
theorem g_119_27 : GO x d 119 Q 27 [v0, v1] (.inl a :: .inr (.inr (.inl r)) :: st) I J = (okO r 10 ∧ GO x d 119 Q 30 [v0, v1] st (up I r 13 a) J) := ge (A := (40, 30, 10, 13, 0)) rfl
set_option maxRecDepth 10000 in
theorem g_119_30 : GO x d 119 Q 30 [some (.inr (.inr w)), v1] st I J = GO x d 119 Q 31 [some (.inr (.inr w)), v1] (.inr (.inr w) :: st) I J := ge (A := (2, 31, 0, 0, 0)) rfl
set_option maxRecDepth 10000 in
theorem g_119_31 : GO x d 119 Q 31 [v0, v1] (.inr (.inr (.inl r)) :: st) I J = (okF r 10 8 ∧ GO x d 119 Q 34 [v0, v1] (.inr (.inr (.inl (rfN r 8))) :: st) I J) := (ge (A := (39, 34, 10, 8, 0)) rfl).trans (gref (f := fun q => GO x d 119 Q 34 [v0, v1] (.inr (.inr (.inl q)) :: st) I J))
set_option maxRecDepth 10000 in
theorem g_119_34 : GO x d 119 Q 34 [v0, some (.inl a)] st I J = GO x d 119 Q 35 [v0, some (.inl a)] (.inl a :: st) I J := ge (A := (1, 35, 1, 0, 0)) rfl
set_option maxRecDepth 10000 in
theorem g_119_35 : GO x d 119 Q 35 [v0, v1] st I J = GO x d 119 Q 36 [v0, v1] (.inl (0) :: st) I J := ge (A := (0, 36, 0, 0, 0)) rfl
set_option maxRecDepth 10000 in
theorem g_119_36 : GO x d 119 Q 36 [v0, v1] (.inl b :: .inl a :: .inr (.inr (.inl r)) :: st) I J = (okA r 20 ∧ 0 ≤ a ∧ a < lnN r ∧ GO x d 119 Q 37 [v0, v1] st (up I r a b) J) := ge (A := (45, 37, 0, 0, 0)) rfl
set_option maxRecDepth 10000 in
theorem g_119_37 : GO x d 119 Q 37 [some (.inr (.inr w)), v1] st I J = GO x d 119 Q 38 [some (.inr (.inr w)), v1] (.inr (.inr w) :: st) I J := ge (A := (2, 38, 0, 0, 0)) rfl
set_option maxRecDepth 10000 in
theorem g_119_38 : GO x d 119 Q 38 [v0, v1] (.inr (.inr (.inl r)) :: st) I J = (okF r 10 9 ∧ GO x d 119 Q 41 [v0, v1] (.inr (.inr (.inl (rfN r 9))) :: st) I J) := (ge (A := (39, 41, 10, 9, 0)) rfl).trans (gref (f := fun q => GO x d 119 Q 41 [v0, v1] (.inr (.inr (.inl q)) :: st) I J))
set_option maxRecDepth 10000 in
theorem g_119_41 : GO x d 119 Q 41 [v0, some (.inl a)] st I J = GO x d 119 Q 42 [v0, some (.inl a)] (.inl a :: st) I J := ge (A := (1, 42, 1, 0, 0)) rfl
set_option maxRecDepth 10000 in
theorem h_119_42 : GO x d 119 Q 42 [v0, v1] (.inl a :: .inr (.inr (.inr q)) :: st) I J = (q < 4 ∧ 0 ≤ a ∧ a < (roA x q).1 ∧ GO x d 119 Q 43 [v0, v1] (.inl ((roA x q).2 a.toNat) :: st) I J) := ge (A := (44, 43, 0, 0, 0)) rfl
set_option maxRecDepth 10000 in
theorem g_119_42 : GO x d 119 Q 42 [v0, v1] (.inl a :: .inr (.inr (.inl r)) :: st) I J = (okA r 20 ∧ 0 ≤ a ∧ a < lnN r ∧ GO x d 119 Q 43 [v0, v1] (.inl (I r a) :: st) I J) := ge (A := (44, 43, 0, 0, 0)) rfl
set_option maxRecDepth 10000 in
theorem g_119_43 : GO x d 119 Q 43 [v0, v1] [.inl a] I J = Q (some (.inl a)) I J := ge (A := (55, 44, 0, 0, 0)) rfl
set_option maxRecDepth 10000 in
theorem e_119 : EX x (d + 1) 119 [.inr (.inr w0), .inl i0] I J Q = GO x d 119 Q 0 [some (.inr (.inr w0)), some (.inl i0)] [] I J := ex_eq (Nat.le_of_ble_eq_true rfl) rfl (Nat.le_of_ble_eq_true rfl) rfl
end
