section
variable {x : RO} {d : Nat} {Q : QT} {I : MI} {J : MJ} {v0 v1 v2 v3 v4 v5 v6 v7 v8 v9 v10 v11 v12 : Option AV} {st : List AV} {a b e : Int} {r q : Nat} {w w2 : Nat ⊕ Nat} {y z : Int64}
variable {i0 i1 i2 i3 i4 i5 i6 i7 i8 i9 : Int} {w0 w1 w3 w4 w5 w6 w7 w8 w9 : Nat ⊕ Nat} {l0 l1 l2 l3 l4 : Int64}
set_option maxRecDepth 10000 in
theorem g_2_0 : GO x d 2 Q 0 [some (.inr (.inr w))] st I J = GO x d 2 Q 1 [some (.inr (.inr w))] (.inr (.inr w) :: st) I J := ge (A := (2, 1, 0, 0, 0)) rfl
set_option maxRecDepth 10000 in
theorem g_2_1 : GO x d 2 Q 1 [v0] st I J = GO x d 2 Q 2 [v0] (.inl (0) :: st) I J := ge (A := (0, 2, 0, 0, 0)) rfl
set_option maxRecDepth 10000 in
theorem g_2_2 : GO x d 2 Q 2 [v0] (.inl a :: .inr (.inr (.inl r)) :: st) I J = (okO r 1 ∧ GO x d 2 Q 5 [v0] st (up I r 2 a) J) := ge (A := (40, 5, 1, 2, 0)) rfl
set_option maxRecDepth 10000 in
theorem g_2_5 : GO x d 2 Q 5 [v0] [] I J = Q none I J := ge (A := (57, 6, 0, 0, 0)) rfl
set_option maxRecDepth 10000 in
theorem e_2 : EX x (d + 1) 2 [.inr (.inr w0)] I J Q = GO x d 2 Q 0 [some (.inr (.inr w0))] [] I J := ex_eq (Nat.le_of_ble_eq_true rfl) rfl (Nat.le_of_ble_eq_true rfl) rfl
set_option maxRecDepth 10000 in
theorem g_3_0 : GO x d 3 Q 0 [some (.inr (.inr w)), v1, v2, v3, v4] st I J = GO x d 3 Q 1 [some (.inr (.inr w)), v1, v2, v3, v4] (.inr (.inr w) :: st) I J := ge (A := (2, 1, 0, 0, 0)) rfl
set_option maxRecDepth 10000 in
theorem g_3_1 : GO x d 3 Q 1 [v0, v1, v2, v3, v4] (.inr (.inr (.inl r)) :: st) I J = (okF r 1 0 ∧ GO x d 3 Q 4 [v0, v1, v2, v3, v4] (.inr (.inr (.inl (rfN r 0))) :: st) I J) := (ge (A := (39, 4, 1, 0, 0)) rfl).trans (gref (f := fun q => GO x d 3 Q 4 [v0, v1, v2, v3, v4] (.inr (.inr (.inl q)) :: st) I J))
set_option maxRecDepth 10000 in
theorem g_3_4 : GO x d 3 Q 4 [some (.inr (.inr w)), v1, v2, v3, v4] st I J = GO x d 3 Q 5 [some (.inr (.inr w)), v1, v2, v3, v4] (.inr (.inr w) :: st) I J := ge (A := (2, 5, 0, 0, 0)) rfl
set_option maxRecDepth 10000 in
theorem g_3_5 : GO x d 3 Q 5 [v0, v1, v2, v3, v4] (.inr (.inr (.inl r)) :: st) I J = (okO r 1 ∧ GO x d 3 Q 8 [v0, v1, v2, v3, v4] (.inl (I r 1) :: st) I J) := ge (A := (37, 8, 1, 1, 0)) rfl
set_option maxRecDepth 10000 in
theorem g_3_8 : GO x d 3 Q 8 [v0, v1, v2, v3, v4] (.inl a :: .inr (.inr (.inl r)) :: st) I J = ((23 ≤ clS S0 r ∧ clS S0 r ≤ 25 ∧ (elS S0 r a.toNat).isSome = true) ∧ 0 ≤ a ∧ a < lnN r ∧ GO x d 3 Q 9 [v0, v1, v2, v3, v4] (.inr (.inr (.inl (elN r a))) :: st) I J) := (ge (A := (50, 9, 0, 0, 0)) rfl).trans (gel2 (f := fun q => GO x d 3 Q 9 [v0, v1, v2, v3, v4] (.inr (.inr (.inl q)) :: st) I J))
set_option maxRecDepth 10000 in
theorem g_3_9 : GO x d 3 Q 9 [v0, v1, v2, v3, v4] (.inr (.inr w) :: st) I J = (nlO (some v3) = true ∧ GO x d 3 Q 11 [v0, v1, v2, v3, some (.inr (.inr w))] st I J) := (ge (A := (5, 11, 4, 0, 0)) rfl).trans (gst (Nat.le_of_ble_eq_true rfl) _)
set_option maxRecDepth 10000 in
theorem g_3_11 : GO x d 3 Q 11 [v0, v1, v2, v3, some (.inr (.inr w))] st I J = GO x d 3 Q 13 [v0, v1, v2, v3, some (.inr (.inr w))] (.inr (.inr w) :: st) I J := ge (A := (2, 13, 4, 0, 0)) rfl
set_option maxRecDepth 10000 in
theorem g_3_13 : GO x d 3 Q 13 [v0, v1, some (.inl a), v3, v4] st I J = GO x d 3 Q 14 [v0, v1, some (.inl a), v3, v4] (.inl a :: st) I J := ge (A := (1, 14, 2, 0, 0)) rfl
set_option maxRecDepth 10000 in
theorem g_3_14 : GO x d 3 Q 14 [v0, v1, v2, v3, v4] (.inl a :: .inr (.inr (.inl r)) :: st) I J = (okO r 0 ∧ GO x d 3 Q 17 [v0, v1, v2, v3, v4] st (up I r 0 a) J) := ge (A := (40, 17, 0, 0, 0)) rfl
set_option maxRecDepth 10000 in
theorem g_3_17 : GO x d 3 Q 17 [v0, v1, v2, v3, some (.inr (.inr w))] st I J = GO x d 3 Q 19 [v0, v1, v2, v3, some (.inr (.inr w))] (.inr (.inr w) :: st) I J := ge (A := (2, 19, 4, 0, 0)) rfl
set_option maxRecDepth 10000 in
theorem g_3_19 : GO x d 3 Q 19 [v0, v1, v2, some (.inl a), v4] st I J = GO x d 3 Q 20 [v0, v1, v2, some (.inl a), v4] (.inl a :: st) I J := ge (A := (1, 20, 3, 0, 0)) rfl
set_option maxRecDepth 10000 in
theorem g_3_20 : GO x d 3 Q 20 [v0, v1, v2, v3, v4] (.inl a :: .inr (.inr (.inl r)) :: st) I J = (okO r 0 ∧ GO x d 3 Q 23 [v0, v1, v2, v3, v4] st (up I r 1 a) J) := ge (A := (40, 23, 0, 1, 0)) rfl
set_option maxRecDepth 10000 in
theorem g_3_23 : GO x d 3 Q 23 [v0, v1, v2, v3, some (.inr (.inr w))] st I J = GO x d 3 Q 25 [v0, v1, v2, v3, some (.inr (.inr w))] (.inr (.inr w) :: st) I J := ge (A := (2, 25, 4, 0, 0)) rfl
set_option maxRecDepth 10000 in
theorem g_3_25 : GO x d 3 Q 25 [v0, some (.inr (.inr w)), v2, v3, v4] st I J = GO x d 3 Q 26 [v0, some (.inr (.inr w)), v2, v3, v4] (.inr (.inr w) :: st) I J := ge (A := (2, 26, 1, 0, 0)) rfl
set_option maxRecDepth 10000 in
theorem g_3_26 : GO x d 3 Q 26 [v0, v1, v2, v3, v4] (.inr (.inr (.inl r)) :: st) I J = (okO r 3 ∧ GO x d 3 Q 29 [v0, v1, v2, v3, v4] (.inl (I r 11) :: st) I J) := ge (A := (37, 29, 3, 11, 0)) rfl
set_option maxRecDepth 10000 in
theorem g_3_29 : GO x d 3 Q 29 [v0, v1, v2, v3, v4] (.inl a :: .inr (.inr (.inl r)) :: st) I J = (okO r 0 ∧ GO x d 3 Q 32 [v0, v1, v2, v3, v4] st (up I r 2 a) J) := ge (A := (40, 32, 0, 2, 0)) rfl
set_option maxRecDepth 10000 in
theorem g_3_32 : GO x d 3 Q 32 [v0, v1, v2, v3, some (.inr (.inr w))] st I J = GO x d 3 Q 34 [v0, v1, v2, v3, some (.inr (.inr w))] (.inr (.inr w) :: st) I J := ge (A := (2, 34, 4, 0, 0)) rfl
set_option maxRecDepth 10000 in
theorem g_3_34 : GO x d 3 Q 34 [v0, some (.inr (.inr w)), v2, v3, v4] st I J = GO x d 3 Q 35 [v0, some (.inr (.inr w)), v2, v3, v4] (.inr (.inr w) :: st) I J := ge (A := (2, 35, 1, 0, 0)) rfl
set_option maxRecDepth 10000 in
theorem g_3_35 : GO x d 3 Q 35 [v0, v1, v2, v3, v4] (.inr (.inr (.inl r)) :: st) I J = (okO r 3 ∧ GO x d 3 Q 38 [v0, v1, v2, v3, v4] (.inl (I r 12) :: st) I J) := ge (A := (37, 38, 3, 12, 0)) rfl
set_option maxRecDepth 10000 in
theorem g_3_38 : GO x d 3 Q 38 [v0, v1, v2, v3, v4] (.inl a :: .inr (.inr (.inl r)) :: st) I J = (okO r 0 ∧ GO x d 3 Q 41 [v0, v1, v2, v3, v4] st (up I r 3 a) J) := ge (A := (40, 41, 0, 3, 0)) rfl
set_option maxRecDepth 10000 in
theorem g_3_41 : GO x d 3 Q 41 [v0, v1, v2, v3, some (.inr (.inr w))] st I J = GO x d 3 Q 43 [v0, v1, v2, v3, some (.inr (.inr w))] (.inr (.inr w) :: st) I J := ge (A := (2, 43, 4, 0, 0)) rfl
set_option maxRecDepth 10000 in
theorem g_3_43 : GO x d 3 Q 43 [v0, some (.inr (.inr w)), v2, v3, v4] st I J = GO x d 3 Q 44 [v0, some (.inr (.inr w)), v2, v3, v4] (.inr (.inr w) :: st) I J := ge (A := (2, 44, 1, 0, 0)) rfl
set_option maxRecDepth 10000 in
theorem g_3_44 : GO x d 3 Q 44 [v0, v1, v2, v3, v4] (.inr (.inr (.inl r)) :: st) I J = (okO r 3 ∧ GO x d 3 Q 47 [v0, v1, v2, v3, v4] (.inl (I r 13) :: st) I J) := ge (A := (37, 47, 3, 13, 0)) rfl
set_option maxRecDepth 10000 in
theorem g_3_47 : GO x d 3 Q 47 [v0, v1, v2, v3, v4] (.inl a :: .inr (.inr (.inl r)) :: st) I J = (okO r 0 ∧ GO x d 3 Q 50 [v0, v1, v2, v3, v4] st (up I r 4 a) J) := ge (A := (40, 50, 0, 4, 0)) rfl
set_option maxRecDepth 10000 in
theorem g_3_50 : GO x d 3 Q 50 [v0, v1, v2, v3, some (.inr (.inr w))] st I J = GO x d 3 Q 52 [v0, v1, v2, v3, some (.inr (.inr w))] (.inr (.inr w) :: st) I J := ge (A := (2, 52, 4, 0, 0)) rfl
set_option maxRecDepth 10000 in
theorem g_3_52 : GO x d 3 Q 52 [v0, some (.inr (.inr w)), v2, v3, v4] st I J = GO x d 3 Q 53 [v0, some (.inr (.inr w)), v2, v3, v4] (.inr (.inr w) :: st) I J := ge (A := (2, 53, 1, 0, 0)) rfl
set_option maxRecDepth 10000 in
theorem g_3_53 : GO x d 3 Q 53 [v0, v1, v2, some (.inl a), v4] st I J = GO x d 3 Q 54 [v0, v1, v2, some (.inl a), v4] (.inl a :: st) I J := ge (A := (1, 54, 3, 0, 0)) rfl
set_option maxRecDepth 10000 in
theorem g_3_54 : GO x d 3 Q 54 [v0, v1, v2, v3, v4] [.inl i0, .inr (.inr (.inl r)), .inr (.inr w0)] I J = (okO r 3 ∧ EX x d 16 [.inr (.inr (.inl r)), .inl i0] I J (fun r1 I1 J1 => GO x d 3 Q 57 [v0, v1, v2, v3, v4] (r1.toList ++ [.inr (.inr w0)]) I1 J1)) := (ge (A := (53, 57, 16, 1, 0)) rfl).trans (gtrue (Nat.le_of_ble_eq_true rfl))
set_option maxRecDepth 10000 in
theorem g_3_57 : GO x d 3 Q 57 [v0, v1, v2, v3, v4] (.inl a :: st) I J = (inR a ∧ if a = 0 then GO x d 3 Q 69 [v0, v1, v2, v3, v4] st I J else GO x d 3 Q 60 [v0, v1, v2, v3, v4] st I J) := (ge (A := (33, 60, 69, 0, 0)) rfl).trans (gif (p := a = 0) inferInstance)
set_option maxRecDepth 10000 in
theorem g_3_60 : GO x d 3 Q 60 [v0, some (.inr (.inr w)), v2, v3, v4] st I J = GO x d 3 Q 61 [v0, some (.inr (.inr w)), v2, v3, v4] (.inr (.inr w) :: st) I J := ge (A := (2, 61, 1, 0, 0)) rfl
set_option maxRecDepth 10000 in
theorem g_3_61 : GO x d 3 Q 61 [v0, v1, v2, v3, v4] (.inr (.inr (.inl r)) :: st) I J = (okF r 3 6 ∧ GO x d 3 Q 64 [v0, v1, v2, v3, v4] (.inr (.inr (.inl (rfN r 6))) :: st) I J) := (ge (A := (39, 64, 3, 6, 0)) rfl).trans (gref (f := fun q => GO x d 3 Q 64 [v0, v1, v2, v3, v4] (.inr (.inr (.inl q)) :: st) I J))
set_option maxRecDepth 10000 in
theorem g_3_64 : GO x d 3 Q 64 [v0, v1, v2, some (.inl a), v4] st I J = GO x d 3 Q 65 [v0, v1, v2, some (.inl a), v4] (.inl a :: st) I J := ge (A := (1, 65, 3, 0, 0)) rfl
set_option maxRecDepth 10000 in
theorem h_3_65 : GO x d 3 Q 65 [v0, v1, v2, v3, v4] (.inl a :: .inr (.inr (.inr q)) :: st) I J = (q < 4 ∧ 0 ≤ a ∧ a < (roA x q).1 ∧ GO x d 3 Q 66 [v0, v1, v2, v3, v4] (.inl ((roA x q).2 a.toNat) :: st) I J) := ge (A := (44, 66, 0, 0, 0)) rfl
set_option maxRecDepth 10000 in
theorem g_3_65 : GO x d 3 Q 65 [v0, v1, v2, v3, v4] (.inl a :: .inr (.inr (.inl r)) :: st) I J = (okA r 20 ∧ 0 ≤ a ∧ a < lnN r ∧ GO x d 3 Q 66 [v0, v1, v2, v3, v4] (.inl (I r a) :: st) I J) := ge (A := (44, 66, 0, 0, 0)) rfl
set_option maxRecDepth 10000 in
theorem g_3_66 : GO x d 3 Q 66 [v0, v1, v2, v3, v4] st I J = GO x d 3 Q 71 [v0, v1, v2, v3, v4] st I J := ge (A := (35, 69, 71, 0, 0)) rfl
set_option maxRecDepth 10000 in
theorem g_3_69 : GO x d 3 Q 69 [v0, v1, v2, v3, v4] st I J = GO x d 3 Q 71 [v0, v1, v2, v3, v4] (.inl (-1000000) :: st) I J := ge (A := (0, 71, 0, 0, -1000000)) rfl
set_option maxRecDepth 10000 in
theorem g_3_71 : GO x d 3 Q 71 [v0, v1, v2, v3, v4] (.inl a :: .inr (.inr (.inl r)) :: st) I J = (okO r 0 ∧ GO x d 3 Q 74 [v0, v1, v2, v3, v4] st (up I r 5 a) J) := ge (A := (40, 74, 0, 5, 0)) rfl
set_option maxRecDepth 10000 in
theorem g_3_74 : GO x d 3 Q 74 [some (.inr (.inr w)), v1, v2, v3, v4] st I J = GO x d 3 Q 75 [some (.inr (.inr w)), v1, v2, v3, v4] (.inr (.inr w) :: st) I J := ge (A := (2, 75, 0, 0, 0)) rfl
set_option maxRecDepth 10000 in
theorem g_3_75 : GO x d 3 Q 75 [some (.inr (.inr w)), v1, v2, v3, v4] st I J = GO x d 3 Q 76 [some (.inr (.inr w)), v1, v2, v3, v4] (.inr (.inr w) :: st) I J := ge (A := (2, 76, 0, 0, 0)) rfl
set_option maxRecDepth 10000 in
theorem g_3_76 : GO x d 3 Q 76 [v0, v1, v2, v3, v4] (.inr (.inr (.inl r)) :: st) I J = (okO r 1 ∧ GO x d 3 Q 79 [v0, v1, v2, v3, v4] (.inl (I r 1) :: st) I J) := ge (A := (37, 79, 1, 1, 0)) rfl
set_option maxRecDepth 10000 in
theorem g_3_79 : GO x d 3 Q 79 [v0, v1, v2, v3, v4] st I J = GO x d 3 Q 80 [v0, v1, v2, v3, v4] (.inl (1) :: st) I J := ge (A := (0, 80, 0, 0, 1)) rfl
set_option maxRecDepth 10000 in
theorem g_3_80 : GO x d 3 Q 80 [v0, v1, v2, v3, v4] (.inl b :: .inl a :: st) I J = GO x d 3 Q 81 [v0, v1, v2, v3, v4] (.inl (a + b) :: st) I J := ge (A := (8, 81, 0, 0, 0)) rfl
set_option maxRecDepth 10000 in
theorem g_3_81 : GO x d 3 Q 81 [v0, v1, v2, v3, v4] st I J = GO x d 3 Q 83 [v0, v1, v2, v3, v4] (.inl (24) :: st) I J := ge (A := (0, 83, 0, 0, 24)) rfl
set_option maxRecDepth 10000 in
theorem g_3_83 : GO x d 3 Q 83 [v0, v1, v2, v3, v4] (.inl b :: .inl a :: st) I J = (inR a ∧ inR b ∧ if a < b then GO x d 3 Q 86 [v0, v1, v2, v3, v4] st I J else GO x d 3 Q 95 [v0, v1, v2, v3, v4] st I J) := (ge (A := (34, 86, 95, 3, 0)) rfl).trans (ggec)
set_option maxRecDepth 10000 in
theorem g_3_86 : GO x d 3 Q 86 [some (.inr (.inr w)), v1, v2, v3, v4] st I J = GO x d 3 Q 87 [some (.inr (.inr w)), v1, v2, v3, v4] (.inr (.inr w) :: st) I J := ge (A := (2, 87, 0, 0, 0)) rfl
set_option maxRecDepth 10000 in
theorem g_3_87 : GO x d 3 Q 87 [v0, v1, v2, v3, v4] (.inr (.inr (.inl r)) :: st) I J = (okO r 1 ∧ GO x d 3 Q 90 [v0, v1, v2, v3, v4] (.inl (I r 1) :: st) I J) := ge (A := (37, 90, 1, 1, 0)) rfl
set_option maxRecDepth 10000 in
theorem g_3_90 : GO x d 3 Q 90 [v0, v1, v2, v3, v4] st I J = GO x d 3 Q 91 [v0, v1, v2, v3, v4] (.inl (1) :: st) I J := ge (A := (0, 91, 0, 0, 1)) rfl
set_option maxRecDepth 10000 in
theorem g_3_91 : GO x d 3 Q 91 [v0, v1, v2, v3, v4] (.inl b :: .inl a :: st) I J = GO x d 3 Q 92 [v0, v1, v2, v3, v4] (.inl (a + b) :: st) I J := ge (A := (8, 92, 0, 0, 0)) rfl
set_option maxRecDepth 10000 in
theorem g_3_92 : GO x d 3 Q 92 [v0, v1, v2, v3, v4] st I J = GO x d 3 Q 96 [v0, v1, v2, v3, v4] st I J := ge (A := (35, 95, 96, 0, 0)) rfl
set_option maxRecDepth 10000 in
theorem g_3_95 : GO x d 3 Q 95 [v0, v1, v2, v3, v4] st I J = GO x d 3 Q 96 [v0, v1, v2, v3, v4] (.inl (0) :: st) I J := ge (A := (0, 96, 0, 0, 0)) rfl
set_option maxRecDepth 10000 in
theorem g_3_96 : GO x d 3 Q 96 [v0, v1, v2, v3, v4] (.inl a :: .inr (.inr (.inl r)) :: st) I J = (okO r 1 ∧ GO x d 3 Q 99 [v0, v1, v2, v3, v4] st (up I r 1 a) J) := ge (A := (40, 99, 1, 1, 0)) rfl
set_option maxRecDepth 10000 in
theorem g_3_99 : GO x d 3 Q 99 [some (.inr (.inr w)), v1, v2, v3, v4] st I J = GO x d 3 Q 100 [some (.inr (.inr w)), v1, v2, v3, v4] (.inr (.inr w) :: st) I J := ge (A := (2, 100, 0, 0, 0)) rfl
set_option maxRecDepth 10000 in
theorem g_3_100 : GO x d 3 Q 100 [some (.inr (.inr w)), v1, v2, v3, v4] st I J = GO x d 3 Q 101 [some (.inr (.inr w)), v1, v2, v3, v4] (.inr (.inr w) :: st) I J := ge (A := (2, 101, 0, 0, 0)) rfl
set_option maxRecDepth 10000 in
theorem g_3_101 : GO x d 3 Q 101 [v0, v1, v2, v3, v4] (.inr (.inr (.inl r)) :: st) I J = (okO r 1 ∧ GO x d 3 Q 104 [v0, v1, v2, v3, v4] (.inl (I r 2) :: st) I J) := ge (A := (37, 104, 1, 2, 0)) rfl
set_option maxRecDepth 10000 in
theorem g_3_104 : GO x d 3 Q 104 [v0, v1, v2, v3, v4] st I J = GO x d 3 Q 105 [v0, v1, v2, v3, v4] (.inl (1) :: st) I J := ge (A := (0, 105, 0, 0, 1)) rfl
set_option maxRecDepth 10000 in
theorem g_3_105 : GO x d 3 Q 105 [v0, v1, v2, v3, v4] (.inl b :: .inl a :: st) I J = GO x d 3 Q 106 [v0, v1, v2, v3, v4] (.inl (a + b) :: st) I J := ge (A := (8, 106, 0, 0, 0)) rfl
set_option maxRecDepth 10000 in
theorem g_3_106 : GO x d 3 Q 106 [v0, v1, v2, v3, v4] st I J = GO x d 3 Q 108 [v0, v1, v2, v3, v4] (.inl (24) :: st) I J := ge (A := (0, 108, 0, 0, 24)) rfl
set_option maxRecDepth 10000 in
theorem g_3_108 : GO x d 3 Q 108 [v0, v1, v2, v3, v4] (.inl b :: .inl a :: st) I J = (catS st ≤ 8 ∧ inR a ∧ inR b ∧ GO x d 3 Q 111 [v0, v1, v2, v3, v4] (.inl (if b < a then b else a) :: st) I J) := ge (A := (66, 111, 0, 0, 0)) rfl
set_option maxRecDepth 10000 in
theorem g_3_111 : GO x d 3 Q 111 [v0, v1, v2, v3, v4] (.inl a :: .inr (.inr (.inl r)) :: st) I J = (okO r 1 ∧ GO x d 3 Q 114 [v0, v1, v2, v3, v4] st (up I r 2 a) J) := ge (A := (40, 114, 1, 2, 0)) rfl
set_option maxRecDepth 10000 in
theorem g_3_114 : GO x d 3 Q 114 [v0, v1, v2, v3, v4] [] I J = Q none I J := ge (A := (57, 115, 0, 0, 0)) rfl
set_option maxRecDepth 10000 in
theorem e_3 : EX x (d + 1) 3 [.inr (.inr w0), .inr (.inr w1), .inl i0, .inl i1] I J Q = GO x d 3 Q 0 [some (.inr (.inr w0)), some (.inr (.inr w1)), some (.inl i0), some (.inl i1), none] [] I J := ex_eq (Nat.le_of_ble_eq_true rfl) rfl (Nat.le_of_ble_eq_true rfl) rfl
set_option maxRecDepth 10000 in
theorem g_4_0 : GO x d 4 Q 0 [some (.inr (.inr w)), v1, v2] st I J = GO x d 4 Q 1 [some (.inr (.inr w)), v1, v2] (.inr (.inr w) :: st) I J := ge (A := (2, 1, 0, 0, 0)) rfl
set_option maxRecDepth 10000 in
theorem g_4_1 : GO x d 4 Q 1 [some (.inr (.inr w)), v1, v2] st I J = GO x d 4 Q 2 [some (.inr (.inr w)), v1, v2] (.inr (.inr w) :: st) I J := ge (A := (2, 2, 0, 0, 0)) rfl
set_option maxRecDepth 10000 in
theorem g_4_2 : GO x d 4 Q 2 [v0, v1, v2] (.inr (.inr (.inl r)) :: st) I J = (okO r 1 ∧ GO x d 4 Q 5 [v0, v1, v2] (.inl (I r 1) :: st) I J) := ge (A := (37, 5, 1, 1, 0)) rfl
set_option maxRecDepth 10000 in
theorem g_4_5 : GO x d 4 Q 5 [v0, v1, v2] (.inl a :: st) I J = (inR a ∧ if 0 < a then GO x d 4 Q 8 [v0, v1, v2] st I J else GO x d 4 Q 17 [v0, v1, v2] st I J) := (ge (A := (33, 8, 17, 5, 0)) rfl).trans (gge)
set_option maxRecDepth 10000 in
theorem g_4_8 : GO x d 4 Q 8 [some (.inr (.inr w)), v1, v2] st I J = GO x d 4 Q 9 [some (.inr (.inr w)), v1, v2] (.inr (.inr w) :: st) I J := ge (A := (2, 9, 0, 0, 0)) rfl
set_option maxRecDepth 10000 in
theorem g_4_9 : GO x d 4 Q 9 [v0, v1, v2] (.inr (.inr (.inl r)) :: st) I J = (okO r 1 ∧ GO x d 4 Q 12 [v0, v1, v2] (.inl (I r 1) :: st) I J) := ge (A := (37, 12, 1, 1, 0)) rfl
set_option maxRecDepth 10000 in
theorem g_4_12 : GO x d 4 Q 12 [v0, v1, v2] st I J = GO x d 4 Q 13 [v0, v1, v2] (.inl (1) :: st) I J := ge (A := (0, 13, 0, 0, 1)) rfl
set_option maxRecDepth 10000 in
theorem g_4_13 : GO x d 4 Q 13 [v0, v1, v2] (.inl b :: .inl a :: st) I J = GO x d 4 Q 14 [v0, v1, v2] (.inl (a - b) :: st) I J := ge (A := (9, 14, 0, 0, 0)) rfl
set_option maxRecDepth 10000 in
theorem g_4_14 : GO x d 4 Q 14 [v0, v1, v2] st I J = GO x d 4 Q 19 [v0, v1, v2] st I J := ge (A := (35, 17, 19, 0, 0)) rfl
set_option maxRecDepth 10000 in
theorem g_4_17 : GO x d 4 Q 17 [v0, v1, v2] st I J = GO x d 4 Q 19 [v0, v1, v2] (.inl (23) :: st) I J := ge (A := (0, 19, 0, 0, 23)) rfl
set_option maxRecDepth 10000 in
theorem g_4_19 : GO x d 4 Q 19 [v0, v1, v2] (.inl a :: .inr (.inr (.inl r)) :: st) I J = (okO r 1 ∧ GO x d 4 Q 22 [v0, v1, v2] st (up I r 1 a) J) := ge (A := (40, 22, 1, 1, 0)) rfl
set_option maxRecDepth 10000 in
theorem g_4_22 : GO x d 4 Q 22 [some (.inr (.inr w)), v1, v2] st I J = GO x d 4 Q 23 [some (.inr (.inr w)), v1, v2] (.inr (.inr w) :: st) I J := ge (A := (2, 23, 0, 0, 0)) rfl
set_option maxRecDepth 10000 in
theorem g_4_23 : GO x d 4 Q 23 [v0, v1, v2] (.inr (.inr w) :: st) I J = GO x d 4 Q 24 [v0, v1, v2] (.inr (.inr w) :: .inr (.inr w) :: st) I J := ge (A := (31, 24, 0, 0, 0)) rfl
set_option maxRecDepth 10000 in
theorem g_4_24 : GO x d 4 Q 24 [v0, v1, v2] (.inr (.inr (.inl r)) :: st) I J = (okO r 1 ∧ GO x d 4 Q 27 [v0, v1, v2] (.inl (I r 2) :: st) I J) := ge (A := (37, 27, 1, 2, 0)) rfl
set_option maxRecDepth 10000 in
theorem g_4_27 : GO x d 4 Q 27 [v0, v1, v2] st I J = GO x d 4 Q 28 [v0, v1, v2] (.inl (1) :: st) I J := ge (A := (0, 28, 0, 0, 1)) rfl
set_option maxRecDepth 10000 in
theorem g_4_28 : GO x d 4 Q 28 [v0, v1, v2] (.inl b :: .inl a :: st) I J = GO x d 4 Q 29 [v0, v1, v2] (.inl (a - b) :: st) I J := ge (A := (9, 29, 0, 0, 0)) rfl
set_option maxRecDepth 10000 in
theorem g_4_29 : GO x d 4 Q 29 [v0, v1, v2] (.inl a :: .inr (.inr (.inl r)) :: st) I J = (okO r 1 ∧ GO x d 4 Q 32 [v0, v1, v2] st (up I r 2 a) J) := ge (A := (40, 32, 1, 2, 0)) rfl
set_option maxRecDepth 10000 in
theorem g_4_32 : GO x d 4 Q 32 [some (.inr (.inr w)), v1, v2] st I J = GO x d 4 Q 33 [some (.inr (.inr w)), v1, v2] (.inr (.inr w) :: st) I J := ge (A := (2, 33, 0, 0, 0)) rfl
set_option maxRecDepth 10000 in
theorem g_4_33 : GO x d 4 Q 33 [v0, v1, v2] (.inr (.inr (.inl r)) :: st) I J = (okF r 1 0 ∧ GO x d 4 Q 36 [v0, v1, v2] (.inr (.inr (.inl (rfN r 0))) :: st) I J) := (ge (A := (39, 36, 1, 0, 0)) rfl).trans (gref (f := fun q => GO x d 4 Q 36 [v0, v1, v2] (.inr (.inr (.inl q)) :: st) I J))
set_option maxRecDepth 10000 in
theorem g_4_36 : GO x d 4 Q 36 [some (.inr (.inr w)), v1, v2] st I J = GO x d 4 Q 37 [some (.inr (.inr w)), v1, v2] (.inr (.inr w) :: st) I J := ge (A := (2, 37, 0, 0, 0)) rfl
set_option maxRecDepth 10000 in
theorem g_4_37 : GO x d 4 Q 37 [v0, v1, v2] (.inr (.inr (.inl r)) :: st) I J = (okO r 1 ∧ GO x d 4 Q 40 [v0, v1, v2] (.inl (I r 1) :: st) I J) := ge (A := (37, 40, 1, 1, 0)) rfl
set_option maxRecDepth 10000 in
theorem g_4_40 : GO x d 4 Q 40 [v0, v1, v2] (.inl a :: .inr (.inr (.inl r)) :: st) I J = ((23 ≤ clS S0 r ∧ clS S0 r ≤ 25 ∧ (elS S0 r a.toNat).isSome = true) ∧ 0 ≤ a ∧ a < lnN r ∧ GO x d 4 Q 41 [v0, v1, v2] (.inr (.inr (.inl (elN r a))) :: st) I J) := (ge (A := (50, 41, 0, 0, 0)) rfl).trans (gel2 (f := fun q => GO x d 4 Q 41 [v0, v1, v2] (.inr (.inr (.inl q)) :: st) I J))
set_option maxRecDepth 10000 in
theorem g_4_41 : GO x d 4 Q 41 [v0, v1, v2] (.inr (.inr w) :: st) I J = (nlO (some v1) = true ∧ GO x d 4 Q 42 [v0, v1, some (.inr (.inr w))] st I J) := (ge (A := (5, 42, 2, 0, 0)) rfl).trans (gst (Nat.le_of_ble_eq_true rfl) _)
set_option maxRecDepth 10000 in
theorem g_4_42 : GO x d 4 Q 42 [v0, some (.inr (.inr w)), v2] st I J = GO x d 4 Q 43 [v0, some (.inr (.inr w)), v2] (.inr (.inr w) :: st) I J := ge (A := (2, 43, 1, 0, 0)) rfl
set_option maxRecDepth 10000 in
theorem g_4_43 : GO x d 4 Q 43 [v0, v1, some (.inr (.inr w))] st I J = GO x d 4 Q 44 [v0, v1, some (.inr (.inr w))] (.inr (.inr w) :: st) I J := ge (A := (2, 44, 2, 0, 0)) rfl
set_option maxRecDepth 10000 in
theorem g_4_44 : GO x d 4 Q 44 [v0, v1, v2] (.inr (.inr (.inl r)) :: st) I J = (okO r 0 ∧ GO x d 4 Q 47 [v0, v1, v2] (.inl (I r 2) :: st) I J) := ge (A := (37, 47, 0, 2, 0)) rfl
set_option maxRecDepth 10000 in
theorem g_4_47 : GO x d 4 Q 47 [v0, v1, v2] (.inl a :: .inr (.inr (.inl r)) :: st) I J = (okO r 3 ∧ GO x d 4 Q 50 [v0, v1, v2] st (up I r 11 a) J) := ge (A := (40, 50, 3, 11, 0)) rfl
set_option maxRecDepth 10000 in
theorem g_4_50 : GO x d 4 Q 50 [v0, some (.inr (.inr w)), v2] st I J = GO x d 4 Q 51 [v0, some (.inr (.inr w)), v2] (.inr (.inr w) :: st) I J := ge (A := (2, 51, 1, 0, 0)) rfl
set_option maxRecDepth 10000 in
theorem g_4_51 : GO x d 4 Q 51 [v0, v1, some (.inr (.inr w))] st I J = GO x d 4 Q 52 [v0, v1, some (.inr (.inr w))] (.inr (.inr w) :: st) I J := ge (A := (2, 52, 2, 0, 0)) rfl
set_option maxRecDepth 10000 in
theorem g_4_52 : GO x d 4 Q 52 [v0, v1, v2] (.inr (.inr (.inl r)) :: st) I J = (okO r 0 ∧ GO x d 4 Q 55 [v0, v1, v2] (.inl (I r 3) :: st) I J) := ge (A := (37, 55, 0, 3, 0)) rfl
set_option maxRecDepth 10000 in
theorem g_4_55 : GO x d 4 Q 55 [v0, v1, v2] (.inl a :: .inr (.inr (.inl r)) :: st) I J = (okO r 3 ∧ GO x d 4 Q 58 [v0, v1, v2] st (up I r 12 a) J) := ge (A := (40, 58, 3, 12, 0)) rfl
set_option maxRecDepth 10000 in
theorem g_4_58 : GO x d 4 Q 58 [v0, some (.inr (.inr w)), v2] st I J = GO x d 4 Q 59 [v0, some (.inr (.inr w)), v2] (.inr (.inr w) :: st) I J := ge (A := (2, 59, 1, 0, 0)) rfl
set_option maxRecDepth 10000 in
theorem g_4_59 : GO x d 4 Q 59 [v0, v1, some (.inr (.inr w))] st I J = GO x d 4 Q 60 [v0, v1, some (.inr (.inr w))] (.inr (.inr w) :: st) I J := ge (A := (2, 60, 2, 0, 0)) rfl
set_option maxRecDepth 10000 in
theorem g_4_60 : GO x d 4 Q 60 [v0, v1, v2] (.inr (.inr (.inl r)) :: st) I J = (okO r 0 ∧ GO x d 4 Q 63 [v0, v1, v2] (.inl (I r 4) :: st) I J) := ge (A := (37, 63, 0, 4, 0)) rfl
set_option maxRecDepth 10000 in
theorem g_4_63 : GO x d 4 Q 63 [v0, v1, v2] (.inl a :: .inr (.inr (.inl r)) :: st) I J = (okO r 3 ∧ GO x d 4 Q 66 [v0, v1, v2] st (up I r 13 a) J) := ge (A := (40, 66, 3, 13, 0)) rfl
set_option maxRecDepth 10000 in
theorem g_4_66 : GO x d 4 Q 66 [v0, some (.inr (.inr w)), v2] st I J = GO x d 4 Q 67 [v0, some (.inr (.inr w)), v2] (.inr (.inr w) :: st) I J := ge (A := (2, 67, 1, 0, 0)) rfl
set_option maxRecDepth 10000 in
theorem g_4_67 : GO x d 4 Q 67 [v0, v1, some (.inr (.inr w))] st I J = GO x d 4 Q 68 [v0, v1, some (.inr (.inr w))] (.inr (.inr w) :: st) I J := ge (A := (2, 68, 2, 0, 0)) rfl
set_option maxRecDepth 10000 in
theorem g_4_68 : GO x d 4 Q 68 [v0, v1, v2] (.inr (.inr (.inl r)) :: st) I J = (okO r 0 ∧ GO x d 4 Q 71 [v0, v1, v2] (.inl (I r 0) :: st) I J) := ge (A := (37, 71, 0, 0, 0)) rfl
set_option maxRecDepth 10000 in
theorem g_4_71 : GO x d 4 Q 71 [v0, v1, v2] [.inl i0, .inr (.inr (.inl r))] I J = (okO r 3 ∧ EX x d 17 [.inr (.inr (.inl r)), .inl i0] I J (fun r1 I1 J1 => GO x d 4 Q 74 [v0, v1, v2] (r1.toList ++ []) I1 J1)) := (ge (A := (53, 74, 17, 1, 0)) rfl).trans (gtrue (Nat.le_of_ble_eq_true rfl))
set_option maxRecDepth 10000 in
theorem g_4_74 : GO x d 4 Q 74 [v0, v1, v2] (.inl a :: st) I J = (inR a ∧ if a = 0 then GO x d 4 Q 88 [v0, v1, v2] st I J else GO x d 4 Q 77 [v0, v1, v2] st I J) := (ge (A := (33, 77, 88, 0, 0)) rfl).trans (gif (p := a = 0) inferInstance)
set_option maxRecDepth 10000 in
theorem g_4_77 : GO x d 4 Q 77 [v0, some (.inr (.inr w)), v2] st I J = GO x d 4 Q 78 [v0, some (.inr (.inr w)), v2] (.inr (.inr w) :: st) I J := ge (A := (2, 78, 1, 0, 0)) rfl
set_option maxRecDepth 10000 in
theorem g_4_78 : GO x d 4 Q 78 [v0, v1, v2] (.inr (.inr (.inl r)) :: st) I J = (okF r 3 10 ∧ GO x d 4 Q 81 [v0, v1, v2] (.inr (.inr (.inl (rfN r 10))) :: st) I J) := (ge (A := (39, 81, 3, 10, 0)) rfl).trans (gref (f := fun q => GO x d 4 Q 81 [v0, v1, v2] (.inr (.inr (.inl q)) :: st) I J))
set_option maxRecDepth 10000 in
theorem g_4_81 : GO x d 4 Q 81 [v0, v1, some (.inr (.inr w))] st I J = GO x d 4 Q 82 [v0, v1, some (.inr (.inr w))] (.inr (.inr w) :: st) I J := ge (A := (2, 82, 2, 0, 0)) rfl
set_option maxRecDepth 10000 in
theorem g_4_82 : GO x d 4 Q 82 [v0, v1, v2] (.inr (.inr (.inl r)) :: st) I J = (okO r 0 ∧ GO x d 4 Q 85 [v0, v1, v2] (.inl (I r 0) :: st) I J) := ge (A := (37, 85, 0, 0, 0)) rfl
set_option maxRecDepth 10000 in
theorem g_4_85 : GO x d 4 Q 85 [v0, v1, v2] st I J = GO x d 4 Q 87 [v0, v1, v2] (.inl (-1000000) :: st) I J := ge (A := (0, 87, 0, 0, -1000000)) rfl
set_option maxRecDepth 10000 in
theorem g_4_87 : GO x d 4 Q 87 [v0, v1, v2] (.inl b :: .inl a :: .inr (.inr (.inl r)) :: st) I J = (okA r 20 ∧ 0 ≤ a ∧ a < lnN r ∧ GO x d 4 Q 88 [v0, v1, v2] st (up I r a b) J) := ge (A := (45, 88, 0, 0, 0)) rfl
set_option maxRecDepth 10000 in
theorem g_4_88 : GO x d 4 Q 88 [v0, some (.inr (.inr w)), v2] st I J = GO x d 4 Q 89 [v0, some (.inr (.inr w)), v2] (.inr (.inr w) :: st) I J := ge (A := (2, 89, 1, 0, 0)) rfl
set_option maxRecDepth 10000 in
theorem g_4_89 : GO x d 4 Q 89 [v0, v1, some (.inr (.inr w))] st I J = GO x d 4 Q 90 [v0, v1, some (.inr (.inr w))] (.inr (.inr w) :: st) I J := ge (A := (2, 90, 2, 0, 0)) rfl
set_option maxRecDepth 10000 in
theorem g_4_90 : GO x d 4 Q 90 [v0, v1, v2] (.inr (.inr (.inl r)) :: st) I J = (okO r 0 ∧ GO x d 4 Q 93 [v0, v1, v2] (.inl (I r 1) :: st) I J) := ge (A := (37, 93, 0, 1, 0)) rfl
set_option maxRecDepth 10000 in
theorem g_4_93 : GO x d 4 Q 93 [v0, v1, v2] [.inl i0, .inr (.inr (.inl r))] I J = (okO r 3 ∧ EX x d 16 [.inr (.inr (.inl r)), .inl i0] I J (fun r1 I1 J1 => GO x d 4 Q 96 [v0, v1, v2] (r1.toList ++ []) I1 J1)) := (ge (A := (53, 96, 16, 1, 0)) rfl).trans (gtrue (Nat.le_of_ble_eq_true rfl))
set_option maxRecDepth 10000 in
theorem g_4_96 : GO x d 4 Q 96 [v0, v1, v2] (.inl a :: st) I J = (inR a ∧ if a = 0 then GO x d 4 Q 125 [v0, v1, v2] st I J else GO x d 4 Q 99 [v0, v1, v2] st I J) := (ge (A := (33, 99, 125, 0, 0)) rfl).trans (gif (p := a = 0) inferInstance)
set_option maxRecDepth 10000 in
theorem g_4_99 : GO x d 4 Q 99 [v0, some (.inr (.inr w)), v2] st I J = GO x d 4 Q 100 [v0, some (.inr (.inr w)), v2] (.inr (.inr w) :: st) I J := ge (A := (2, 100, 1, 0, 0)) rfl
set_option maxRecDepth 10000 in
theorem g_4_100 : GO x d 4 Q 100 [v0, v1, v2] (.inr (.inr (.inl r)) :: st) I J = (okF r 3 6 ∧ GO x d 4 Q 103 [v0, v1, v2] (.inr (.inr (.inl (rfN r 6))) :: st) I J) := (ge (A := (39, 103, 3, 6, 0)) rfl).trans (gref (f := fun q => GO x d 4 Q 103 [v0, v1, v2] (.inr (.inr (.inl q)) :: st) I J))
set_option maxRecDepth 10000 in
theorem g_4_103 : GO x d 4 Q 103 [v0, v1, some (.inr (.inr w))] st I J = GO x d 4 Q 104 [v0, v1, some (.inr (.inr w))] (.inr (.inr w) :: st) I J := ge (A := (2, 104, 2, 0, 0)) rfl
set_option maxRecDepth 10000 in
theorem g_4_104 : GO x d 4 Q 104 [v0, v1, v2] (.inr (.inr (.inl r)) :: st) I J = (okO r 0 ∧ GO x d 4 Q 107 [v0, v1, v2] (.inl (I r 1) :: st) I J) := ge (A := (37, 107, 0, 1, 0)) rfl
set_option maxRecDepth 10000 in
theorem g_4_107 : GO x d 4 Q 107 [v0, v1, some (.inr (.inr w))] st I J = GO x d 4 Q 108 [v0, v1, some (.inr (.inr w))] (.inr (.inr w) :: st) I J := ge (A := (2, 108, 2, 0, 0)) rfl
set_option maxRecDepth 10000 in
theorem g_4_108 : GO x d 4 Q 108 [v0, v1, v2] (.inr (.inr (.inl r)) :: st) I J = (okO r 0 ∧ GO x d 4 Q 111 [v0, v1, v2] (.inl (I r 5) :: st) I J) := ge (A := (37, 111, 0, 5, 0)) rfl
set_option maxRecDepth 10000 in
theorem g_4_111 : GO x d 4 Q 111 [v0, v1, v2] (.inl b :: .inl a :: .inr (.inr (.inl r)) :: st) I J = (okA r 20 ∧ 0 ≤ a ∧ a < lnN r ∧ GO x d 4 Q 112 [v0, v1, v2] st (up I r a b) J) := ge (A := (45, 112, 0, 0, 0)) rfl
set_option maxRecDepth 10000 in
theorem g_4_112 : GO x d 4 Q 112 [v0, some (.inr (.inr w)), v2] st I J = GO x d 4 Q 113 [v0, some (.inr (.inr w)), v2] (.inr (.inr w) :: st) I J := ge (A := (2, 113, 1, 0, 0)) rfl
set_option maxRecDepth 10000 in
theorem g_4_113 : GO x d 4 Q 113 [v0, v1, v2] (.inr (.inr (.inl r)) :: st) I J = (okF r 3 7 ∧ GO x d 4 Q 116 [v0, v1, v2] (.inr (.inr (.inl (rfN r 7))) :: st) I J) := (ge (A := (39, 116, 3, 7, 0)) rfl).trans (gref (f := fun q => GO x d 4 Q 116 [v0, v1, v2] (.inr (.inr (.inl q)) :: st) I J))
set_option maxRecDepth 10000 in
theorem g_4_116 : GO x d 4 Q 116 [v0, v1, some (.inr (.inr w))] st I J = GO x d 4 Q 117 [v0, v1, some (.inr (.inr w))] (.inr (.inr w) :: st) I J := ge (A := (2, 117, 2, 0, 0)) rfl
set_option maxRecDepth 10000 in
theorem g_4_117 : GO x d 4 Q 117 [v0, v1, v2] (.inr (.inr (.inl r)) :: st) I J = (okO r 0 ∧ GO x d 4 Q 120 [v0, v1, v2] (.inl (I r 1) :: st) I J) := ge (A := (37, 120, 0, 1, 0)) rfl
set_option maxRecDepth 10000 in
theorem g_4_120 : GO x d 4 Q 120 [v0, v1, v2] (.inl a :: .inr (.inr w) :: st) I J = GO x d 4 Q 121 [v0, v1, v2] (.inl a :: .inr (.inr w) :: .inl a :: .inr (.inr w) :: st) I J := ge (A := (32, 121, 0, 0, 0)) rfl
set_option maxRecDepth 10000 in
theorem h_4_121 : GO x d 4 Q 121 [v0, v1, v2] (.inl a :: .inr (.inr (.inr q)) :: st) I J = (q < 4 ∧ 0 ≤ a ∧ a < (roA x q).1 ∧ GO x d 4 Q 122 [v0, v1, v2] (.inl ((roA x q).2 a.toNat) :: st) I J) := ge (A := (44, 122, 0, 0, 0)) rfl
set_option maxRecDepth 10000 in
theorem g_4_121 : GO x d 4 Q 121 [v0, v1, v2] (.inl a :: .inr (.inr (.inl r)) :: st) I J = (okA r 20 ∧ 0 ≤ a ∧ a < lnN r ∧ GO x d 4 Q 122 [v0, v1, v2] (.inl (I r a) :: st) I J) := ge (A := (44, 122, 0, 0, 0)) rfl
set_option maxRecDepth 10000 in
theorem g_4_122 : GO x d 4 Q 122 [v0, v1, v2] st I J = GO x d 4 Q 123 [v0, v1, v2] (.inl (1) :: st) I J := ge (A := (0, 123, 0, 0, 1)) rfl
set_option maxRecDepth 10000 in
theorem g_4_123 : GO x d 4 Q 123 [v0, v1, v2] (.inl b :: .inl a :: st) I J = GO x d 4 Q 124 [v0, v1, v2] (.inl (a - b) :: st) I J := ge (A := (9, 124, 0, 0, 0)) rfl
set_option maxRecDepth 10000 in
theorem g_4_124 : GO x d 4 Q 124 [v0, v1, v2] (.inl b :: .inl a :: .inr (.inr (.inl r)) :: st) I J = (okA r 20 ∧ 0 ≤ a ∧ a < lnN r ∧ GO x d 4 Q 125 [v0, v1, v2] st (up I r a b) J) := ge (A := (45, 125, 0, 0, 0)) rfl
set_option maxRecDepth 10000 in
theorem g_4_125 : GO x d 4 Q 125 [v0, v1, v2] [] I J = Q none I J := ge (A := (57, 126, 0, 0, 0)) rfl
set_option maxRecDepth 10000 in
theorem e_4 : EX x (d + 1) 4 [.inr (.inr w0), .inr (.inr w1)] I J Q = GO x d 4 Q 0 [some (.inr (.inr w0)), some (.inr (.inr w1)), none] [] I J := ex_eq (Nat.le_of_ble_eq_true rfl) rfl (Nat.le_of_ble_eq_true rfl) rfl
set_option maxRecDepth 10000 in
theorem g_6_0 : GO x d 6 Q 0 [some (.inr (.inr w)), v1, v2, v3] st I J = GO x d 6 Q 1 [some (.inr (.inr w)), v1, v2, v3] (.inr (.inr w) :: st) I J := ge (A := (2, 1, 0, 0, 0)) rfl
set_option maxRecDepth 10000 in
theorem g_6_1 : GO x d 6 Q 1 [v0, v1, v2, v3] st I J = GO x d 6 Q 2 [v0, v1, v2, v3] (.inl (0) :: st) I J := ge (A := (0, 2, 0, 0, 0)) rfl
set_option maxRecDepth 10000 in
theorem g_6_2 : GO x d 6 Q 2 [v0, v1, v2, v3] (.inl a :: .inr (.inr (.inl r)) :: st) I J = (okO r 2 ∧ GO x d 6 Q 5 [v0, v1, v2, v3] st (up I r 1 a) J) := ge (A := (40, 5, 2, 1, 0)) rfl
set_option maxRecDepth 10000 in
theorem g_6_5 : GO x d 6 Q 5 [some (.inr (.inr w)), v1, v2, v3] st I J = GO x d 6 Q 6 [some (.inr (.inr w)), v1, v2, v3] (.inr (.inr w) :: st) I J := ge (A := (2, 6, 0, 0, 0)) rfl
set_option maxRecDepth 10000 in
theorem g_6_6 : GO x d 6 Q 6 [v0, some (.inr (.inr w)), v2, v3] st I J = GO x d 6 Q 7 [v0, some (.inr (.inr w)), v2, v3] (.inr (.inr w) :: st) I J := ge (A := (2, 7, 1, 0, 0)) rfl
set_option maxRecDepth 10000 in
theorem g_6_7 : GO x d 6 Q 7 [v0, some (.inr (.inr w)), v2, v3] st I J = GO x d 6 Q 8 [v0, some (.inr (.inr w)), v2, v3] (.inr (.inr w) :: st) I J := ge (A := (2, 8, 1, 0, 0)) rfl
set_option maxRecDepth 10000 in
theorem g_6_8 : GO x d 6 Q 8 [v0, v1, some (.inl a), v3] st I J = GO x d 6 Q 9 [v0, v1, some (.inl a), v3] (.inl a :: st) I J := ge (A := (1, 9, 2, 0, 0)) rfl
set_option maxRecDepth 10000 in
theorem g_6_9 : GO x d 6 Q 9 [v0, v1, v2, some (.inr (.inr w))] st I J = GO x d 6 Q 10 [v0, v1, v2, some (.inr (.inr w))] (.inr (.inr w) :: st) I J := ge (A := (2, 10, 3, 0, 0)) rfl
set_option maxRecDepth 10000 in
theorem g_6_10 : GO x d 6 Q 10 [v0, v1, v2, v3] [.inr (.inr w0), .inl i0, .inr (.inr w1), .inr (.inr w3), .inr (.inr w4)] I J = EX x d 8 [.inr (.inr w1), .inl i0, .inr (.inr w0)] I J (fun r1 I1 J1 => GO x d 6 Q 13 [v0, v1, v2, v3] (r1.toList ++ [.inr (.inr w3), .inr (.inr w4)]) I1 J1) := (ge (A := (52, 13, 8, 3, 0)) rfl).trans (gtrue2 (Nat.le_of_ble_eq_true rfl) (Nat.le_of_ble_eq_true rfl))
set_option maxRecDepth 10000 in
theorem g_6_13 : GO x d 6 Q 13 [v0, v1, some (.inl a), v3] st I J = GO x d 6 Q 14 [v0, v1, some (.inl a), v3] (.inl a :: st) I J := ge (A := (1, 14, 2, 0, 0)) rfl
set_option maxRecDepth 10000 in
theorem g_6_14 : GO x d 6 Q 14 [v0, v1, v2, v3] st I J = GO x d 6 Q 15 [v0, v1, v2, v3] (.inl (0) :: st) I J := ge (A := (0, 15, 0, 0, 0)) rfl
set_option maxRecDepth 10000 in
theorem g_6_15 : GO x d 6 Q 15 [v0, v1, v2, v3] [.inl i0, .inl i1, .inl i2, .inr (.inr w0), .inr (.inr w1)] I J = EX x d 9 [.inr (.inr w1), .inr (.inr w0), .inl i2, .inl i1, .inl i0] I J (fun r1 I1 J1 => GO x d 6 Q 18 [v0, v1, v2, v3] (r1.toList ++ []) I1 J1) := (ge (A := (52, 18, 9, 5, 0)) rfl).trans (gtrue2 (Nat.le_of_ble_eq_true rfl) (Nat.le_of_ble_eq_true rfl))
set_option maxRecDepth 10000 in
theorem g_6_18 : GO x d 6 Q 18 [v0, v1, v2, v3] [.inl a] I J = Q (some (.inl a)) I J := ge (A := (55, 19, 0, 0, 0)) rfl
set_option maxRecDepth 10000 in
theorem e_6 : EX x (d + 1) 6 [.inr (.inr w0), .inr (.inr w1), .inl i0, .inr (.inr w3)] I J Q = GO x d 6 Q 0 [some (.inr (.inr w0)), some (.inr (.inr w1)), some (.inl i0), some (.inr (.inr w3))] [] I J := ex_eq (Nat.le_of_ble_eq_true rfl) rfl (Nat.le_of_ble_eq_true rfl) rfl
set_option maxRecDepth 10000 in
theorem g_7_0 : GO x d 7 Q 0 [v0, some (.inl a)] st I J = GO x d 7 Q 1 [v0, some (.inl a)] (.inl a :: st) I J := ge (A := (1, 1, 1, 0, 0)) rfl
set_option maxRecDepth 10000 in
theorem g_7_1 : GO x d 7 Q 1 [v0, v1] (.inl a :: st) I J = (inR a ∧ if a < 0 then GO x d 7 Q 27 [v0, v1] st I J else GO x d 7 Q 4 [v0, v1] st I J) := (ge (A := (33, 4, 27, 2, 0)) rfl).trans (gif (p := a < 0) inferInstance)
set_option maxRecDepth 10000 in
theorem g_7_4 : GO x d 7 Q 4 [v0, some (.inl a)] st I J = GO x d 7 Q 5 [v0, some (.inl a)] (.inl a :: st) I J := ge (A := (1, 5, 1, 0, 0)) rfl
set_option maxRecDepth 10000 in
theorem g_7_5 : GO x d 7 Q 5 [some (.inr (.inr w)), v1] st I J = GO x d 7 Q 6 [some (.inr (.inr w)), v1] (.inr (.inr w) :: st) I J := ge (A := (2, 6, 0, 0, 0)) rfl
set_option maxRecDepth 10000 in
theorem g_7_6 : GO x d 7 Q 6 [v0, v1] (.inr (.inr (.inl r)) :: st) I J = (okO r 2 ∧ GO x d 7 Q 9 [v0, v1] (.inl (I r 1) :: st) I J) := ge (A := (37, 9, 2, 1, 0)) rfl
set_option maxRecDepth 10000 in
theorem g_7_9 : GO x d 7 Q 9 [v0, v1] (.inl b :: .inl a :: st) I J = (inR a ∧ inR b ∧ if a < b then GO x d 7 Q 12 [v0, v1] st I J else GO x d 7 Q 27 [v0, v1] st I J) := (ge (A := (34, 12, 27, 3, 0)) rfl).trans (ggec)
set_option maxRecDepth 10000 in
theorem g_7_12 : GO x d 7 Q 12 [v0, some (.inl a)] st I J = GO x d 7 Q 13 [v0, some (.inl a)] (.inl a :: st) I J := ge (A := (1, 13, 1, 0, 0)) rfl
set_option maxRecDepth 10000 in
theorem g_7_13 : GO x d 7 Q 13 [v0, v1] st I J = GO x d 7 Q 15 [v0, v1] (.inl (16) :: st) I J := ge (A := (0, 15, 0, 0, 16)) rfl
set_option maxRecDepth 10000 in
theorem g_7_15 : GO x d 7 Q 15 [v0, v1] (.inl b :: .inl a :: st) I J = (inR a ∧ inR b ∧ if a < b then GO x d 7 Q 18 [v0, v1] st I J else GO x d 7 Q 27 [v0, v1] st I J) := (ge (A := (34, 18, 27, 3, 0)) rfl).trans (ggec)
set_option maxRecDepth 10000 in
theorem g_7_18 : GO x d 7 Q 18 [some (.inr (.inr w)), v1] st I J = GO x d 7 Q 19 [some (.inr (.inr w)), v1] (.inr (.inr w) :: st) I J := ge (A := (2, 19, 0, 0, 0)) rfl
set_option maxRecDepth 10000 in
theorem g_7_19 : GO x d 7 Q 19 [v0, v1] (.inr (.inr (.inl r)) :: st) I J = (okF r 2 0 ∧ GO x d 7 Q 22 [v0, v1] (.inr (.inr (.inl (rfN r 0))) :: st) I J) := (ge (A := (39, 22, 2, 0, 0)) rfl).trans (gref (f := fun q => GO x d 7 Q 22 [v0, v1] (.inr (.inr (.inl q)) :: st) I J))
set_option maxRecDepth 10000 in
theorem g_7_22 : GO x d 7 Q 22 [v0, some (.inl a)] st I J = GO x d 7 Q 23 [v0, some (.inl a)] (.inl a :: st) I J := ge (A := (1, 23, 1, 0, 0)) rfl
set_option maxRecDepth 10000 in
theorem h_7_23 : GO x d 7 Q 23 [v0, v1] (.inl a :: .inr (.inr (.inr q)) :: st) I J = (q < 4 ∧ 0 ≤ a ∧ a < (roA x q).1 ∧ GO x d 7 Q 24 [v0, v1] (.inl ((roA x q).2 a.toNat) :: st) I J) := ge (A := (44, 24, 0, 0, 0)) rfl
set_option maxRecDepth 10000 in
theorem g_7_23 : GO x d 7 Q 23 [v0, v1] (.inl a :: .inr (.inr (.inl r)) :: st) I J = (okA r 20 ∧ 0 ≤ a ∧ a < lnN r ∧ GO x d 7 Q 24 [v0, v1] (.inl (I r a) :: st) I J) := ge (A := (44, 24, 0, 0, 0)) rfl
set_option maxRecDepth 10000 in
theorem g_7_24 : GO x d 7 Q 24 [v0, v1] st I J = GO x d 7 Q 29 [v0, v1] st I J := ge (A := (35, 27, 29, 0, 0)) rfl
set_option maxRecDepth 10000 in
theorem g_7_27 : GO x d 7 Q 27 [v0, v1] st I J = GO x d 7 Q 29 [v0, v1] (.inl (-1000000) :: st) I J := ge (A := (0, 29, 0, 0, -1000000)) rfl
set_option maxRecDepth 10000 in
theorem g_7_29 : GO x d 7 Q 29 [v0, v1] [.inl a] I J = Q (some (.inl a)) I J := ge (A := (55, 30, 0, 0, 0)) rfl
set_option maxRecDepth 10000 in
theorem e_7 : EX x (d + 1) 7 [.inr (.inr w0), .inl i0] I J Q = GO x d 7 Q 0 [some (.inr (.inr w0)), some (.inl i0)] [] I J := ex_eq (Nat.le_of_ble_eq_true rfl) rfl (Nat.le_of_ble_eq_true rfl) rfl
set_option maxRecDepth 10000 in
theorem g_8_0 : GO x d 8 Q 0 [some (.inr (.inr w)), v1, v2, v3, v4] st I J = GO x d 8 Q 1 [some (.inr (.inr w)), v1, v2, v3, v4] (.inr (.inr w) :: st) I J := ge (A := (2, 1, 0, 0, 0)) rfl
set_option maxRecDepth 10000 in
theorem g_8_1 : GO x d 8 Q 1 [v0, some (.inl a), v2, v3, v4] st I J = GO x d 8 Q 2 [v0, some (.inl a), v2, v3, v4] (.inl a :: st) I J := ge (A := (1, 2, 1, 0, 0)) rfl
set_option maxRecDepth 10000 in
theorem g_8_2 : GO x d 8 Q 2 [v0, v1, v2, v3, v4] [.inl i0, .inr (.inr (.inl r))] I J = (okO r 3 ∧ EX x d 16 [.inr (.inr (.inl r)), .inl i0] I J (fun r1 I1 J1 => GO x d 8 Q 5 [v0, v1, v2, v3, v4] (r1.toList ++ []) I1 J1)) := (ge (A := (53, 5, 16, 1, 0)) rfl).trans (gtrue (Nat.le_of_ble_eq_true rfl))
set_option maxRecDepth 10000 in
theorem g_8_5 : GO x d 8 Q 5 [v0, v1, v2, v3, v4] (.inl a :: st) I J = (inR a ∧ if a = 0 then GO x d 8 Q 17 [v0, v1, v2, v3, v4] st I J else GO x d 8 Q 8 [v0, v1, v2, v3, v4] st I J) := (ge (A := (33, 8, 17, 0, 0)) rfl).trans (gif (p := a = 0) inferInstance)
set_option maxRecDepth 10000 in
theorem g_8_8 : GO x d 8 Q 8 [some (.inr (.inr w)), v1, v2, v3, v4] st I J = GO x d 8 Q 9 [some (.inr (.inr w)), v1, v2, v3, v4] (.inr (.inr w) :: st) I J := ge (A := (2, 9, 0, 0, 0)) rfl
set_option maxRecDepth 10000 in
theorem g_8_9 : GO x d 8 Q 9 [v0, v1, v2, v3, v4] (.inr (.inr (.inl r)) :: st) I J = (okF r 3 4 ∧ GO x d 8 Q 12 [v0, v1, v2, v3, v4] (.inr (.inr (.inl (rfN r 4))) :: st) I J) := (ge (A := (39, 12, 3, 4, 0)) rfl).trans (gref (f := fun q => GO x d 8 Q 12 [v0, v1, v2, v3, v4] (.inr (.inr (.inl q)) :: st) I J))
set_option maxRecDepth 10000 in
theorem g_8_12 : GO x d 8 Q 12 [v0, some (.inl a), v2, v3, v4] st I J = GO x d 8 Q 13 [v0, some (.inl a), v2, v3, v4] (.inl a :: st) I J := ge (A := (1, 13, 1, 0, 0)) rfl
set_option maxRecDepth 10000 in
theorem h_8_13 : GO x d 8 Q 13 [v0, v1, v2, v3, v4] (.inl a :: .inr (.inr (.inr q)) :: st) I J = (q < 4 ∧ 0 ≤ a ∧ a < (roA x q).1 ∧ GO x d 8 Q 14 [v0, v1, v2, v3, v4] (.inl ((roA x q).2 a.toNat) :: st) I J) := ge (A := (44, 14, 0, 0, 0)) rfl
set_option maxRecDepth 10000 in
theorem g_8_13 : GO x d 8 Q 13 [v0, v1, v2, v3, v4] (.inl a :: .inr (.inr (.inl r)) :: st) I J = (okA r 20 ∧ 0 ≤ a ∧ a < lnN r ∧ GO x d 8 Q 14 [v0, v1, v2, v3, v4] (.inl (I r a) :: st) I J) := ge (A := (44, 14, 0, 0, 0)) rfl
set_option maxRecDepth 10000 in
theorem g_8_14 : GO x d 8 Q 14 [v0, v1, v2, v3, v4] st I J = GO x d 8 Q 18 [v0, v1, v2, v3, v4] st I J := ge (A := (35, 17, 18, 0, 0)) rfl
set_option maxRecDepth 10000 in
theorem g_8_17 : GO x d 8 Q 17 [v0, v1, v2, v3, v4] st I J = GO x d 8 Q 18 [v0, v1, v2, v3, v4] (.inl (0) :: st) I J := ge (A := (0, 18, 0, 0, 0)) rfl
set_option maxRecDepth 10000 in
theorem g_8_18 : GO x d 8 Q 18 [v0, v1, v2, v3, v4] (.inl a :: st) I J = (nlO (some v2) = true ∧ GO x d 8 Q 19 [v0, v1, v2, some (.inl a), v4] st I J) := (ge (A := (4, 19, 3, 0, 0)) rfl).trans (gst (Nat.le_of_ble_eq_true rfl) _)
set_option maxRecDepth 10000 in
theorem g_8_19 : GO x d 8 Q 19 [v0, v1, v2, v3, v4] st I J = GO x d 8 Q 20 [v0, v1, v2, v3, v4] (.inl (0) :: st) I J := ge (A := (0, 20, 0, 0, 0)) rfl
set_option maxRecDepth 10000 in
theorem g_8_20 : GO x d 8 Q 20 [v0, v1, v2, v3, v4] (.inl a :: st) I J = (nlO (some v3) = true ∧ GO x d 8 Q 22 [v0, v1, v2, v3, some (.inl a)] st I J) := (ge (A := (4, 22, 4, 0, 0)) rfl).trans (gst (Nat.le_of_ble_eq_true rfl) _)
set_option maxRecDepth 10000 in
theorem g_8_22 : GO x d 8 Q 22 [v0, v1, v2, v3, some (.inl a)] st I J = GO x d 8 Q 24 [v0, v1, v2, v3, some (.inl a)] (.inl a :: st) I J := ge (A := (1, 24, 4, 0, 0)) rfl
set_option maxRecDepth 10000 in
theorem g_8_24 : GO x d 8 Q 24 [v0, v1, v2, v3, v4] st I J = GO x d 8 Q 26 [v0, v1, v2, v3, v4] (.inl (6) :: st) I J := ge (A := (0, 26, 0, 0, 6)) rfl
set_option maxRecDepth 10000 in
theorem g_8_26 : GO x d 8 Q 26 [v0, v1, v2, v3, v4] (.inl b :: .inl a :: st) I J = (inR a ∧ inR b ∧ if a < b then GO x d 8 Q 29 [v0, v1, v2, v3, v4] st I J else GO x d 8 Q 66 [v0, v1, v2, v3, v4] st I J) := (ge (A := (34, 29, 66, 3, 0)) rfl).trans (ggec)
set_option maxRecDepth 10000 in
theorem g_8_29 : GO x d 8 Q 29 [v0, v1, v2, some (.inl a), v4] st I J = GO x d 8 Q 30 [v0, v1, v2, some (.inl a), v4] (.inl a :: st) I J := ge (A := (1, 30, 3, 0, 0)) rfl
set_option maxRecDepth 10000 in
theorem g_8_30 : GO x d 8 Q 30 [v0, v1, v2, v3, v4] (.inl a :: st) I J = (inR a ∧ if 0 < a then GO x d 8 Q 33 [v0, v1, v2, v3, v4] st I J else GO x d 8 Q 66 [v0, v1, v2, v3, v4] st I J) := (ge (A := (33, 33, 66, 5, 0)) rfl).trans (gge)
set_option maxRecDepth 10000 in
theorem g_8_33 : GO x d 8 Q 33 [v0, v1, v2, some (.inl a), v4] st I J = GO x d 8 Q 34 [v0, v1, v2, some (.inl a), v4] (.inl a :: st) I J := ge (A := (1, 34, 3, 0, 0)) rfl
set_option maxRecDepth 10000 in
theorem g_8_34 : GO x d 8 Q 34 [v0, v1, v2, v3, v4] st I J = GO x d 8 Q 36 [v0, v1, v2, v3, v4] (.inl (6) :: st) I J := ge (A := (0, 36, 0, 0, 6)) rfl
set_option maxRecDepth 10000 in
theorem g_8_36 : GO x d 8 Q 36 [v0, v1, v2, v3, v4] (.inl b :: .inl a :: st) I J = (inR a ∧ inR b ∧ if a < b then GO x d 8 Q 39 [v0, v1, v2, v3, v4] st I J else GO x d 8 Q 66 [v0, v1, v2, v3, v4] st I J) := (ge (A := (34, 39, 66, 3, 0)) rfl).trans (ggec)
set_option maxRecDepth 10000 in
theorem g_8_39 : GO x d 8 Q 39 [v0, v1, v2, some (.inl a), v4] st I J = GO x d 8 Q 40 [v0, v1, v2, some (.inl a), v4] (.inl a :: st) I J := ge (A := (1, 40, 3, 0, 0)) rfl
set_option maxRecDepth 10000 in
theorem g_8_40 : GO x d 8 Q 40 [v0, v1, some (.inr (.inr w)), v3, v4] st I J = GO x d 8 Q 41 [v0, v1, some (.inr (.inr w)), v3, v4] (.inr (.inr w) :: st) I J := ge (A := (2, 41, 2, 0, 0)) rfl
set_option maxRecDepth 10000 in
theorem h_8_41 : GO x d 8 Q 41 [v0, v1, v2, v3, v4] (.inr (.inr (.inr q)) :: st) I J = (q < 4 ∧ GO x d 8 Q 42 [v0, v1, v2, v3, v4] (.inl (roA x q).1 :: st) I J) := ge (A := (51, 42, 0, 0, 0)) rfl
set_option maxRecDepth 10000 in
theorem g_8_41 : GO x d 8 Q 41 [v0, v1, v2, v3, v4] (.inr (.inr (.inl r)) :: st) I J = (okL r ∧ GO x d 8 Q 42 [v0, v1, v2, v3, v4] (.inl (lnN r) :: st) I J) := (ge (A := (51, 42, 0, 0, 0)) rfl).trans glen
set_option maxRecDepth 10000 in
theorem g_8_42 : GO x d 8 Q 42 [v0, v1, v2, v3, v4] (.inl b :: .inl a :: st) I J = (inR a ∧ inR b ∧ if a < b then GO x d 8 Q 45 [v0, v1, v2, v3, v4] st I J else GO x d 8 Q 66 [v0, v1, v2, v3, v4] st I J) := (ge (A := (34, 45, 66, 3, 0)) rfl).trans (ggec)
set_option maxRecDepth 10000 in
theorem g_8_45 : GO x d 8 Q 45 [v0, v1, some (.inr (.inr w)), v3, v4] st I J = GO x d 8 Q 46 [v0, v1, some (.inr (.inr w)), v3, v4] (.inr (.inr w) :: st) I J := ge (A := (2, 46, 2, 0, 0)) rfl
set_option maxRecDepth 10000 in
theorem g_8_46 : GO x d 8 Q 46 [v0, v1, v2, some (.inl a), v4] st I J = GO x d 8 Q 47 [v0, v1, v2, some (.inl a), v4] (.inl a :: st) I J := ge (A := (1, 47, 3, 0, 0)) rfl
set_option maxRecDepth 10000 in
theorem h_8_47 : GO x d 8 Q 47 [v0, v1, v2, v3, v4] (.inl a :: .inr (.inr (.inr q)) :: st) I J = (q < 4 ∧ 0 ≤ a ∧ a < (roA x q).1 ∧ GO x d 8 Q 48 [v0, v1, v2, v3, v4] (.inl ((roA x q).2 a.toNat) :: st) I J) := ge (A := (44, 48, 0, 0, 0)) rfl
set_option maxRecDepth 10000 in
theorem g_8_47 : GO x d 8 Q 47 [v0, v1, v2, v3, v4] (.inl a :: .inr (.inr (.inl r)) :: st) I J = (okA r 20 ∧ 0 ≤ a ∧ a < lnN r ∧ GO x d 8 Q 48 [v0, v1, v2, v3, v4] (.inl (I r a) :: st) I J) := ge (A := (44, 48, 0, 0, 0)) rfl
set_option maxRecDepth 10000 in
theorem g_8_48 : GO x d 8 Q 48 [v0, v1, v2, v3, v4] (.inl a :: st) I J = (inR a ∧ if a = 0 then GO x d 8 Q 55 [v0, v1, v2, v3, v4] st I J else GO x d 8 Q 51 [v0, v1, v2, v3, v4] st I J) := (ge (A := (33, 51, 55, 0, 0)) rfl).trans (gif (p := a = 0) inferInstance)
set_option maxRecDepth 10000 in
theorem g_8_51 : GO x d 8 Q 51 [v0, v1, some (.inr (.inr w)), v3, v4] st I J = GO x d 8 Q 52 [v0, v1, some (.inr (.inr w)), v3, v4] (.inr (.inr w) :: st) I J := ge (A := (2, 52, 2, 0, 0)) rfl
set_option maxRecDepth 10000 in
theorem g_8_52 : GO x d 8 Q 52 [v0, v1, v2, some (.inl a), v4] st I J = GO x d 8 Q 53 [v0, v1, v2, some (.inl a), v4] (.inl a :: st) I J := ge (A := (1, 53, 3, 0, 0)) rfl
set_option maxRecDepth 10000 in
theorem h_8_53 : GO x d 8 Q 53 [v0, v1, v2, v3, v4] (.inl a :: .inr (.inr (.inr q)) :: st) I J = (q < 4 ∧ 0 ≤ a ∧ a < (roA x q).1 ∧ GO x d 8 Q 54 [v0, v1, v2, v3, v4] (.inl ((roA x q).2 a.toNat) :: st) I J) := ge (A := (44, 54, 0, 0, 0)) rfl
set_option maxRecDepth 10000 in
theorem g_8_53 : GO x d 8 Q 53 [v0, v1, v2, v3, v4] (.inl a :: .inr (.inr (.inl r)) :: st) I J = (okA r 20 ∧ 0 ≤ a ∧ a < lnN r ∧ GO x d 8 Q 54 [v0, v1, v2, v3, v4] (.inl (I r a) :: st) I J) := ge (A := (44, 54, 0, 0, 0)) rfl
set_option maxRecDepth 10000 in
theorem g_8_54 : GO x d 8 Q 54 [v0, v1, v2, v3, v4] [.inl a] I J = Q (some (.inl a)) I J := ge (A := (55, 55, 0, 0, 0)) rfl
set_option maxRecDepth 10000 in
theorem g_8_55 : GO x d 8 Q 55 [v0, v1, v2, some (.inl a), v4] st I J = GO x d 8 Q 56 [v0, v1, v2, some (.inl a), v4] (.inl a :: st) I J := ge (A := (1, 56, 3, 0, 0)) rfl
set_option maxRecDepth 10000 in
theorem g_8_56 : GO x d 8 Q 56 [v0, v1, v2, v3, v4] [.inl i0] I J = EX x d 106 [.inl i0] I J (fun r1 I1 J1 => GO x d 8 Q 59 [v0, v1, v2, v3, v4] (r1.toList ++ []) I1 J1) := (ge (A := (52, 59, 106, 1, 1)) rfl).trans (gtrue2 (Nat.le_of_ble_eq_true rfl) (Nat.le_of_ble_eq_true rfl))
set_option maxRecDepth 10000 in
theorem g_8_59 : GO x d 8 Q 59 [v0, v1, v2, v3, v4] (.inl a :: st) I J = (nlO (some v2) = true ∧ GO x d 8 Q 60 [v0, v1, v2, some (.inl a), v4] st I J) := (ge (A := (4, 60, 3, 0, 0)) rfl).trans (gst (Nat.le_of_ble_eq_true rfl) _)
set_option maxRecDepth 10000 in
theorem g_8_60 : GO x d 8 Q 60 [v0, v1, v2, v3, some (.inl a)] st I J = (nlO (some v3) = true ∧ GO x d 8 Q 63 [v0, v1, v2, v3, some (.inl (a + (1)))] st I J) := ge (A := (7, 63, 4, 0, 1)) rfl
set_option maxRecDepth 10000 in
theorem g_8_63 : GO x d 8 Q 63 [v0, v1, v2, v3, v4] st I J = GO x d 8 Q 22 [v0, v1, v2, v3, v4] st I J := ge (A := (35, 66, 22, 0, 0)) rfl
set_option maxRecDepth 10000 in
theorem g_8_66 : GO x d 8 Q 66 [v0, v1, some (.inr (.inr w)), v3, v4] st I J = GO x d 8 Q 67 [v0, v1, some (.inr (.inr w)), v3, v4] (.inr (.inr w) :: st) I J := ge (A := (2, 67, 2, 0, 0)) rfl
set_option maxRecDepth 10000 in
theorem h_8_67 : GO x d 8 Q 67 [v0, v1, v2, v3, v4] (.inr (.inr (.inr q)) :: st) I J = (q < 4 ∧ GO x d 8 Q 68 [v0, v1, v2, v3, v4] (.inl (roA x q).1 :: st) I J) := ge (A := (51, 68, 0, 0, 0)) rfl
set_option maxRecDepth 10000 in
theorem g_8_67 : GO x d 8 Q 67 [v0, v1, v2, v3, v4] (.inr (.inr (.inl r)) :: st) I J = (okL r ∧ GO x d 8 Q 68 [v0, v1, v2, v3, v4] (.inl (lnN r) :: st) I J) := (ge (A := (51, 68, 0, 0, 0)) rfl).trans glen
set_option maxRecDepth 10000 in
theorem g_8_68 : GO x d 8 Q 68 [v0, v1, v2, v3, v4] (.inl a :: st) I J = (inR a ∧ if 0 < a then GO x d 8 Q 71 [v0, v1, v2, v3, v4] st I J else GO x d 8 Q 77 [v0, v1, v2, v3, v4] st I J) := (ge (A := (33, 71, 77, 5, 0)) rfl).trans (gge)
set_option maxRecDepth 10000 in
theorem g_8_71 : GO x d 8 Q 71 [v0, v1, some (.inr (.inr w)), v3, v4] st I J = GO x d 8 Q 72 [v0, v1, some (.inr (.inr w)), v3, v4] (.inr (.inr w) :: st) I J := ge (A := (2, 72, 2, 0, 0)) rfl
set_option maxRecDepth 10000 in
theorem g_8_72 : GO x d 8 Q 72 [v0, v1, v2, v3, v4] st I J = GO x d 8 Q 73 [v0, v1, v2, v3, v4] (.inl (0) :: st) I J := ge (A := (0, 73, 0, 0, 0)) rfl
set_option maxRecDepth 10000 in
theorem h_8_73 : GO x d 8 Q 73 [v0, v1, v2, v3, v4] (.inl a :: .inr (.inr (.inr q)) :: st) I J = (q < 4 ∧ 0 ≤ a ∧ a < (roA x q).1 ∧ GO x d 8 Q 74 [v0, v1, v2, v3, v4] (.inl ((roA x q).2 a.toNat) :: st) I J) := ge (A := (44, 74, 0, 0, 0)) rfl
set_option maxRecDepth 10000 in
theorem g_8_73 : GO x d 8 Q 73 [v0, v1, v2, v3, v4] (.inl a :: .inr (.inr (.inl r)) :: st) I J = (okA r 20 ∧ 0 ≤ a ∧ a < lnN r ∧ GO x d 8 Q 74 [v0, v1, v2, v3, v4] (.inl (I r a) :: st) I J) := ge (A := (44, 74, 0, 0, 0)) rfl
set_option maxRecDepth 10000 in
theorem g_8_74 : GO x d 8 Q 74 [v0, v1, v2, v3, v4] st I J = GO x d 8 Q 78 [v0, v1, v2, v3, v4] st I J := ge (A := (35, 77, 78, 0, 0)) rfl
set_option maxRecDepth 10000 in
theorem g_8_77 : GO x d 8 Q 77 [v0, v1, v2, v3, v4] st I J = GO x d 8 Q 78 [v0, v1, v2, v3, v4] (.inl (0) :: st) I J := ge (A := (0, 78, 0, 0, 0)) rfl
set_option maxRecDepth 10000 in
theorem g_8_78 : GO x d 8 Q 78 [v0, v1, v2, v3, v4] [.inl a] I J = Q (some (.inl a)) I J := ge (A := (55, 79, 0, 0, 0)) rfl
set_option maxRecDepth 10000 in
theorem e_8 : EX x (d + 1) 8 [.inr (.inr w0), .inl i0, .inr (.inr w1)] I J Q = GO x d 8 Q 0 [some (.inr (.inr w0)), some (.inl i0), some (.inr (.inr w1)), none, none] [] I J := ex_eq (Nat.le_of_ble_eq_true rfl) rfl (Nat.le_of_ble_eq_true rfl) rfl
set_option maxRecDepth 10000 in
theorem g_9_0 : GO x d 9 Q 0 [v0, v1, v2, v3, some (.inl a), v5] st I J = GO x d 9 Q 2 [v0, v1, v2, v3, some (.inl a), v5] (.inl a :: st) I J := ge (A := (1, 2, 4, 0, 0)) rfl
set_option maxRecDepth 10000 in
theorem g_9_2 : GO x d 9 Q 2 [v0, v1, v2, v3, v4, v5] st I J = GO x d 9 Q 4 [v0, v1, v2, v3, v4, v5] (.inl (8) :: st) I J := ge (A := (0, 4, 0, 0, 8)) rfl
set_option maxRecDepth 10000 in
theorem g_9_4 : GO x d 9 Q 4 [v0, v1, v2, v3, v4, v5] (.inl b :: .inl a :: st) I J = (inR a ∧ inR b ∧ if b < a then GO x d 9 Q 15 [v0, v1, v2, v3, v4, v5] st I J else GO x d 9 Q 7 [v0, v1, v2, v3, v4, v5] st I J) := (ge (A := (34, 7, 15, 4, 0)) rfl).trans (gic (p := b < a) inferInstance)
set_option maxRecDepth 10000 in
theorem g_9_7 : GO x d 9 Q 7 [v0, some (.inr (.inr w)), v2, v3, v4, v5] st I J = GO x d 9 Q 8 [v0, some (.inr (.inr w)), v2, v3, v4, v5] (.inr (.inr w) :: st) I J := ge (A := (2, 8, 1, 0, 0)) rfl
set_option maxRecDepth 10000 in
theorem g_9_8 : GO x d 9 Q 8 [v0, v1, v2, some (.inl a), v4, v5] st I J = GO x d 9 Q 9 [v0, v1, v2, some (.inl a), v4, v5] (.inl a :: st) I J := ge (A := (1, 9, 3, 0, 0)) rfl
set_option maxRecDepth 10000 in
theorem g_9_9 : GO x d 9 Q 9 [v0, v1, v2, v3, v4, v5] [.inl i0, .inr (.inr (.inl r))] I J = (okO r 3 ∧ EX x d 16 [.inr (.inr (.inl r)), .inl i0] I J (fun r1 I1 J1 => GO x d 9 Q 12 [v0, v1, v2, v3, v4, v5] (r1.toList ++ []) I1 J1)) := (ge (A := (53, 12, 16, 1, 0)) rfl).trans (gtrue (Nat.le_of_ble_eq_true rfl))
set_option maxRecDepth 10000 in
theorem g_9_12 : GO x d 9 Q 12 [v0, v1, v2, v3, v4, v5] (.inl a :: st) I J = (inR a ∧ if a = 0 then GO x d 9 Q 15 [v0, v1, v2, v3, v4, v5] st I J else GO x d 9 Q 17 [v0, v1, v2, v3, v4, v5] st I J) := (ge (A := (33, 15, 17, 1, 0)) rfl).trans (gifn (p := a = 0) inferInstance)
set_option maxRecDepth 10000 in
theorem g_9_15 : GO x d 9 Q 15 [v0, v1, v2, v3, v4, v5] st I J = GO x d 9 Q 16 [v0, v1, v2, v3, v4, v5] (.inl (0) :: st) I J := ge (A := (0, 16, 0, 0, 0)) rfl
set_option maxRecDepth 10000 in
theorem g_9_16 : GO x d 9 Q 16 [v0, v1, v2, v3, v4, v5] [.inl a] I J = Q (some (.inl a)) I J := ge (A := (55, 17, 0, 0, 0)) rfl
set_option maxRecDepth 10000 in
theorem g_9_17 : GO x d 9 Q 17 [some (.inr (.inr w)), v1, v2, v3, v4, v5] st I J = GO x d 9 Q 18 [some (.inr (.inr w)), v1, v2, v3, v4, v5] (.inr (.inr w) :: st) I J := ge (A := (2, 18, 0, 0, 0)) rfl
set_option maxRecDepth 10000 in
theorem g_9_18 : GO x d 9 Q 18 [v0, v1, some (.inl a), v3, v4, v5] st I J = GO x d 9 Q 19 [v0, v1, some (.inl a), v3, v4, v5] (.inl a :: st) I J := ge (A := (1, 19, 2, 0, 0)) rfl
set_option maxRecDepth 10000 in
theorem g_9_19 : GO x d 9 Q 19 [v0, v1, v2, v3, v4, v5] [.inl i0, .inr (.inr (.inl r))] I J = (okO r 2 ∧ EX x d 10 [.inr (.inr (.inl r)), .inl i0] I J (fun r1 I1 J1 => GO x d 9 Q 22 [v0, v1, v2, v3, v4, v5] (r1.toList ++ []) I1 J1)) := (ge (A := (53, 22, 10, 1, 0)) rfl).trans (gtrue (Nat.le_of_ble_eq_true rfl))
set_option maxRecDepth 10000 in
theorem g_9_22 : GO x d 9 Q 22 [v0, v1, v2, v3, some (.inl a), v5] st I J = GO x d 9 Q 24 [v0, v1, v2, v3, some (.inl a), v5] (.inl a :: st) I J := ge (A := (1, 24, 4, 0, 0)) rfl
set_option maxRecDepth 10000 in
theorem g_9_24 : GO x d 9 Q 24 [v0, v1, v2, v3, v4, v5] st I J = GO x d 9 Q 25 [v0, v1, v2, v3, v4, v5] (.inl (1) :: st) I J := ge (A := (0, 25, 0, 0, 1)) rfl
set_option maxRecDepth 10000 in
theorem g_9_25 : GO x d 9 Q 25 [v0, v1, v2, v3, v4, v5] (.inl b :: .inl a :: st) I J = GO x d 9 Q 26 [v0, v1, v2, v3, v4, v5] (.inl (a + b) :: st) I J := ge (A := (8, 26, 0, 0, 0)) rfl
set_option maxRecDepth 10000 in
theorem g_9_26 : GO x d 9 Q 26 [v0, v1, v2, v3, v4, v5] (.inl a :: st) I J = (nlO (some v4) = true ∧ GO x d 9 Q 28 [v0, v1, v2, v3, v4, some (.inl a)] st I J) := (ge (A := (4, 28, 5, 0, 0)) rfl).trans (gst (Nat.le_of_ble_eq_true rfl) _)
set_option maxRecDepth 10000 in
theorem g_9_28 : GO x d 9 Q 28 [v0, v1, some (.inl a), v3, v4, v5] st I J = GO x d 9 Q 29 [v0, v1, some (.inl a), v3, v4, v5] (.inl a :: st) I J := ge (A := (1, 29, 2, 0, 0)) rfl
set_option maxRecDepth 10000 in
theorem g_9_29 : GO x d 9 Q 29 [v0, v1, v2, v3, v4, v5] (.inl a :: st) I J = (inR a ∧ if a = 10 then GO x d 9 Q 104 [v0, v1, v2, v3, v4, v5] st I J else if a = 11 then GO x d 9 Q 111 [v0, v1, v2, v3, v4, v5] st I J else if a = 12 then GO x d 9 Q 139 [v0, v1, v2, v3, v4, v5] st I J else if a = 13 then GO x d 9 Q 151 [v0, v1, v2, v3, v4, v5] st I J else if a = 14 then GO x d 9 Q 165 [v0, v1, v2, v3, v4, v5] st I J else if a = 15 then GO x d 9 Q 254 [v0, v1, v2, v3, v4, v5] st I J else if a = 16 then GO x d 9 Q 254 [v0, v1, v2, v3, v4, v5] st I J else if a = 17 then GO x d 9 Q 254 [v0, v1, v2, v3, v4, v5] st I J else if a = 18 then GO x d 9 Q 254 [v0, v1, v2, v3, v4, v5] st I J else if a = 19 then GO x d 9 Q 254 [v0, v1, v2, v3, v4, v5] st I J else if a = 20 then GO x d 9 Q 178 [v0, v1, v2, v3, v4, v5] st I J else if a = 21 then GO x d 9 Q 180 [v0, v1, v2, v3, v4, v5] st I J else if a = 22 then GO x d 9 Q 198 [v0, v1, v2, v3, v4, v5] st I J else if a = 23 then GO x d 9 Q 213 [v0, v1, v2, v3, v4, v5] st I J else if a = 24 then GO x d 9 Q 241 [v0, v1, v2, v3, v4, v5] st I J else GO x d 9 Q 254 [v0, v1, v2, v3, v4, v5] st I J) := (ge (A := (36, 104, 0, 0, 0)) rfl).trans (congrArg (And _) (propext (tswF_of (f := fun t => GO x d 9 Q t [v0, v1, v2, v3, v4, v5] st I J) [104, 111, 139, 151, 165, 254, 254, 254, 254, 254, 178, 180, 198, 213, 241] 10)))
set_option maxRecDepth 10000 in
theorem g_9_104 : GO x d 9 Q 104 [v0, some (.inr (.inr w)), v2, v3, v4, v5] st I J = GO x d 9 Q 105 [v0, some (.inr (.inr w)), v2, v3, v4, v5] (.inr (.inr w) :: st) I J := ge (A := (2, 105, 1, 0, 0)) rfl
set_option maxRecDepth 10000 in
theorem g_9_105 : GO x d 9 Q 105 [v0, v1, v2, v3, v4, v5] (.inr (.inr (.inl r)) :: st) I J = (okF r 3 7 ∧ GO x d 9 Q 108 [v0, v1, v2, v3, v4, v5] (.inr (.inr (.inl (rfN r 7))) :: st) I J) := (ge (A := (39, 108, 3, 7, 0)) rfl).trans (gref (f := fun q => GO x d 9 Q 108 [v0, v1, v2, v3, v4, v5] (.inr (.inr (.inl q)) :: st) I J))
set_option maxRecDepth 10000 in
theorem g_9_108 : GO x d 9 Q 108 [v0, v1, v2, some (.inl a), v4, v5] st I J = GO x d 9 Q 109 [v0, v1, v2, some (.inl a), v4, v5] (.inl a :: st) I J := ge (A := (1, 109, 3, 0, 0)) rfl
set_option maxRecDepth 10000 in
theorem h_9_109 : GO x d 9 Q 109 [v0, v1, v2, v3, v4, v5] (.inl a :: .inr (.inr (.inr q)) :: st) I J = (q < 4 ∧ 0 ≤ a ∧ a < (roA x q).1 ∧ GO x d 9 Q 110 [v0, v1, v2, v3, v4, v5] (.inl ((roA x q).2 a.toNat) :: st) I J) := ge (A := (44, 110, 0, 0, 0)) rfl
set_option maxRecDepth 10000 in
theorem g_9_109 : GO x d 9 Q 109 [v0, v1, v2, v3, v4, v5] (.inl a :: .inr (.inr (.inl r)) :: st) I J = (okA r 20 ∧ 0 ≤ a ∧ a < lnN r ∧ GO x d 9 Q 110 [v0, v1, v2, v3, v4, v5] (.inl (I r a) :: st) I J) := ge (A := (44, 110, 0, 0, 0)) rfl
set_option maxRecDepth 10000 in
theorem g_9_110 : GO x d 9 Q 110 [v0, v1, v2, v3, v4, v5] [.inl a] I J = Q (some (.inl a)) I J := ge (A := (55, 111, 0, 0, 0)) rfl
set_option maxRecDepth 10000 in
theorem g_9_111 : GO x d 9 Q 111 [some (.inr (.inr w)), v1, v2, v3, v4, v5] st I J = GO x d 9 Q 112 [some (.inr (.inr w)), v1, v2, v3, v4, v5] (.inr (.inr w) :: st) I J := ge (A := (2, 112, 0, 0, 0)) rfl
set_option maxRecDepth 10000 in
theorem g_9_112 : GO x d 9 Q 112 [v0, some (.inr (.inr w)), v2, v3, v4, v5] st I J = GO x d 9 Q 113 [v0, some (.inr (.inr w)), v2, v3, v4, v5] (.inr (.inr w) :: st) I J := ge (A := (2, 113, 1, 0, 0)) rfl
set_option maxRecDepth 10000 in
theorem g_9_113 : GO x d 9 Q 113 [v0, v1, v2, v3, v4, v5] st I J = GO x d 9 Q 115 [v0, v1, v2, v3, v4, v5] (.inl (10) :: st) I J := ge (A := (0, 115, 0, 0, 10)) rfl
set_option maxRecDepth 10000 in
theorem g_9_115 : GO x d 9 Q 115 [v0, v1, v2, some (.inl a), v4, v5] st I J = GO x d 9 Q 116 [v0, v1, v2, some (.inl a), v4, v5] (.inl a :: st) I J := ge (A := (1, 116, 3, 0, 0)) rfl
set_option maxRecDepth 10000 in
theorem g_9_116 : GO x d 9 Q 116 [v0, v1, v2, v3, v4, some (.inl a)] st I J = GO x d 9 Q 118 [v0, v1, v2, v3, v4, some (.inl a)] (.inl a :: st) I J := ge (A := (1, 118, 5, 0, 0)) rfl
set_option maxRecDepth 10000 in
theorem g_9_118 : GO x d 9 Q 118 [v0, v1, v2, v3, v4, v5] [.inl i0, .inl i1, .inl i2, .inr (.inr w0), .inr (.inr w1)] I J = EX x d 9 [.inr (.inr w1), .inr (.inr w0), .inl i2, .inl i1, .inl i0] I J (fun r1 I1 J1 => GO x d 9 Q 121 [v0, v1, v2, v3, v4, v5] (r1.toList ++ []) I1 J1) := (ge (A := (52, 121, 9, 5, 0)) rfl).trans (gtrue2 (Nat.le_of_ble_eq_true rfl) (Nat.le_of_ble_eq_true rfl))
set_option maxRecDepth 10000 in
theorem g_9_121 : GO x d 9 Q 121 [some (.inr (.inr w)), v1, v2, v3, v4, v5] st I J = GO x d 9 Q 122 [some (.inr (.inr w)), v1, v2, v3, v4, v5] (.inr (.inr w) :: st) I J := ge (A := (2, 122, 0, 0, 0)) rfl
set_option maxRecDepth 10000 in
theorem g_9_122 : GO x d 9 Q 122 [v0, some (.inr (.inr w)), v2, v3, v4, v5] st I J = GO x d 9 Q 123 [v0, some (.inr (.inr w)), v2, v3, v4, v5] (.inr (.inr w) :: st) I J := ge (A := (2, 123, 1, 0, 0)) rfl
set_option maxRecDepth 10000 in
theorem g_9_123 : GO x d 9 Q 123 [v0, some (.inr (.inr w)), v2, v3, v4, v5] st I J = GO x d 9 Q 124 [v0, some (.inr (.inr w)), v2, v3, v4, v5] (.inr (.inr w) :: st) I J := ge (A := (2, 124, 1, 0, 0)) rfl
set_option maxRecDepth 10000 in
theorem g_9_124 : GO x d 9 Q 124 [v0, v1, v2, some (.inl a), v4, v5] st I J = GO x d 9 Q 125 [v0, v1, v2, some (.inl a), v4, v5] (.inl a :: st) I J := ge (A := (1, 125, 3, 0, 0)) rfl
set_option maxRecDepth 10000 in
theorem g_9_125 : GO x d 9 Q 125 [v0, v1, v2, v3, v4, v5] st I J = GO x d 9 Q 128 [v0, v1, v2, v3, v4, v5] (.inr (.inr (.inr 3)) :: st) I J := ge (A := (43, 128, 3, 1, 0)) rfl
set_option maxRecDepth 10000 in
theorem g_9_128 : GO x d 9 Q 128 [v0, v1, v2, v3, v4, v5] [.inr (.inr w0), .inl i0, .inr (.inr w1), .inr (.inr w3), .inr (.inr w4), .inl i1] I J = EX x d 8 [.inr (.inr w1), .inl i0, .inr (.inr w0)] I J (fun r1 I1 J1 => GO x d 9 Q 131 [v0, v1, v2, v3, v4, v5] (r1.toList ++ [.inr (.inr w3), .inr (.inr w4), .inl i1]) I1 J1) := (ge (A := (52, 131, 8, 3, 0)) rfl).trans (gtrue2 (Nat.le_of_ble_eq_true rfl) (Nat.le_of_ble_eq_true rfl))
set_option maxRecDepth 10000 in
theorem g_9_131 : GO x d 9 Q 131 [v0, v1, v2, some (.inl a), v4, v5] st I J = GO x d 9 Q 132 [v0, v1, v2, some (.inl a), v4, v5] (.inl a :: st) I J := ge (A := (1, 132, 3, 0, 0)) rfl
set_option maxRecDepth 10000 in
theorem g_9_132 : GO x d 9 Q 132 [v0, v1, v2, v3, v4, some (.inl a)] st I J = GO x d 9 Q 134 [v0, v1, v2, v3, v4, some (.inl a)] (.inl a :: st) I J := ge (A := (1, 134, 5, 0, 0)) rfl
set_option maxRecDepth 10000 in
theorem g_9_134 : GO x d 9 Q 134 [v0, v1, v2, v3, v4, v5] [.inl i0, .inl i1, .inl i2, .inr (.inr w0), .inr (.inr w1), .inl i3] I J = EX x d 9 [.inr (.inr w1), .inr (.inr w0), .inl i2, .inl i1, .inl i0] I J (fun r1 I1 J1 => GO x d 9 Q 137 [v0, v1, v2, v3, v4, v5] (r1.toList ++ [.inl i3]) I1 J1) := (ge (A := (52, 137, 9, 5, 0)) rfl).trans (gtrue2 (Nat.le_of_ble_eq_true rfl) (Nat.le_of_ble_eq_true rfl))
set_option maxRecDepth 10000 in
theorem g_9_137 : GO x d 9 Q 137 [v0, v1, v2, v3, v4, v5] (.inl b :: .inl a :: st) I J = GO x d 9 Q 138 [v0, v1, v2, v3, v4, v5] (.inl (a + b) :: st) I J := ge (A := (8, 138, 0, 0, 0)) rfl
set_option maxRecDepth 10000 in
theorem g_9_138 : GO x d 9 Q 138 [v0, v1, v2, v3, v4, v5] [.inl a] I J = Q (some (.inl a)) I J := ge (A := (55, 139, 0, 0, 0)) rfl
set_option maxRecDepth 10000 in
theorem g_9_139 : GO x d 9 Q 139 [some (.inr (.inr w)), v1, v2, v3, v4, v5] st I J = GO x d 9 Q 140 [some (.inr (.inr w)), v1, v2, v3, v4, v5] (.inr (.inr w) :: st) I J := ge (A := (2, 140, 0, 0, 0)) rfl
set_option maxRecDepth 10000 in
theorem g_9_140 : GO x d 9 Q 140 [v0, some (.inr (.inr w)), v2, v3, v4, v5] st I J = GO x d 9 Q 141 [v0, some (.inr (.inr w)), v2, v3, v4, v5] (.inr (.inr w) :: st) I J := ge (A := (2, 141, 1, 0, 0)) rfl
set_option maxRecDepth 10000 in
theorem g_9_141 : GO x d 9 Q 141 [v0, v1, v2, v3, v4, v5] st I J = GO x d 9 Q 143 [v0, v1, v2, v3, v4, v5] (.inl (11) :: st) I J := ge (A := (0, 143, 0, 0, 11)) rfl
set_option maxRecDepth 10000 in
theorem g_9_143 : GO x d 9 Q 143 [v0, v1, v2, some (.inl a), v4, v5] st I J = GO x d 9 Q 144 [v0, v1, v2, some (.inl a), v4, v5] (.inl a :: st) I J := ge (A := (1, 144, 3, 0, 0)) rfl
set_option maxRecDepth 10000 in
theorem g_9_144 : GO x d 9 Q 144 [v0, v1, v2, v3, v4, some (.inl a)] st I J = GO x d 9 Q 146 [v0, v1, v2, v3, v4, some (.inl a)] (.inl a :: st) I J := ge (A := (1, 146, 5, 0, 0)) rfl
set_option maxRecDepth 10000 in
theorem g_9_146 : GO x d 9 Q 146 [v0, v1, v2, v3, v4, v5] [.inl i0, .inl i1, .inl i2, .inr (.inr w0), .inr (.inr w1)] I J = EX x d 9 [.inr (.inr w1), .inr (.inr w0), .inl i2, .inl i1, .inl i0] I J (fun r1 I1 J1 => GO x d 9 Q 149 [v0, v1, v2, v3, v4, v5] (r1.toList ++ []) I1 J1) := (ge (A := (52, 149, 9, 5, 0)) rfl).trans (gtrue2 (Nat.le_of_ble_eq_true rfl) (Nat.le_of_ble_eq_true rfl))
set_option maxRecDepth 10000 in
theorem g_9_149 : GO x d 9 Q 149 [v0, v1, v2, v3, v4, v5] (.inl a :: st) I J = GO x d 9 Q 150 [v0, v1, v2, v3, v4, v5] (.inl (-a) :: st) I J := ge (A := (19, 150, 0, 0, 0)) rfl
set_option maxRecDepth 10000 in
theorem g_9_150 : GO x d 9 Q 150 [v0, v1, v2, v3, v4, v5] [.inl a] I J = Q (some (.inl a)) I J := ge (A := (55, 151, 0, 0, 0)) rfl
set_option maxRecDepth 10000 in
theorem g_9_151 : GO x d 9 Q 151 [some (.inr (.inr w)), v1, v2, v3, v4, v5] st I J = GO x d 9 Q 152 [some (.inr (.inr w)), v1, v2, v3, v4, v5] (.inr (.inr w) :: st) I J := ge (A := (2, 152, 0, 0, 0)) rfl
set_option maxRecDepth 10000 in
theorem g_9_152 : GO x d 9 Q 152 [v0, some (.inr (.inr w)), v2, v3, v4, v5] st I J = GO x d 9 Q 153 [v0, some (.inr (.inr w)), v2, v3, v4, v5] (.inr (.inr w) :: st) I J := ge (A := (2, 153, 1, 0, 0)) rfl
set_option maxRecDepth 10000 in
theorem g_9_153 : GO x d 9 Q 153 [v0, v1, v2, v3, v4, v5] st I J = GO x d 9 Q 155 [v0, v1, v2, v3, v4, v5] (.inl (10) :: st) I J := ge (A := (0, 155, 0, 0, 10)) rfl
set_option maxRecDepth 10000 in
theorem g_9_155 : GO x d 9 Q 155 [v0, v1, v2, some (.inl a), v4, v5] st I J = GO x d 9 Q 156 [v0, v1, v2, some (.inl a), v4, v5] (.inl a :: st) I J := ge (A := (1, 156, 3, 0, 0)) rfl
set_option maxRecDepth 10000 in
theorem g_9_156 : GO x d 9 Q 156 [v0, v1, v2, v3, v4, some (.inl a)] st I J = GO x d 9 Q 158 [v0, v1, v2, v3, v4, some (.inl a)] (.inl a :: st) I J := ge (A := (1, 158, 5, 0, 0)) rfl
set_option maxRecDepth 10000 in
theorem g_9_158 : GO x d 9 Q 158 [v0, v1, v2, v3, v4, v5] [.inl i0, .inl i1, .inl i2, .inr (.inr w0), .inr (.inr w1)] I J = EX x d 9 [.inr (.inr w1), .inr (.inr w0), .inl i2, .inl i1, .inl i0] I J (fun r1 I1 J1 => GO x d 9 Q 161 [v0, v1, v2, v3, v4, v5] (r1.toList ++ []) I1 J1) := (ge (A := (52, 161, 9, 5, 0)) rfl).trans (gtrue2 (Nat.le_of_ble_eq_true rfl) (Nat.le_of_ble_eq_true rfl))
set_option maxRecDepth 10000 in
theorem g_9_161 : GO x d 9 Q 161 [v0, v1, v2, v3, v4, v5] st I J = GO x d 9 Q 163 [v0, v1, v2, v3, v4, v5] (.inl (100) :: st) I J := ge (A := (0, 163, 0, 0, 100)) rfl
set_option maxRecDepth 10000 in
theorem g_9_163 : GO x d 9 Q 163 [v0, v1, v2, v3, v4, v5] (.inl b :: .inl a :: st) I J = GO x d 9 Q 164 [v0, v1, v2, v3, v4, v5] (.inl (a - b) :: st) I J := ge (A := (9, 164, 0, 0, 0)) rfl
set_option maxRecDepth 10000 in
theorem g_9_164 : GO x d 9 Q 164 [v0, v1, v2, v3, v4, v5] [.inl a] I J = Q (some (.inl a)) I J := ge (A := (55, 165, 0, 0, 0)) rfl
set_option maxRecDepth 10000 in
theorem g_9_165 : GO x d 9 Q 165 [v0, v1, v2, v3, v4, v5] st I J = GO x d 9 Q 166 [v0, v1, v2, v3, v4, v5] (.inl (2) :: st) I J := ge (A := (0, 166, 0, 0, 2)) rfl
set_option maxRecDepth 10000 in
theorem g_9_166 : GO x d 9 Q 166 [some (.inr (.inr w)), v1, v2, v3, v4, v5] st I J = GO x d 9 Q 167 [some (.inr (.inr w)), v1, v2, v3, v4, v5] (.inr (.inr w) :: st) I J := ge (A := (2, 167, 0, 0, 0)) rfl
set_option maxRecDepth 10000 in
theorem g_9_167 : GO x d 9 Q 167 [v0, some (.inr (.inr w)), v2, v3, v4, v5] st I J = GO x d 9 Q 168 [v0, some (.inr (.inr w)), v2, v3, v4, v5] (.inr (.inr w) :: st) I J := ge (A := (2, 168, 1, 0, 0)) rfl
set_option maxRecDepth 10000 in
theorem g_9_168 : GO x d 9 Q 168 [v0, v1, v2, v3, v4, v5] st I J = GO x d 9 Q 170 [v0, v1, v2, v3, v4, v5] (.inl (13) :: st) I J := ge (A := (0, 170, 0, 0, 13)) rfl
set_option maxRecDepth 10000 in
theorem g_9_170 : GO x d 9 Q 170 [v0, v1, v2, some (.inl a), v4, v5] st I J = GO x d 9 Q 171 [v0, v1, v2, some (.inl a), v4, v5] (.inl a :: st) I J := ge (A := (1, 171, 3, 0, 0)) rfl
set_option maxRecDepth 10000 in
theorem g_9_171 : GO x d 9 Q 171 [v0, v1, v2, v3, v4, some (.inl a)] st I J = GO x d 9 Q 173 [v0, v1, v2, v3, v4, some (.inl a)] (.inl a :: st) I J := ge (A := (1, 173, 5, 0, 0)) rfl
set_option maxRecDepth 10000 in
theorem g_9_173 : GO x d 9 Q 173 [v0, v1, v2, v3, v4, v5] [.inl i0, .inl i1, .inl i2, .inr (.inr w0), .inr (.inr w1), .inl i3] I J = EX x d 9 [.inr (.inr w1), .inr (.inr w0), .inl i2, .inl i1, .inl i0] I J (fun r1 I1 J1 => GO x d 9 Q 176 [v0, v1, v2, v3, v4, v5] (r1.toList ++ [.inl i3]) I1 J1) := (ge (A := (52, 176, 9, 5, 0)) rfl).trans (gtrue2 (Nat.le_of_ble_eq_true rfl) (Nat.le_of_ble_eq_true rfl))
set_option maxRecDepth 10000 in
theorem g_9_176 : GO x d 9 Q 176 [v0, v1, v2, v3, v4, v5] (.inl b :: .inl a :: st) I J = GO x d 9 Q 177 [v0, v1, v2, v3, v4, v5] (.inl (a * b) :: st) I J := ge (A := (10, 177, 0, 0, 0)) rfl
set_option maxRecDepth 10000 in
theorem g_9_177 : GO x d 9 Q 177 [v0, v1, v2, v3, v4, v5] [.inl a] I J = Q (some (.inl a)) I J := ge (A := (55, 178, 0, 0, 0)) rfl
set_option maxRecDepth 10000 in
theorem g_9_178 : GO x d 9 Q 178 [v0, v1, v2, some (.inl a), v4, v5] st I J = GO x d 9 Q 179 [v0, v1, v2, some (.inl a), v4, v5] (.inl a :: st) I J := ge (A := (1, 179, 3, 0, 0)) rfl
set_option maxRecDepth 10000 in
theorem g_9_179 : GO x d 9 Q 179 [v0, v1, v2, v3, v4, v5] [.inl a] I J = Q (some (.inl a)) I J := ge (A := (55, 180, 0, 0, 0)) rfl
set_option maxRecDepth 10000 in
theorem g_9_180 : GO x d 9 Q 180 [some (.inr (.inr w)), v1, v2, v3, v4, v5] st I J = GO x d 9 Q 181 [some (.inr (.inr w)), v1, v2, v3, v4, v5] (.inr (.inr w) :: st) I J := ge (A := (2, 181, 0, 0, 0)) rfl
set_option maxRecDepth 10000 in
theorem g_9_181 : GO x d 9 Q 181 [v0, some (.inr (.inr w)), v2, v3, v4, v5] st I J = GO x d 9 Q 182 [v0, some (.inr (.inr w)), v2, v3, v4, v5] (.inr (.inr w) :: st) I J := ge (A := (2, 182, 1, 0, 0)) rfl
set_option maxRecDepth 10000 in
theorem g_9_182 : GO x d 9 Q 182 [v0, v1, v2, v3, v4, v5] st I J = GO x d 9 Q 184 [v0, v1, v2, v3, v4, v5] (.inl (20) :: st) I J := ge (A := (0, 184, 0, 0, 20)) rfl
set_option maxRecDepth 10000 in
theorem g_9_184 : GO x d 9 Q 184 [v0, v1, v2, some (.inl a), v4, v5] st I J = GO x d 9 Q 185 [v0, v1, v2, some (.inl a), v4, v5] (.inl a :: st) I J := ge (A := (1, 185, 3, 0, 0)) rfl
set_option maxRecDepth 10000 in
theorem g_9_185 : GO x d 9 Q 185 [v0, v1, v2, v3, v4, some (.inl a)] st I J = GO x d 9 Q 187 [v0, v1, v2, v3, v4, some (.inl a)] (.inl a :: st) I J := ge (A := (1, 187, 5, 0, 0)) rfl
set_option maxRecDepth 10000 in
theorem g_9_187 : GO x d 9 Q 187 [v0, v1, v2, v3, v4, v5] [.inl i0, .inl i1, .inl i2, .inr (.inr w0), .inr (.inr w1)] I J = EX x d 9 [.inr (.inr w1), .inr (.inr w0), .inl i2, .inl i1, .inl i0] I J (fun r1 I1 J1 => GO x d 9 Q 190 [v0, v1, v2, v3, v4, v5] (r1.toList ++ []) I1 J1) := (ge (A := (52, 190, 9, 5, 0)) rfl).trans (gtrue2 (Nat.le_of_ble_eq_true rfl) (Nat.le_of_ble_eq_true rfl))
set_option maxRecDepth 10000 in
theorem g_9_190 : GO x d 9 Q 190 [v0, some (.inr (.inr w)), v2, v3, v4, v5] st I J = GO x d 9 Q 191 [v0, some (.inr (.inr w)), v2, v3, v4, v5] (.inr (.inr w) :: st) I J := ge (A := (2, 191, 1, 0, 0)) rfl
set_option maxRecDepth 10000 in
theorem g_9_191 : GO x d 9 Q 191 [v0, v1, v2, v3, v4, v5] (.inr (.inr (.inl r)) :: st) I J = (okF r 3 5 ∧ GO x d 9 Q 194 [v0, v1, v2, v3, v4, v5] (.inr (.inr (.inl (rfN r 5))) :: st) I J) := (ge (A := (39, 194, 3, 5, 0)) rfl).trans (gref (f := fun q => GO x d 9 Q 194 [v0, v1, v2, v3, v4, v5] (.inr (.inr (.inl q)) :: st) I J))
set_option maxRecDepth 10000 in
theorem g_9_194 : GO x d 9 Q 194 [v0, v1, v2, some (.inl a), v4, v5] st I J = GO x d 9 Q 195 [v0, v1, v2, some (.inl a), v4, v5] (.inl a :: st) I J := ge (A := (1, 195, 3, 0, 0)) rfl
set_option maxRecDepth 10000 in
theorem h_9_195 : GO x d 9 Q 195 [v0, v1, v2, v3, v4, v5] (.inl a :: .inr (.inr (.inr q)) :: st) I J = (q < 4 ∧ 0 ≤ a ∧ a < (roA x q).1 ∧ GO x d 9 Q 196 [v0, v1, v2, v3, v4, v5] (.inl ((roA x q).2 a.toNat) :: st) I J) := ge (A := (44, 196, 0, 0, 0)) rfl
set_option maxRecDepth 10000 in
theorem g_9_195 : GO x d 9 Q 195 [v0, v1, v2, v3, v4, v5] (.inl a :: .inr (.inr (.inl r)) :: st) I J = (okA r 20 ∧ 0 ≤ a ∧ a < lnN r ∧ GO x d 9 Q 196 [v0, v1, v2, v3, v4, v5] (.inl (I r a) :: st) I J) := ge (A := (44, 196, 0, 0, 0)) rfl
set_option maxRecDepth 10000 in
theorem g_9_196 : GO x d 9 Q 196 [v0, v1, v2, v3, v4, v5] (.inl b :: .inl a :: st) I J = GO x d 9 Q 197 [v0, v1, v2, v3, v4, v5] (.inl (a + b) :: st) I J := ge (A := (8, 197, 0, 0, 0)) rfl
set_option maxRecDepth 10000 in
theorem g_9_197 : GO x d 9 Q 197 [v0, v1, v2, v3, v4, v5] [.inl a] I J = Q (some (.inl a)) I J := ge (A := (55, 198, 0, 0, 0)) rfl
set_option maxRecDepth 10000 in
theorem g_9_198 : GO x d 9 Q 198 [some (.inr (.inr w)), v1, v2, v3, v4, v5] st I J = GO x d 9 Q 199 [some (.inr (.inr w)), v1, v2, v3, v4, v5] (.inr (.inr w) :: st) I J := ge (A := (2, 199, 0, 0, 0)) rfl
set_option maxRecDepth 10000 in
theorem g_9_199 : GO x d 9 Q 199 [v0, some (.inr (.inr w)), v2, v3, v4, v5] st I J = GO x d 9 Q 200 [v0, some (.inr (.inr w)), v2, v3, v4, v5] (.inr (.inr w) :: st) I J := ge (A := (2, 200, 1, 0, 0)) rfl
set_option maxRecDepth 10000 in
theorem g_9_200 : GO x d 9 Q 200 [v0, v1, v2, v3, v4, v5] st I J = GO x d 9 Q 202 [v0, v1, v2, v3, v4, v5] (.inl (21) :: st) I J := ge (A := (0, 202, 0, 0, 21)) rfl
set_option maxRecDepth 10000 in
theorem g_9_202 : GO x d 9 Q 202 [v0, v1, v2, some (.inl a), v4, v5] st I J = GO x d 9 Q 203 [v0, v1, v2, some (.inl a), v4, v5] (.inl a :: st) I J := ge (A := (1, 203, 3, 0, 0)) rfl
set_option maxRecDepth 10000 in
theorem g_9_203 : GO x d 9 Q 203 [v0, v1, v2, v3, v4, some (.inl a)] st I J = GO x d 9 Q 205 [v0, v1, v2, v3, v4, some (.inl a)] (.inl a :: st) I J := ge (A := (1, 205, 5, 0, 0)) rfl
set_option maxRecDepth 10000 in
theorem g_9_205 : GO x d 9 Q 205 [v0, v1, v2, v3, v4, v5] [.inl i0, .inl i1, .inl i2, .inr (.inr w0), .inr (.inr w1)] I J = EX x d 9 [.inr (.inr w1), .inr (.inr w0), .inl i2, .inl i1, .inl i0] I J (fun r1 I1 J1 => GO x d 9 Q 208 [v0, v1, v2, v3, v4, v5] (r1.toList ++ []) I1 J1) := (ge (A := (52, 208, 9, 5, 0)) rfl).trans (gtrue2 (Nat.le_of_ble_eq_true rfl) (Nat.le_of_ble_eq_true rfl))
set_option maxRecDepth 10000 in
theorem g_9_208 : GO x d 9 Q 208 [v0, v1, v2, v3, v4, v5] st I J = GO x d 9 Q 211 [v0, v1, v2, v3, v4, v5] (.inl (1000) :: st) I J := ge (A := (0, 211, 0, 0, 1000)) rfl
set_option maxRecDepth 10000 in
theorem g_9_211 : GO x d 9 Q 211 [v0, v1, v2, v3, v4, v5] (.inl b :: .inl a :: st) I J = GO x d 9 Q 212 [v0, v1, v2, v3, v4, v5] (.inl (a - b) :: st) I J := ge (A := (9, 212, 0, 0, 0)) rfl
set_option maxRecDepth 10000 in
theorem g_9_212 : GO x d 9 Q 212 [v0, v1, v2, v3, v4, v5] [.inl a] I J = Q (some (.inl a)) I J := ge (A := (55, 213, 0, 0, 0)) rfl
set_option maxRecDepth 10000 in
theorem g_9_213 : GO x d 9 Q 213 [some (.inr (.inr w)), v1, v2, v3, v4, v5] st I J = GO x d 9 Q 214 [some (.inr (.inr w)), v1, v2, v3, v4, v5] (.inr (.inr w) :: st) I J := ge (A := (2, 214, 0, 0, 0)) rfl
set_option maxRecDepth 10000 in
theorem g_9_214 : GO x d 9 Q 214 [v0, some (.inr (.inr w)), v2, v3, v4, v5] st I J = GO x d 9 Q 215 [v0, some (.inr (.inr w)), v2, v3, v4, v5] (.inr (.inr w) :: st) I J := ge (A := (2, 215, 1, 0, 0)) rfl
set_option maxRecDepth 10000 in
theorem g_9_215 : GO x d 9 Q 215 [v0, v1, v2, v3, v4, v5] st I J = GO x d 9 Q 217 [v0, v1, v2, v3, v4, v5] (.inl (20) :: st) I J := ge (A := (0, 217, 0, 0, 20)) rfl
set_option maxRecDepth 10000 in
theorem g_9_217 : GO x d 9 Q 217 [v0, v1, v2, some (.inl a), v4, v5] st I J = GO x d 9 Q 218 [v0, v1, v2, some (.inl a), v4, v5] (.inl a :: st) I J := ge (A := (1, 218, 3, 0, 0)) rfl
set_option maxRecDepth 10000 in
theorem g_9_218 : GO x d 9 Q 218 [v0, v1, v2, v3, v4, some (.inl a)] st I J = GO x d 9 Q 220 [v0, v1, v2, v3, v4, some (.inl a)] (.inl a :: st) I J := ge (A := (1, 220, 5, 0, 0)) rfl
set_option maxRecDepth 10000 in
theorem g_9_220 : GO x d 9 Q 220 [v0, v1, v2, v3, v4, v5] [.inl i0, .inl i1, .inl i2, .inr (.inr w0), .inr (.inr w1)] I J = EX x d 9 [.inr (.inr w1), .inr (.inr w0), .inl i2, .inl i1, .inl i0] I J (fun r1 I1 J1 => GO x d 9 Q 223 [v0, v1, v2, v3, v4, v5] (r1.toList ++ []) I1 J1) := (ge (A := (52, 223, 9, 5, 0)) rfl).trans (gtrue2 (Nat.le_of_ble_eq_true rfl) (Nat.le_of_ble_eq_true rfl))
set_option maxRecDepth 10000 in
theorem g_9_223 : GO x d 9 Q 223 [some (.inr (.inr w)), v1, v2, v3, v4, v5] st I J = GO x d 9 Q 224 [some (.inr (.inr w)), v1, v2, v3, v4, v5] (.inr (.inr w) :: st) I J := ge (A := (2, 224, 0, 0, 0)) rfl
set_option maxRecDepth 10000 in
theorem g_9_224 : GO x d 9 Q 224 [v0, some (.inr (.inr w)), v2, v3, v4, v5] st I J = GO x d 9 Q 225 [v0, some (.inr (.inr w)), v2, v3, v4, v5] (.inr (.inr w) :: st) I J := ge (A := (2, 225, 1, 0, 0)) rfl
set_option maxRecDepth 10000 in
theorem g_9_225 : GO x d 9 Q 225 [v0, some (.inr (.inr w)), v2, v3, v4, v5] st I J = GO x d 9 Q 226 [v0, some (.inr (.inr w)), v2, v3, v4, v5] (.inr (.inr w) :: st) I J := ge (A := (2, 226, 1, 0, 0)) rfl
set_option maxRecDepth 10000 in
theorem g_9_226 : GO x d 9 Q 226 [v0, v1, v2, some (.inl a), v4, v5] st I J = GO x d 9 Q 227 [v0, v1, v2, some (.inl a), v4, v5] (.inl a :: st) I J := ge (A := (1, 227, 3, 0, 0)) rfl
set_option maxRecDepth 10000 in
theorem g_9_227 : GO x d 9 Q 227 [v0, v1, v2, v3, v4, v5] st I J = GO x d 9 Q 230 [v0, v1, v2, v3, v4, v5] (.inr (.inr (.inr 2)) :: st) I J := ge (A := (43, 230, 2, 1, 0)) rfl
set_option maxRecDepth 10000 in
theorem g_9_230 : GO x d 9 Q 230 [v0, v1, v2, v3, v4, v5] [.inr (.inr w0), .inl i0, .inr (.inr w1), .inr (.inr w3), .inr (.inr w4), .inl i1] I J = EX x d 8 [.inr (.inr w1), .inl i0, .inr (.inr w0)] I J (fun r1 I1 J1 => GO x d 9 Q 233 [v0, v1, v2, v3, v4, v5] (r1.toList ++ [.inr (.inr w3), .inr (.inr w4), .inl i1]) I1 J1) := (ge (A := (52, 233, 8, 3, 0)) rfl).trans (gtrue2 (Nat.le_of_ble_eq_true rfl) (Nat.le_of_ble_eq_true rfl))
set_option maxRecDepth 10000 in
theorem g_9_233 : GO x d 9 Q 233 [v0, v1, v2, some (.inl a), v4, v5] st I J = GO x d 9 Q 234 [v0, v1, v2, some (.inl a), v4, v5] (.inl a :: st) I J := ge (A := (1, 234, 3, 0, 0)) rfl
set_option maxRecDepth 10000 in
theorem g_9_234 : GO x d 9 Q 234 [v0, v1, v2, v3, v4, some (.inl a)] st I J = GO x d 9 Q 236 [v0, v1, v2, v3, v4, some (.inl a)] (.inl a :: st) I J := ge (A := (1, 236, 5, 0, 0)) rfl
set_option maxRecDepth 10000 in
theorem g_9_236 : GO x d 9 Q 236 [v0, v1, v2, v3, v4, v5] [.inl i0, .inl i1, .inl i2, .inr (.inr w0), .inr (.inr w1), .inl i3] I J = EX x d 9 [.inr (.inr w1), .inr (.inr w0), .inl i2, .inl i1, .inl i0] I J (fun r1 I1 J1 => GO x d 9 Q 239 [v0, v1, v2, v3, v4, v5] (r1.toList ++ [.inl i3]) I1 J1) := (ge (A := (52, 239, 9, 5, 0)) rfl).trans (gtrue2 (Nat.le_of_ble_eq_true rfl) (Nat.le_of_ble_eq_true rfl))
set_option maxRecDepth 10000 in
theorem g_9_239 : GO x d 9 Q 239 [v0, v1, v2, v3, v4, v5] (.inl b :: .inl a :: st) I J = GO x d 9 Q 240 [v0, v1, v2, v3, v4, v5] (.inl (a - b) :: st) I J := ge (A := (9, 240, 0, 0, 0)) rfl
set_option maxRecDepth 10000 in
theorem g_9_240 : GO x d 9 Q 240 [v0, v1, v2, v3, v4, v5] [.inl a] I J = Q (some (.inl a)) I J := ge (A := (55, 241, 0, 0, 0)) rfl
set_option maxRecDepth 10000 in
theorem g_9_241 : GO x d 9 Q 241 [v0, v1, v2, v3, v4, v5] st I J = GO x d 9 Q 242 [v0, v1, v2, v3, v4, v5] (.inl (2) :: st) I J := ge (A := (0, 242, 0, 0, 2)) rfl
set_option maxRecDepth 10000 in
theorem g_9_242 : GO x d 9 Q 242 [some (.inr (.inr w)), v1, v2, v3, v4, v5] st I J = GO x d 9 Q 243 [some (.inr (.inr w)), v1, v2, v3, v4, v5] (.inr (.inr w) :: st) I J := ge (A := (2, 243, 0, 0, 0)) rfl
set_option maxRecDepth 10000 in
theorem g_9_243 : GO x d 9 Q 243 [v0, some (.inr (.inr w)), v2, v3, v4, v5] st I J = GO x d 9 Q 244 [v0, some (.inr (.inr w)), v2, v3, v4, v5] (.inr (.inr w) :: st) I J := ge (A := (2, 244, 1, 0, 0)) rfl
set_option maxRecDepth 10000 in
theorem g_9_244 : GO x d 9 Q 244 [v0, v1, v2, v3, v4, v5] st I J = GO x d 9 Q 246 [v0, v1, v2, v3, v4, v5] (.inl (21) :: st) I J := ge (A := (0, 246, 0, 0, 21)) rfl
set_option maxRecDepth 10000 in
theorem g_9_246 : GO x d 9 Q 246 [v0, v1, v2, some (.inl a), v4, v5] st I J = GO x d 9 Q 247 [v0, v1, v2, some (.inl a), v4, v5] (.inl a :: st) I J := ge (A := (1, 247, 3, 0, 0)) rfl
set_option maxRecDepth 10000 in
theorem g_9_247 : GO x d 9 Q 247 [v0, v1, v2, v3, v4, some (.inl a)] st I J = GO x d 9 Q 249 [v0, v1, v2, v3, v4, some (.inl a)] (.inl a :: st) I J := ge (A := (1, 249, 5, 0, 0)) rfl
set_option maxRecDepth 10000 in
theorem g_9_249 : GO x d 9 Q 249 [v0, v1, v2, v3, v4, v5] [.inl i0, .inl i1, .inl i2, .inr (.inr w0), .inr (.inr w1), .inl i3] I J = EX x d 9 [.inr (.inr w1), .inr (.inr w0), .inl i2, .inl i1, .inl i0] I J (fun r1 I1 J1 => GO x d 9 Q 252 [v0, v1, v2, v3, v4, v5] (r1.toList ++ [.inl i3]) I1 J1) := (ge (A := (52, 252, 9, 5, 0)) rfl).trans (gtrue2 (Nat.le_of_ble_eq_true rfl) (Nat.le_of_ble_eq_true rfl))
set_option maxRecDepth 10000 in
theorem g_9_252 : GO x d 9 Q 252 [v0, v1, v2, v3, v4, v5] (.inl b :: .inl a :: st) I J = GO x d 9 Q 253 [v0, v1, v2, v3, v4, v5] (.inl (a * b) :: st) I J := ge (A := (10, 253, 0, 0, 0)) rfl
set_option maxRecDepth 10000 in
theorem g_9_253 : GO x d 9 Q 253 [v0, v1, v2, v3, v4, v5] [.inl a] I J = Q (some (.inl a)) I J := ge (A := (55, 254, 0, 0, 0)) rfl
set_option maxRecDepth 10000 in
theorem g_9_254 : GO x d 9 Q 254 [v0, v1, v2, v3, v4, v5] st I J = GO x d 9 Q 255 [v0, v1, v2, v3, v4, v5] (.inl (0) :: st) I J := ge (A := (0, 255, 0, 0, 0)) rfl
set_option maxRecDepth 10000 in
theorem g_9_255 : GO x d 9 Q 255 [v0, v1, v2, v3, v4, v5] [.inl a] I J = Q (some (.inl a)) I J := ge (A := (55, 256, 0, 0, 0)) rfl
set_option maxRecDepth 10000 in
theorem e_9 : EX x (d + 1) 9 [.inr (.inr w0), .inr (.inr w1), .inl i0, .inl i1, .inl i2] I J Q = GO x d 9 Q 0 [some (.inr (.inr w0)), some (.inr (.inr w1)), some (.inl i0), some (.inl i1), some (.inl i2), none] [] I J := ex_eq (Nat.le_of_ble_eq_true rfl) rfl (Nat.le_of_ble_eq_true rfl) rfl
set_option maxRecDepth 10000 in
theorem g_10_0 : GO x d 10 Q 0 [some (.inr (.inr w)), v1] st I J = GO x d 10 Q 1 [some (.inr (.inr w)), v1] (.inr (.inr w) :: st) I J := ge (A := (2, 1, 0, 0, 0)) rfl
set_option maxRecDepth 10000 in
theorem g_10_1 : GO x d 10 Q 1 [v0, v1] (.inr (.inr (.inl r)) :: st) I J = (okO r 2 ∧ GO x d 10 Q 4 [v0, v1] (.inl (I r 1) :: st) I J) := ge (A := (37, 4, 2, 1, 0)) rfl
set_option maxRecDepth 10000 in
theorem g_10_4 : GO x d 10 Q 4 [v0, v1] (.inl a :: st) I J = (inR a ∧ if a < 0 then GO x d 10 Q 36 [v0, v1] st I J else GO x d 10 Q 7 [v0, v1] st I J) := (ge (A := (33, 7, 36, 2, 0)) rfl).trans (gif (p := a < 0) inferInstance)
set_option maxRecDepth 10000 in
theorem g_10_7 : GO x d 10 Q 7 [some (.inr (.inr w)), v1] st I J = GO x d 10 Q 8 [some (.inr (.inr w)), v1] (.inr (.inr w) :: st) I J := ge (A := (2, 8, 0, 0, 0)) rfl
set_option maxRecDepth 10000 in
theorem g_10_8 : GO x d 10 Q 8 [v0, v1] (.inr (.inr (.inl r)) :: st) I J = (okO r 2 ∧ GO x d 10 Q 11 [v0, v1] (.inl (I r 1) :: st) I J) := ge (A := (37, 11, 2, 1, 0)) rfl
set_option maxRecDepth 10000 in
theorem g_10_11 : GO x d 10 Q 11 [v0, v1] st I J = GO x d 10 Q 13 [v0, v1] (.inl (16) :: st) I J := ge (A := (0, 13, 0, 0, 16)) rfl
set_option maxRecDepth 10000 in
theorem g_10_13 : GO x d 10 Q 13 [v0, v1] (.inl b :: .inl a :: st) I J = (inR a ∧ inR b ∧ if a < b then GO x d 10 Q 16 [v0, v1] st I J else GO x d 10 Q 36 [v0, v1] st I J) := (ge (A := (34, 16, 36, 3, 0)) rfl).trans (ggec)
set_option maxRecDepth 10000 in
theorem g_10_16 : GO x d 10 Q 16 [some (.inr (.inr w)), v1] st I J = GO x d 10 Q 17 [some (.inr (.inr w)), v1] (.inr (.inr w) :: st) I J := ge (A := (2, 17, 0, 0, 0)) rfl
set_option maxRecDepth 10000 in
theorem g_10_17 : GO x d 10 Q 17 [v0, v1] (.inr (.inr (.inl r)) :: st) I J = (okF r 2 0 ∧ GO x d 10 Q 20 [v0, v1] (.inr (.inr (.inl (rfN r 0))) :: st) I J) := (ge (A := (39, 20, 2, 0, 0)) rfl).trans (gref (f := fun q => GO x d 10 Q 20 [v0, v1] (.inr (.inr (.inl q)) :: st) I J))
set_option maxRecDepth 10000 in
theorem g_10_20 : GO x d 10 Q 20 [some (.inr (.inr w)), v1] st I J = GO x d 10 Q 21 [some (.inr (.inr w)), v1] (.inr (.inr w) :: st) I J := ge (A := (2, 21, 0, 0, 0)) rfl
set_option maxRecDepth 10000 in
theorem g_10_21 : GO x d 10 Q 21 [v0, v1] (.inr (.inr (.inl r)) :: st) I J = (okO r 2 ∧ GO x d 10 Q 24 [v0, v1] (.inl (I r 1) :: st) I J) := ge (A := (37, 24, 2, 1, 0)) rfl
set_option maxRecDepth 10000 in
theorem g_10_24 : GO x d 10 Q 24 [v0, some (.inl a)] st I J = GO x d 10 Q 25 [v0, some (.inl a)] (.inl a :: st) I J := ge (A := (1, 25, 1, 0, 0)) rfl
set_option maxRecDepth 10000 in
theorem g_10_25 : GO x d 10 Q 25 [v0, v1] (.inl b :: .inl a :: .inr (.inr (.inl r)) :: st) I J = (okA r 20 ∧ 0 ≤ a ∧ a < lnN r ∧ GO x d 10 Q 26 [v0, v1] st (up I r a b) J) := ge (A := (45, 26, 0, 0, 0)) rfl
set_option maxRecDepth 10000 in
theorem g_10_26 : GO x d 10 Q 26 [some (.inr (.inr w)), v1] st I J = GO x d 10 Q 27 [some (.inr (.inr w)), v1] (.inr (.inr w) :: st) I J := ge (A := (2, 27, 0, 0, 0)) rfl
set_option maxRecDepth 10000 in
theorem g_10_27 : GO x d 10 Q 27 [v0, v1] (.inr (.inr w) :: st) I J = GO x d 10 Q 28 [v0, v1] (.inr (.inr w) :: .inr (.inr w) :: st) I J := ge (A := (31, 28, 0, 0, 0)) rfl
set_option maxRecDepth 10000 in
theorem g_10_28 : GO x d 10 Q 28 [v0, v1] (.inr (.inr (.inl r)) :: st) I J = (okO r 2 ∧ GO x d 10 Q 31 [v0, v1] (.inl (I r 1) :: st) I J) := ge (A := (37, 31, 2, 1, 0)) rfl
set_option maxRecDepth 10000 in
theorem g_10_31 : GO x d 10 Q 31 [v0, v1] st I J = GO x d 10 Q 32 [v0, v1] (.inl (1) :: st) I J := ge (A := (0, 32, 0, 0, 1)) rfl
set_option maxRecDepth 10000 in
theorem g_10_32 : GO x d 10 Q 32 [v0, v1] (.inl b :: .inl a :: st) I J = GO x d 10 Q 33 [v0, v1] (.inl (a + b) :: st) I J := ge (A := (8, 33, 0, 0, 0)) rfl
set_option maxRecDepth 10000 in
theorem g_10_33 : GO x d 10 Q 33 [v0, v1] (.inl a :: .inr (.inr (.inl r)) :: st) I J = (okO r 2 ∧ GO x d 10 Q 36 [v0, v1] st (up I r 1 a) J) := ge (A := (40, 36, 2, 1, 0)) rfl
set_option maxRecDepth 10000 in
theorem g_10_36 : GO x d 10 Q 36 [v0, v1] [] I J = Q none I J := ge (A := (57, 37, 0, 0, 0)) rfl
set_option maxRecDepth 10000 in
theorem e_10 : EX x (d + 1) 10 [.inr (.inr w0), .inl i0] I J Q = GO x d 10 Q 0 [some (.inr (.inr w0)), some (.inl i0)] [] I J := ex_eq (Nat.le_of_ble_eq_true rfl) rfl (Nat.le_of_ble_eq_true rfl) rfl
set_option maxRecDepth 10000 in
theorem g_12_0 : GO x d 12 Q 0 [some (.inr (.inr w))] st I J = GO x d 12 Q 1 [some (.inr (.inr w))] (.inr (.inr w) :: st) I J := ge (A := (2, 1, 0, 0, 0)) rfl
set_option maxRecDepth 10000 in
theorem g_12_1 : GO x d 12 Q 1 [v0] st I J = GO x d 12 Q 2 [v0] (.inl (1) :: st) I J := ge (A := (0, 2, 0, 0, 1)) rfl
set_option maxRecDepth 10000 in
theorem g_12_2 : GO x d 12 Q 2 [v0] (.inl a :: .inr (.inr (.inl r)) :: st) I J = (okO r 3 ∧ ret01 a ∧ GO x d 12 Q 5 [v0] st (up I r 0 a) J) := ge (A := (41, 5, 3, 0, 0)) rfl
set_option maxRecDepth 10000 in
theorem g_12_5 : GO x d 12 Q 5 [some (.inr (.inr w))] st I J = GO x d 12 Q 6 [some (.inr (.inr w))] (.inr (.inr w) :: st) I J := ge (A := (2, 6, 0, 0, 0)) rfl
set_option maxRecDepth 10000 in
theorem g_12_6 : GO x d 12 Q 6 [v0] st I J = GO x d 12 Q 7 [v0] (.inl (0) :: st) I J := ge (A := (0, 7, 0, 0, 0)) rfl
set_option maxRecDepth 10000 in
theorem g_12_7 : GO x d 12 Q 7 [v0] (.inl a :: .inr (.inr (.inl r)) :: st) I J = (okO r 3 ∧ GO x d 12 Q 10 [v0] st (up I r 3 a) J) := ge (A := (40, 10, 3, 3, 0)) rfl
set_option maxRecDepth 10000 in
theorem g_12_10 : GO x d 12 Q 10 [some (.inr (.inr w))] st I J = GO x d 12 Q 11 [some (.inr (.inr w))] (.inr (.inr w) :: st) I J := ge (A := (2, 11, 0, 0, 0)) rfl
set_option maxRecDepth 10000 in
theorem g_12_11 : GO x d 12 Q 11 [v0] st I J = GO x d 12 Q 12 [v0] (.inl (0) :: st) I J := ge (A := (0, 12, 0, 0, 0)) rfl
set_option maxRecDepth 10000 in
theorem g_12_12 : GO x d 12 Q 12 [v0] (.inl a :: .inr (.inr (.inl r)) :: st) I J = (okO r 3 ∧ GO x d 12 Q 15 [v0] st (up I r 8 a) J) := ge (A := (40, 15, 3, 8, 0)) rfl
set_option maxRecDepth 10000 in
theorem g_12_15 : GO x d 12 Q 15 [some (.inr (.inr w))] st I J = GO x d 12 Q 16 [some (.inr (.inr w))] (.inr (.inr w) :: st) I J := ge (A := (2, 16, 0, 0, 0)) rfl
set_option maxRecDepth 10000 in
theorem g_12_16 : GO x d 12 Q 16 [v0] st I J = GO x d 12 Q 17 [v0] (.inl (0) :: st) I J := ge (A := (0, 17, 0, 0, 0)) rfl
set_option maxRecDepth 10000 in
theorem g_12_17 : GO x d 12 Q 17 [v0] (.inl a :: .inr (.inr (.inl r)) :: st) I J = (okO r 3 ∧ GO x d 12 Q 20 [v0] st (up I r 11 a) J) := ge (A := (40, 20, 3, 11, 0)) rfl
set_option maxRecDepth 10000 in
theorem g_12_20 : GO x d 12 Q 20 [some (.inr (.inr w))] st I J = GO x d 12 Q 21 [some (.inr (.inr w))] (.inr (.inr w) :: st) I J := ge (A := (2, 21, 0, 0, 0)) rfl
set_option maxRecDepth 10000 in
theorem g_12_21 : GO x d 12 Q 21 [v0] st I J = GO x d 12 Q 22 [v0] (.inl (-1) :: st) I J := ge (A := (0, 22, 0, 0, -1)) rfl
set_option maxRecDepth 10000 in
theorem g_12_22 : GO x d 12 Q 22 [v0] (.inl a :: .inr (.inr (.inl r)) :: st) I J = (okO r 3 ∧ GO x d 12 Q 25 [v0] st (up I r 12 a) J) := ge (A := (40, 25, 3, 12, 0)) rfl
set_option maxRecDepth 10000 in
theorem g_12_25 : GO x d 12 Q 25 [some (.inr (.inr w))] st I J = GO x d 12 Q 26 [some (.inr (.inr w))] (.inr (.inr w) :: st) I J := ge (A := (2, 26, 0, 0, 0)) rfl
set_option maxRecDepth 10000 in
theorem g_12_26 : GO x d 12 Q 26 [v0] st I J = GO x d 12 Q 27 [v0] (.inl (0) :: st) I J := ge (A := (0, 27, 0, 0, 0)) rfl
set_option maxRecDepth 10000 in
theorem g_12_27 : GO x d 12 Q 27 [v0] (.inl a :: .inr (.inr (.inl r)) :: st) I J = (okO r 3 ∧ GO x d 12 Q 30 [v0] st (up I r 13 a) J) := ge (A := (40, 30, 3, 13, 0)) rfl
set_option maxRecDepth 10000 in
theorem g_12_30 : GO x d 12 Q 30 [v0] [] I J = Q none I J := ge (A := (57, 31, 0, 0, 0)) rfl
set_option maxRecDepth 10000 in
theorem e_12 : EX x (d + 1) 12 [.inr (.inr w0)] I J Q = GO x d 12 Q 0 [some (.inr (.inr w0))] [] I J := ex_eq (Nat.le_of_ble_eq_true rfl) rfl (Nat.le_of_ble_eq_true rfl) rfl
set_option maxRecDepth 10000 in
theorem g_13_0 : GO x d 13 Q 0 [some (.inr (.inr w)), v1, v2] st I J = GO x d 13 Q 1 [some (.inr (.inr w)), v1, v2] (.inr (.inr w) :: st) I J := ge (A := (2, 1, 0, 0, 0)) rfl
set_option maxRecDepth 10000 in
theorem g_13_1 : GO x d 13 Q 1 [v0, v1, v2] (.inr (.inr (.inl r)) :: st) I J = (okO r 3 ∧ GO x d 13 Q 4 [v0, v1, v2] (.inl (I r 3) :: st) I J) := ge (A := (37, 4, 3, 3, 0)) rfl
set_option maxRecDepth 10000 in
theorem g_13_4 : GO x d 13 Q 4 [v0, v1, v2] (.inl a :: st) I J = (inR a ∧ if a < 0 then GO x d 13 Q 16 [v0, v1, v2] st I J else GO x d 13 Q 7 [v0, v1, v2] st I J) := (ge (A := (33, 7, 16, 2, 0)) rfl).trans (gif (p := a < 0) inferInstance)
set_option maxRecDepth 10000 in
theorem g_13_7 : GO x d 13 Q 7 [some (.inr (.inr w)), v1, v2] st I J = GO x d 13 Q 8 [some (.inr (.inr w)), v1, v2] (.inr (.inr w) :: st) I J := ge (A := (2, 8, 0, 0, 0)) rfl
set_option maxRecDepth 10000 in
theorem g_13_8 : GO x d 13 Q 8 [v0, v1, v2] (.inr (.inr (.inl r)) :: st) I J = (okO r 3 ∧ GO x d 13 Q 11 [v0, v1, v2] (.inl (I r 3) :: st) I J) := ge (A := (37, 11, 3, 3, 0)) rfl
set_option maxRecDepth 10000 in
theorem g_13_11 : GO x d 13 Q 11 [v0, v1, v2] st I J = GO x d 13 Q 13 [v0, v1, v2] (.inl (8) :: st) I J := ge (A := (0, 13, 0, 0, 8)) rfl
set_option maxRecDepth 10000 in
theorem g_13_13 : GO x d 13 Q 13 [v0, v1, v2] (.inl b :: .inl a :: st) I J = (inR a ∧ inR b ∧ if a < b then GO x d 13 Q 17 [v0, v1, v2] st I J else GO x d 13 Q 16 [v0, v1, v2] st I J) := (ge (A := (34, 16, 17, 2, 0)) rfl).trans (gic (p := a < b) inferInstance)
set_option maxRecDepth 10000 in
theorem g_13_16 : GO x d 13 Q 16 [v0, v1, v2] [] I J = Q none I J := ge (A := (57, 17, 0, 0, 0)) rfl
set_option maxRecDepth 10000 in
theorem g_13_17 : GO x d 13 Q 17 [some (.inr (.inr w)), v1, v2] st I J = GO x d 13 Q 18 [some (.inr (.inr w)), v1, v2] (.inr (.inr w) :: st) I J := ge (A := (2, 18, 0, 0, 0)) rfl
set_option maxRecDepth 10000 in
theorem g_13_18 : GO x d 13 Q 18 [v0, v1, v2] (.inr (.inr (.inl r)) :: st) I J = (okF r 3 4 ∧ GO x d 13 Q 21 [v0, v1, v2] (.inr (.inr (.inl (rfN r 4))) :: st) I J) := (ge (A := (39, 21, 3, 4, 0)) rfl).trans (gref (f := fun q => GO x d 13 Q 21 [v0, v1, v2] (.inr (.inr (.inl q)) :: st) I J))
set_option maxRecDepth 10000 in
theorem g_13_21 : GO x d 13 Q 21 [some (.inr (.inr w)), v1, v2] st I J = GO x d 13 Q 22 [some (.inr (.inr w)), v1, v2] (.inr (.inr w) :: st) I J := ge (A := (2, 22, 0, 0, 0)) rfl
set_option maxRecDepth 10000 in
theorem g_13_22 : GO x d 13 Q 22 [v0, v1, v2] (.inr (.inr (.inl r)) :: st) I J = (okO r 3 ∧ GO x d 13 Q 25 [v0, v1, v2] (.inl (I r 3) :: st) I J) := ge (A := (37, 25, 3, 3, 0)) rfl
set_option maxRecDepth 10000 in
theorem g_13_25 : GO x d 13 Q 25 [v0, some (.inl a), v2] st I J = GO x d 13 Q 26 [v0, some (.inl a), v2] (.inl a :: st) I J := ge (A := (1, 26, 1, 0, 0)) rfl
set_option maxRecDepth 10000 in
theorem g_13_26 : GO x d 13 Q 26 [v0, v1, v2] (.inl b :: .inl a :: .inr (.inr (.inl r)) :: st) I J = (okA r 20 ∧ 0 ≤ a ∧ a < lnN r ∧ GO x d 13 Q 27 [v0, v1, v2] st (up I r a b) J) := ge (A := (45, 27, 0, 0, 0)) rfl
set_option maxRecDepth 10000 in
theorem g_13_27 : GO x d 13 Q 27 [some (.inr (.inr w)), v1, v2] st I J = GO x d 13 Q 28 [some (.inr (.inr w)), v1, v2] (.inr (.inr w) :: st) I J := ge (A := (2, 28, 0, 0, 0)) rfl
set_option maxRecDepth 10000 in
theorem g_13_28 : GO x d 13 Q 28 [v0, v1, v2] (.inr (.inr (.inl r)) :: st) I J = (okF r 3 5 ∧ GO x d 13 Q 31 [v0, v1, v2] (.inr (.inr (.inl (rfN r 5))) :: st) I J) := (ge (A := (39, 31, 3, 5, 0)) rfl).trans (gref (f := fun q => GO x d 13 Q 31 [v0, v1, v2] (.inr (.inr (.inl q)) :: st) I J))
set_option maxRecDepth 10000 in
theorem g_13_31 : GO x d 13 Q 31 [some (.inr (.inr w)), v1, v2] st I J = GO x d 13 Q 32 [some (.inr (.inr w)), v1, v2] (.inr (.inr w) :: st) I J := ge (A := (2, 32, 0, 0, 0)) rfl
set_option maxRecDepth 10000 in
theorem g_13_32 : GO x d 13 Q 32 [v0, v1, v2] (.inr (.inr (.inl r)) :: st) I J = (okO r 3 ∧ GO x d 13 Q 35 [v0, v1, v2] (.inl (I r 3) :: st) I J) := ge (A := (37, 35, 3, 3, 0)) rfl
set_option maxRecDepth 10000 in
theorem g_13_35 : GO x d 13 Q 35 [v0, v1, some (.inl a)] st I J = GO x d 13 Q 36 [v0, v1, some (.inl a)] (.inl a :: st) I J := ge (A := (1, 36, 2, 0, 0)) rfl
set_option maxRecDepth 10000 in
theorem g_13_36 : GO x d 13 Q 36 [v0, v1, v2] (.inl b :: .inl a :: .inr (.inr (.inl r)) :: st) I J = (okA r 20 ∧ 0 ≤ a ∧ a < lnN r ∧ GO x d 13 Q 37 [v0, v1, v2] st (up I r a b) J) := ge (A := (45, 37, 0, 0, 0)) rfl
set_option maxRecDepth 10000 in
theorem g_13_37 : GO x d 13 Q 37 [some (.inr (.inr w)), v1, v2] st I J = GO x d 13 Q 38 [some (.inr (.inr w)), v1, v2] (.inr (.inr w) :: st) I J := ge (A := (2, 38, 0, 0, 0)) rfl
set_option maxRecDepth 10000 in
theorem g_13_38 : GO x d 13 Q 38 [v0, v1, v2] (.inr (.inr (.inl r)) :: st) I J = (okF r 3 6 ∧ GO x d 13 Q 41 [v0, v1, v2] (.inr (.inr (.inl (rfN r 6))) :: st) I J) := (ge (A := (39, 41, 3, 6, 0)) rfl).trans (gref (f := fun q => GO x d 13 Q 41 [v0, v1, v2] (.inr (.inr (.inl q)) :: st) I J))
set_option maxRecDepth 10000 in
theorem g_13_41 : GO x d 13 Q 41 [some (.inr (.inr w)), v1, v2] st I J = GO x d 13 Q 42 [some (.inr (.inr w)), v1, v2] (.inr (.inr w) :: st) I J := ge (A := (2, 42, 0, 0, 0)) rfl
set_option maxRecDepth 10000 in
theorem g_13_42 : GO x d 13 Q 42 [v0, v1, v2] (.inr (.inr (.inl r)) :: st) I J = (okO r 3 ∧ GO x d 13 Q 45 [v0, v1, v2] (.inl (I r 3) :: st) I J) := ge (A := (37, 45, 3, 3, 0)) rfl
set_option maxRecDepth 10000 in
theorem g_13_45 : GO x d 13 Q 45 [v0, v1, v2] st I J = GO x d 13 Q 47 [v0, v1, v2] (.inl (-1000000) :: st) I J := ge (A := (0, 47, 0, 0, -1000000)) rfl
set_option maxRecDepth 10000 in
theorem g_13_47 : GO x d 13 Q 47 [v0, v1, v2] (.inl b :: .inl a :: .inr (.inr (.inl r)) :: st) I J = (okA r 20 ∧ 0 ≤ a ∧ a < lnN r ∧ GO x d 13 Q 48 [v0, v1, v2] st (up I r a b) J) := ge (A := (45, 48, 0, 0, 0)) rfl
set_option maxRecDepth 10000 in
theorem g_13_48 : GO x d 13 Q 48 [some (.inr (.inr w)), v1, v2] st I J = GO x d 13 Q 49 [some (.inr (.inr w)), v1, v2] (.inr (.inr w) :: st) I J := ge (A := (2, 49, 0, 0, 0)) rfl
set_option maxRecDepth 10000 in
theorem g_13_49 : GO x d 13 Q 49 [v0, v1, v2] (.inr (.inr (.inl r)) :: st) I J = (okF r 3 7 ∧ GO x d 13 Q 52 [v0, v1, v2] (.inr (.inr (.inl (rfN r 7))) :: st) I J) := (ge (A := (39, 52, 3, 7, 0)) rfl).trans (gref (f := fun q => GO x d 13 Q 52 [v0, v1, v2] (.inr (.inr (.inl q)) :: st) I J))
set_option maxRecDepth 10000 in
theorem g_13_52 : GO x d 13 Q 52 [some (.inr (.inr w)), v1, v2] st I J = GO x d 13 Q 53 [some (.inr (.inr w)), v1, v2] (.inr (.inr w) :: st) I J := ge (A := (2, 53, 0, 0, 0)) rfl
set_option maxRecDepth 10000 in
theorem g_13_53 : GO x d 13 Q 53 [v0, v1, v2] (.inr (.inr (.inl r)) :: st) I J = (okO r 3 ∧ GO x d 13 Q 56 [v0, v1, v2] (.inl (I r 3) :: st) I J) := ge (A := (37, 56, 3, 3, 0)) rfl
set_option maxRecDepth 10000 in
theorem g_13_56 : GO x d 13 Q 56 [v0, v1, v2] st I J = GO x d 13 Q 57 [v0, v1, v2] (.inl (0) :: st) I J := ge (A := (0, 57, 0, 0, 0)) rfl
set_option maxRecDepth 10000 in
theorem g_13_57 : GO x d 13 Q 57 [v0, v1, v2] (.inl b :: .inl a :: .inr (.inr (.inl r)) :: st) I J = (okA r 20 ∧ 0 ≤ a ∧ a < lnN r ∧ GO x d 13 Q 58 [v0, v1, v2] st (up I r a b) J) := ge (A := (45, 58, 0, 0, 0)) rfl
set_option maxRecDepth 10000 in
theorem g_13_58 : GO x d 13 Q 58 [some (.inr (.inr w)), v1, v2] st I J = GO x d 13 Q 59 [some (.inr (.inr w)), v1, v2] (.inr (.inr w) :: st) I J := ge (A := (2, 59, 0, 0, 0)) rfl
set_option maxRecDepth 10000 in
theorem g_13_59 : GO x d 13 Q 59 [v0, v1, v2] (.inr (.inr w) :: st) I J = GO x d 13 Q 60 [v0, v1, v2] (.inr (.inr w) :: .inr (.inr w) :: st) I J := ge (A := (31, 60, 0, 0, 0)) rfl
set_option maxRecDepth 10000 in
theorem g_13_60 : GO x d 13 Q 60 [v0, v1, v2] (.inr (.inr (.inl r)) :: st) I J = (okO r 3 ∧ GO x d 13 Q 63 [v0, v1, v2] (.inl (I r 3) :: st) I J) := ge (A := (37, 63, 3, 3, 0)) rfl
set_option maxRecDepth 10000 in
theorem g_13_63 : GO x d 13 Q 63 [v0, v1, v2] st I J = GO x d 13 Q 64 [v0, v1, v2] (.inl (1) :: st) I J := ge (A := (0, 64, 0, 0, 1)) rfl
set_option maxRecDepth 10000 in
theorem g_13_64 : GO x d 13 Q 64 [v0, v1, v2] (.inl b :: .inl a :: st) I J = GO x d 13 Q 65 [v0, v1, v2] (.inl (a + b) :: st) I J := ge (A := (8, 65, 0, 0, 0)) rfl
set_option maxRecDepth 10000 in
theorem g_13_65 : GO x d 13 Q 65 [v0, v1, v2] (.inl a :: .inr (.inr (.inl r)) :: st) I J = (okO r 3 ∧ GO x d 13 Q 68 [v0, v1, v2] st (up I r 3 a) J) := ge (A := (40, 68, 3, 3, 0)) rfl
set_option maxRecDepth 10000 in
theorem g_13_68 : GO x d 13 Q 68 [v0, v1, v2] [] I J = Q none I J := ge (A := (57, 69, 0, 0, 0)) rfl
set_option maxRecDepth 10000 in
theorem e_13 : EX x (d + 1) 13 [.inr (.inr w0), .inl i0, .inl i1] I J Q = GO x d 13 Q 0 [some (.inr (.inr w0)), some (.inl i0), some (.inl i1)] [] I J := ex_eq (Nat.le_of_ble_eq_true rfl) rfl (Nat.le_of_ble_eq_true rfl) rfl
set_option maxRecDepth 10000 in
theorem g_14_0 : GO x d 14 Q 0 [some (.inr (.inr w)), v1] st I J = GO x d 14 Q 1 [some (.inr (.inr w)), v1] (.inr (.inr w) :: st) I J := ge (A := (2, 1, 0, 0, 0)) rfl
set_option maxRecDepth 10000 in
theorem g_14_1 : GO x d 14 Q 1 [v0, v1] (.inr (.inr (.inl r)) :: st) I J = (okO r 3 ∧ GO x d 14 Q 4 [v0, v1] (.inl (I r 8) :: st) I J) := ge (A := (37, 4, 3, 8, 0)) rfl
set_option maxRecDepth 10000 in
theorem g_14_4 : GO x d 14 Q 4 [v0, v1] (.inl a :: st) I J = (inR a ∧ if a < 0 then GO x d 14 Q 15 [v0, v1] st I J else GO x d 14 Q 7 [v0, v1] st I J) := (ge (A := (33, 7, 15, 2, 0)) rfl).trans (gif (p := a < 0) inferInstance)
set_option maxRecDepth 10000 in
theorem g_14_7 : GO x d 14 Q 7 [some (.inr (.inr w)), v1] st I J = GO x d 14 Q 8 [some (.inr (.inr w)), v1] (.inr (.inr w) :: st) I J := ge (A := (2, 8, 0, 0, 0)) rfl
set_option maxRecDepth 10000 in
theorem g_14_8 : GO x d 14 Q 8 [v0, v1] (.inr (.inr (.inl r)) :: st) I J = (okO r 3 ∧ GO x d 14 Q 11 [v0, v1] (.inl (I r 8) :: st) I J) := ge (A := (37, 11, 3, 8, 0)) rfl
set_option maxRecDepth 10000 in
theorem g_14_11 : GO x d 14 Q 11 [v0, v1] st I J = GO x d 14 Q 12 [v0, v1] (.inl (5) :: st) I J := ge (A := (0, 12, 0, 0, 5)) rfl
set_option maxRecDepth 10000 in
theorem g_14_12 : GO x d 14 Q 12 [v0, v1] (.inl b :: .inl a :: st) I J = (inR a ∧ inR b ∧ if a < b then GO x d 14 Q 16 [v0, v1] st I J else GO x d 14 Q 15 [v0, v1] st I J) := (ge (A := (34, 15, 16, 2, 0)) rfl).trans (gic (p := a < b) inferInstance)
set_option maxRecDepth 10000 in
theorem g_14_15 : GO x d 14 Q 15 [v0, v1] [] I J = Q none I J := ge (A := (57, 16, 0, 0, 0)) rfl
set_option maxRecDepth 10000 in
theorem g_14_16 : GO x d 14 Q 16 [some (.inr (.inr w)), v1] st I J = GO x d 14 Q 17 [some (.inr (.inr w)), v1] (.inr (.inr w) :: st) I J := ge (A := (2, 17, 0, 0, 0)) rfl
set_option maxRecDepth 10000 in
theorem g_14_17 : GO x d 14 Q 17 [v0, v1] (.inr (.inr (.inl r)) :: st) I J = (okF r 3 9 ∧ GO x d 14 Q 20 [v0, v1] (.inr (.inr (.inl (rfN r 9))) :: st) I J) := (ge (A := (39, 20, 3, 9, 0)) rfl).trans (gref (f := fun q => GO x d 14 Q 20 [v0, v1] (.inr (.inr (.inl q)) :: st) I J))
set_option maxRecDepth 10000 in
theorem g_14_20 : GO x d 14 Q 20 [some (.inr (.inr w)), v1] st I J = GO x d 14 Q 21 [some (.inr (.inr w)), v1] (.inr (.inr w) :: st) I J := ge (A := (2, 21, 0, 0, 0)) rfl
set_option maxRecDepth 10000 in
theorem g_14_21 : GO x d 14 Q 21 [v0, v1] (.inr (.inr (.inl r)) :: st) I J = (okO r 3 ∧ GO x d 14 Q 24 [v0, v1] (.inl (I r 8) :: st) I J) := ge (A := (37, 24, 3, 8, 0)) rfl
set_option maxRecDepth 10000 in
theorem g_14_24 : GO x d 14 Q 24 [v0, some (.inl a)] st I J = GO x d 14 Q 25 [v0, some (.inl a)] (.inl a :: st) I J := ge (A := (1, 25, 1, 0, 0)) rfl
set_option maxRecDepth 10000 in
theorem g_14_25 : GO x d 14 Q 25 [v0, v1] (.inl b :: .inl a :: .inr (.inr (.inl r)) :: st) I J = (okA r 20 ∧ 0 ≤ a ∧ a < lnN r ∧ GO x d 14 Q 26 [v0, v1] st (up I r a b) J) := ge (A := (45, 26, 0, 0, 0)) rfl
set_option maxRecDepth 10000 in
theorem g_14_26 : GO x d 14 Q 26 [some (.inr (.inr w)), v1] st I J = GO x d 14 Q 27 [some (.inr (.inr w)), v1] (.inr (.inr w) :: st) I J := ge (A := (2, 27, 0, 0, 0)) rfl
set_option maxRecDepth 10000 in
theorem g_14_27 : GO x d 14 Q 27 [v0, v1] (.inr (.inr (.inl r)) :: st) I J = (okF r 3 10 ∧ GO x d 14 Q 30 [v0, v1] (.inr (.inr (.inl (rfN r 10))) :: st) I J) := (ge (A := (39, 30, 3, 10, 0)) rfl).trans (gref (f := fun q => GO x d 14 Q 30 [v0, v1] (.inr (.inr (.inl q)) :: st) I J))
set_option maxRecDepth 10000 in
theorem g_14_30 : GO x d 14 Q 30 [some (.inr (.inr w)), v1] st I J = GO x d 14 Q 31 [some (.inr (.inr w)), v1] (.inr (.inr w) :: st) I J := ge (A := (2, 31, 0, 0, 0)) rfl
set_option maxRecDepth 10000 in
theorem g_14_31 : GO x d 14 Q 31 [v0, v1] (.inr (.inr (.inl r)) :: st) I J = (okO r 3 ∧ GO x d 14 Q 34 [v0, v1] (.inl (I r 8) :: st) I J) := ge (A := (37, 34, 3, 8, 0)) rfl
set_option maxRecDepth 10000 in
theorem g_14_34 : GO x d 14 Q 34 [v0, v1] st I J = GO x d 14 Q 36 [v0, v1] (.inl (-1000000) :: st) I J := ge (A := (0, 36, 0, 0, -1000000)) rfl
set_option maxRecDepth 10000 in
theorem g_14_36 : GO x d 14 Q 36 [v0, v1] (.inl b :: .inl a :: .inr (.inr (.inl r)) :: st) I J = (okA r 20 ∧ 0 ≤ a ∧ a < lnN r ∧ GO x d 14 Q 37 [v0, v1] st (up I r a b) J) := ge (A := (45, 37, 0, 0, 0)) rfl
set_option maxRecDepth 10000 in
theorem g_14_37 : GO x d 14 Q 37 [some (.inr (.inr w)), v1] st I J = GO x d 14 Q 38 [some (.inr (.inr w)), v1] (.inr (.inr w) :: st) I J := ge (A := (2, 38, 0, 0, 0)) rfl
set_option maxRecDepth 10000 in
theorem g_14_38 : GO x d 14 Q 38 [v0, v1] (.inr (.inr w) :: st) I J = GO x d 14 Q 39 [v0, v1] (.inr (.inr w) :: .inr (.inr w) :: st) I J := ge (A := (31, 39, 0, 0, 0)) rfl
set_option maxRecDepth 10000 in
theorem g_14_39 : GO x d 14 Q 39 [v0, v1] (.inr (.inr (.inl r)) :: st) I J = (okO r 3 ∧ GO x d 14 Q 42 [v0, v1] (.inl (I r 8) :: st) I J) := ge (A := (37, 42, 3, 8, 0)) rfl
set_option maxRecDepth 10000 in
theorem g_14_42 : GO x d 14 Q 42 [v0, v1] st I J = GO x d 14 Q 43 [v0, v1] (.inl (1) :: st) I J := ge (A := (0, 43, 0, 0, 1)) rfl
set_option maxRecDepth 10000 in
theorem g_14_43 : GO x d 14 Q 43 [v0, v1] (.inl b :: .inl a :: st) I J = GO x d 14 Q 44 [v0, v1] (.inl (a + b) :: st) I J := ge (A := (8, 44, 0, 0, 0)) rfl
set_option maxRecDepth 10000 in
theorem g_14_44 : GO x d 14 Q 44 [v0, v1] (.inl a :: .inr (.inr (.inl r)) :: st) I J = (okO r 3 ∧ GO x d 14 Q 47 [v0, v1] st (up I r 8 a) J) := ge (A := (40, 47, 3, 8, 0)) rfl
set_option maxRecDepth 10000 in
theorem g_14_47 : GO x d 14 Q 47 [v0, v1] [] I J = Q none I J := ge (A := (57, 48, 0, 0, 0)) rfl
set_option maxRecDepth 10000 in
theorem e_14 : EX x (d + 1) 14 [.inr (.inr w0), .inl i0] I J Q = GO x d 14 Q 0 [some (.inr (.inr w0)), some (.inl i0)] [] I J := ex_eq (Nat.le_of_ble_eq_true rfl) rfl (Nat.le_of_ble_eq_true rfl) rfl
set_option maxRecDepth 10000 in
theorem g_15_0 : GO x d 15 Q 0 [some (.inr (.inr w)), v1] st I J = GO x d 15 Q 1 [some (.inr (.inr w)), v1] (.inr (.inr w) :: st) I J := ge (A := (2, 1, 0, 0, 0)) rfl
set_option maxRecDepth 10000 in
theorem g_15_1 : GO x d 15 Q 1 [v0, some (.inr (.inr w))] st I J = GO x d 15 Q 2 [v0, some (.inr (.inr w))] (.inr (.inr w) :: st) I J := ge (A := (2, 2, 1, 0, 0)) rfl
set_option maxRecDepth 10000 in
theorem g_15_2 : GO x d 15 Q 2 [v0, v1] (.inr (.inr (.inl r)) :: st) I J = (okO r 3 ∧ GO x d 15 Q 5 [v0, v1] (.inl (I r 0) :: st) I J) := ge (A := (37, 5, 3, 0, 0)) rfl
set_option maxRecDepth 10000 in
theorem g_15_5 : GO x d 15 Q 5 [v0, v1] (.inl a :: .inr (.inr (.inl r)) :: st) I J = (okO r 3 ∧ ret01 a ∧ GO x d 15 Q 8 [v0, v1] st (up I r 0 a) J) := ge (A := (41, 8, 3, 0, 0)) rfl
set_option maxRecDepth 10000 in
theorem g_15_8 : GO x d 15 Q 8 [some (.inr (.inr w)), v1] st I J = GO x d 15 Q 9 [some (.inr (.inr w)), v1] (.inr (.inr w) :: st) I J := ge (A := (2, 9, 0, 0, 0)) rfl
set_option maxRecDepth 10000 in
theorem g_15_9 : GO x d 15 Q 9 [v0, some (.inr (.inr w))] st I J = GO x d 15 Q 10 [v0, some (.inr (.inr w))] (.inr (.inr w) :: st) I J := ge (A := (2, 10, 1, 0, 0)) rfl
set_option maxRecDepth 10000 in
theorem g_15_10 : GO x d 15 Q 10 [v0, v1] (.inr (.inr (.inl r)) :: st) I J = (okO r 3 ∧ GO x d 15 Q 13 [v0, v1] (.inl (I r 1) :: st) I J) := ge (A := (37, 13, 3, 1, 0)) rfl
set_option maxRecDepth 10000 in
theorem g_15_13 : GO x d 15 Q 13 [v0, v1] (.inl a :: .inr (.inr (.inl r)) :: st) I J = (okO r 3 ∧ GO x d 15 Q 16 [v0, v1] st (up I r 1 a) J) := ge (A := (40, 16, 3, 1, 0)) rfl
set_option maxRecDepth 10000 in
theorem g_15_16 : GO x d 15 Q 16 [some (.inr (.inr w)), v1] st I J = GO x d 15 Q 17 [some (.inr (.inr w)), v1] (.inr (.inr w) :: st) I J := ge (A := (2, 17, 0, 0, 0)) rfl
set_option maxRecDepth 10000 in
theorem g_15_17 : GO x d 15 Q 17 [v0, some (.inr (.inr w))] st I J = GO x d 15 Q 18 [v0, some (.inr (.inr w))] (.inr (.inr w) :: st) I J := ge (A := (2, 18, 1, 0, 0)) rfl
set_option maxRecDepth 10000 in
theorem g_15_18 : GO x d 15 Q 18 [v0, v1] (.inr (.inr (.inl r)) :: st) I J = (okO r 3 ∧ GO x d 15 Q 21 [v0, v1] (.inl (I r 3) :: st) I J) := ge (A := (37, 21, 3, 3, 0)) rfl
set_option maxRecDepth 10000 in
theorem g_15_21 : GO x d 15 Q 21 [v0, v1] (.inl a :: .inr (.inr (.inl r)) :: st) I J = (okO r 3 ∧ GO x d 15 Q 24 [v0, v1] st (up I r 3 a) J) := ge (A := (40, 24, 3, 3, 0)) rfl
set_option maxRecDepth 10000 in
theorem g_15_24 : GO x d 15 Q 24 [some (.inr (.inr w)), v1] st I J = GO x d 15 Q 25 [some (.inr (.inr w)), v1] (.inr (.inr w) :: st) I J := ge (A := (2, 25, 0, 0, 0)) rfl
set_option maxRecDepth 10000 in
theorem g_15_25 : GO x d 15 Q 25 [v0, some (.inr (.inr w))] st I J = GO x d 15 Q 26 [v0, some (.inr (.inr w))] (.inr (.inr w) :: st) I J := ge (A := (2, 26, 1, 0, 0)) rfl
set_option maxRecDepth 10000 in
theorem g_15_26 : GO x d 15 Q 26 [v0, v1] (.inr (.inr (.inl r)) :: st) I J = (okO r 3 ∧ GO x d 15 Q 29 [v0, v1] (.inl (I r 8) :: st) I J) := ge (A := (37, 29, 3, 8, 0)) rfl
set_option maxRecDepth 10000 in
theorem g_15_29 : GO x d 15 Q 29 [v0, v1] (.inl a :: .inr (.inr (.inl r)) :: st) I J = (okO r 3 ∧ GO x d 15 Q 32 [v0, v1] st (up I r 8 a) J) := ge (A := (40, 32, 3, 8, 0)) rfl
set_option maxRecDepth 10000 in
theorem g_15_32 : GO x d 15 Q 32 [some (.inr (.inr w)), v1] st I J = GO x d 15 Q 33 [some (.inr (.inr w)), v1] (.inr (.inr w) :: st) I J := ge (A := (2, 33, 0, 0, 0)) rfl
set_option maxRecDepth 10000 in
theorem g_15_33 : GO x d 15 Q 33 [v0, some (.inr (.inr w))] st I J = GO x d 15 Q 34 [v0, some (.inr (.inr w))] (.inr (.inr w) :: st) I J := ge (A := (2, 34, 1, 0, 0)) rfl
set_option maxRecDepth 10000 in
theorem g_15_34 : GO x d 15 Q 34 [v0, v1] (.inr (.inr (.inl r)) :: st) I J = (okO r 3 ∧ GO x d 15 Q 37 [v0, v1] (.inl (I r 11) :: st) I J) := ge (A := (37, 37, 3, 11, 0)) rfl
set_option maxRecDepth 10000 in
theorem g_15_37 : GO x d 15 Q 37 [v0, v1] (.inl a :: .inr (.inr (.inl r)) :: st) I J = (okO r 3 ∧ GO x d 15 Q 40 [v0, v1] st (up I r 11 a) J) := ge (A := (40, 40, 3, 11, 0)) rfl
set_option maxRecDepth 10000 in
theorem g_15_40 : GO x d 15 Q 40 [some (.inr (.inr w)), v1] st I J = GO x d 15 Q 41 [some (.inr (.inr w)), v1] (.inr (.inr w) :: st) I J := ge (A := (2, 41, 0, 0, 0)) rfl
set_option maxRecDepth 10000 in
theorem g_15_41 : GO x d 15 Q 41 [v0, some (.inr (.inr w))] st I J = GO x d 15 Q 42 [v0, some (.inr (.inr w))] (.inr (.inr w) :: st) I J := ge (A := (2, 42, 1, 0, 0)) rfl
set_option maxRecDepth 10000 in
theorem g_15_42 : GO x d 15 Q 42 [v0, v1] (.inr (.inr (.inl r)) :: st) I J = (okO r 3 ∧ GO x d 15 Q 45 [v0, v1] (.inl (I r 12) :: st) I J) := ge (A := (37, 45, 3, 12, 0)) rfl
set_option maxRecDepth 10000 in
theorem g_15_45 : GO x d 15 Q 45 [v0, v1] (.inl a :: .inr (.inr (.inl r)) :: st) I J = (okO r 3 ∧ GO x d 15 Q 48 [v0, v1] st (up I r 12 a) J) := ge (A := (40, 48, 3, 12, 0)) rfl
set_option maxRecDepth 10000 in
theorem g_15_48 : GO x d 15 Q 48 [some (.inr (.inr w)), v1] st I J = GO x d 15 Q 49 [some (.inr (.inr w)), v1] (.inr (.inr w) :: st) I J := ge (A := (2, 49, 0, 0, 0)) rfl
set_option maxRecDepth 10000 in
theorem g_15_49 : GO x d 15 Q 49 [v0, some (.inr (.inr w))] st I J = GO x d 15 Q 50 [v0, some (.inr (.inr w))] (.inr (.inr w) :: st) I J := ge (A := (2, 50, 1, 0, 0)) rfl
set_option maxRecDepth 10000 in
theorem g_15_50 : GO x d 15 Q 50 [v0, v1] (.inr (.inr (.inl r)) :: st) I J = (okO r 3 ∧ GO x d 15 Q 53 [v0, v1] (.inl (I r 13) :: st) I J) := ge (A := (37, 53, 3, 13, 0)) rfl
set_option maxRecDepth 10000 in
theorem g_15_53 : GO x d 15 Q 53 [v0, v1] (.inl a :: .inr (.inr (.inl r)) :: st) I J = (okO r 3 ∧ GO x d 15 Q 56 [v0, v1] st (up I r 13 a) J) := ge (A := (40, 56, 3, 13, 0)) rfl
set_option maxRecDepth 10000 in
theorem g_15_56 : GO x d 15 Q 56 [v0, some (.inr (.inr w))] st I J = GO x d 15 Q 57 [v0, some (.inr (.inr w))] (.inr (.inr w) :: st) I J := ge (A := (2, 57, 1, 0, 0)) rfl
set_option maxRecDepth 10000 in
theorem g_15_57 : GO x d 15 Q 57 [v0, v1] (.inr (.inr (.inl r)) :: st) I J = (okF r 3 2 ∧ GO x d 15 Q 60 [v0, v1] (.inr (.inr (.inl (rfN r 2))) :: st) I J) := (ge (A := (39, 60, 3, 2, 0)) rfl).trans (gref (f := fun q => GO x d 15 Q 60 [v0, v1] (.inr (.inr (.inl q)) :: st) I J))
set_option maxRecDepth 10000 in
theorem g_15_60 : GO x d 15 Q 60 [v0, v1] st I J = GO x d 15 Q 61 [v0, v1] (.inl (0) :: st) I J := ge (A := (0, 61, 0, 0, 0)) rfl
set_option maxRecDepth 10000 in
theorem g_15_61 : GO x d 15 Q 61 [some (.inr (.inr w)), v1] st I J = GO x d 15 Q 62 [some (.inr (.inr w)), v1] (.inr (.inr w) :: st) I J := ge (A := (2, 62, 0, 0, 0)) rfl
set_option maxRecDepth 10000 in
theorem g_15_62 : GO x d 15 Q 62 [v0, v1] (.inr (.inr (.inl r)) :: st) I J = (okF r 3 2 ∧ GO x d 15 Q 65 [v0, v1] (.inr (.inr (.inl (rfN r 2))) :: st) I J) := (ge (A := (39, 65, 3, 2, 0)) rfl).trans (gref (f := fun q => GO x d 15 Q 65 [v0, v1] (.inr (.inr (.inl q)) :: st) I J))
set_option maxRecDepth 10000 in
theorem g_15_65 : GO x d 15 Q 65 [v0, v1] st I J = GO x d 15 Q 66 [v0, v1] (.inl (0) :: st) I J := ge (A := (0, 66, 0, 0, 0)) rfl
set_option maxRecDepth 10000 in
theorem g_15_66 : GO x d 15 Q 66 [v0, v1] st I J = GO x d 15 Q 67 [v0, v1] (.inl (4) :: st) I J := ge (A := (0, 67, 0, 0, 4)) rfl
set_option maxRecDepth 10000 in
theorem g_15_67 : GO x d 15 Q 67 [v0, v1] (.inl e :: .inl b :: .inr (.inr (.inl q)) :: .inl a :: .inr (.inr (.inl r)) :: st) I J = (catS st ≤ 8 ∧ okA r 20 ∧ okA q 20 ∧ 0 ≤ e ∧ 0 ≤ a ∧ 0 ≤ b ∧ a + e ≤ lnN r ∧ b + e ≤ lnN q ∧ GO x d 15 Q 70 [v0, v1] st (cpI I q b e r a) J) := ge (A := (54, 70, 0, 0, 0)) rfl
set_option maxRecDepth 10000 in
theorem g_15_70 : GO x d 15 Q 70 [v0, some (.inr (.inr w))] st I J = GO x d 15 Q 71 [v0, some (.inr (.inr w))] (.inr (.inr w) :: st) I J := ge (A := (2, 71, 1, 0, 0)) rfl
set_option maxRecDepth 10000 in
theorem g_15_71 : GO x d 15 Q 71 [v0, v1] (.inr (.inr (.inl r)) :: st) I J = (okF r 3 4 ∧ GO x d 15 Q 74 [v0, v1] (.inr (.inr (.inl (rfN r 4))) :: st) I J) := (ge (A := (39, 74, 3, 4, 0)) rfl).trans (gref (f := fun q => GO x d 15 Q 74 [v0, v1] (.inr (.inr (.inl q)) :: st) I J))
set_option maxRecDepth 10000 in
theorem g_15_74 : GO x d 15 Q 74 [v0, v1] st I J = GO x d 15 Q 75 [v0, v1] (.inl (0) :: st) I J := ge (A := (0, 75, 0, 0, 0)) rfl
set_option maxRecDepth 10000 in
theorem g_15_75 : GO x d 15 Q 75 [some (.inr (.inr w)), v1] st I J = GO x d 15 Q 76 [some (.inr (.inr w)), v1] (.inr (.inr w) :: st) I J := ge (A := (2, 76, 0, 0, 0)) rfl
set_option maxRecDepth 10000 in
theorem g_15_76 : GO x d 15 Q 76 [v0, v1] (.inr (.inr (.inl r)) :: st) I J = (okF r 3 4 ∧ GO x d 15 Q 79 [v0, v1] (.inr (.inr (.inl (rfN r 4))) :: st) I J) := (ge (A := (39, 79, 3, 4, 0)) rfl).trans (gref (f := fun q => GO x d 15 Q 79 [v0, v1] (.inr (.inr (.inl q)) :: st) I J))
set_option maxRecDepth 10000 in
theorem g_15_79 : GO x d 15 Q 79 [v0, v1] st I J = GO x d 15 Q 80 [v0, v1] (.inl (0) :: st) I J := ge (A := (0, 80, 0, 0, 0)) rfl
set_option maxRecDepth 10000 in
theorem g_15_80 : GO x d 15 Q 80 [v0, v1] st I J = GO x d 15 Q 82 [v0, v1] (.inl (8) :: st) I J := ge (A := (0, 82, 0, 0, 8)) rfl
set_option maxRecDepth 10000 in
theorem g_15_82 : GO x d 15 Q 82 [v0, v1] (.inl e :: .inl b :: .inr (.inr (.inl q)) :: .inl a :: .inr (.inr (.inl r)) :: st) I J = (catS st ≤ 8 ∧ okA r 20 ∧ okA q 20 ∧ 0 ≤ e ∧ 0 ≤ a ∧ 0 ≤ b ∧ a + e ≤ lnN r ∧ b + e ≤ lnN q ∧ GO x d 15 Q 85 [v0, v1] st (cpI I q b e r a) J) := ge (A := (54, 85, 0, 0, 0)) rfl
set_option maxRecDepth 10000 in
theorem g_15_85 : GO x d 15 Q 85 [v0, some (.inr (.inr w))] st I J = GO x d 15 Q 86 [v0, some (.inr (.inr w))] (.inr (.inr w) :: st) I J := ge (A := (2, 86, 1, 0, 0)) rfl
set_option maxRecDepth 10000 in
theorem g_15_86 : GO x d 15 Q 86 [v0, v1] (.inr (.inr (.inl r)) :: st) I J = (okF r 3 5 ∧ GO x d 15 Q 89 [v0, v1] (.inr (.inr (.inl (rfN r 5))) :: st) I J) := (ge (A := (39, 89, 3, 5, 0)) rfl).trans (gref (f := fun q => GO x d 15 Q 89 [v0, v1] (.inr (.inr (.inl q)) :: st) I J))
set_option maxRecDepth 10000 in
theorem g_15_89 : GO x d 15 Q 89 [v0, v1] st I J = GO x d 15 Q 90 [v0, v1] (.inl (0) :: st) I J := ge (A := (0, 90, 0, 0, 0)) rfl
set_option maxRecDepth 10000 in
theorem g_15_90 : GO x d 15 Q 90 [some (.inr (.inr w)), v1] st I J = GO x d 15 Q 91 [some (.inr (.inr w)), v1] (.inr (.inr w) :: st) I J := ge (A := (2, 91, 0, 0, 0)) rfl
set_option maxRecDepth 10000 in
theorem g_15_91 : GO x d 15 Q 91 [v0, v1] (.inr (.inr (.inl r)) :: st) I J = (okF r 3 5 ∧ GO x d 15 Q 94 [v0, v1] (.inr (.inr (.inl (rfN r 5))) :: st) I J) := (ge (A := (39, 94, 3, 5, 0)) rfl).trans (gref (f := fun q => GO x d 15 Q 94 [v0, v1] (.inr (.inr (.inl q)) :: st) I J))
set_option maxRecDepth 10000 in
theorem g_15_94 : GO x d 15 Q 94 [v0, v1] st I J = GO x d 15 Q 95 [v0, v1] (.inl (0) :: st) I J := ge (A := (0, 95, 0, 0, 0)) rfl
set_option maxRecDepth 10000 in
theorem g_15_95 : GO x d 15 Q 95 [v0, v1] st I J = GO x d 15 Q 97 [v0, v1] (.inl (8) :: st) I J := ge (A := (0, 97, 0, 0, 8)) rfl
set_option maxRecDepth 10000 in
theorem g_15_97 : GO x d 15 Q 97 [v0, v1] (.inl e :: .inl b :: .inr (.inr (.inl q)) :: .inl a :: .inr (.inr (.inl r)) :: st) I J = (catS st ≤ 8 ∧ okA r 20 ∧ okA q 20 ∧ 0 ≤ e ∧ 0 ≤ a ∧ 0 ≤ b ∧ a + e ≤ lnN r ∧ b + e ≤ lnN q ∧ GO x d 15 Q 100 [v0, v1] st (cpI I q b e r a) J) := ge (A := (54, 100, 0, 0, 0)) rfl
set_option maxRecDepth 10000 in
theorem g_15_100 : GO x d 15 Q 100 [v0, some (.inr (.inr w))] st I J = GO x d 15 Q 101 [v0, some (.inr (.inr w))] (.inr (.inr w) :: st) I J := ge (A := (2, 101, 1, 0, 0)) rfl
set_option maxRecDepth 10000 in
theorem g_15_101 : GO x d 15 Q 101 [v0, v1] (.inr (.inr (.inl r)) :: st) I J = (okF r 3 6 ∧ GO x d 15 Q 104 [v0, v1] (.inr (.inr (.inl (rfN r 6))) :: st) I J) := (ge (A := (39, 104, 3, 6, 0)) rfl).trans (gref (f := fun q => GO x d 15 Q 104 [v0, v1] (.inr (.inr (.inl q)) :: st) I J))
set_option maxRecDepth 10000 in
theorem g_15_104 : GO x d 15 Q 104 [v0, v1] st I J = GO x d 15 Q 105 [v0, v1] (.inl (0) :: st) I J := ge (A := (0, 105, 0, 0, 0)) rfl
set_option maxRecDepth 10000 in
theorem g_15_105 : GO x d 15 Q 105 [some (.inr (.inr w)), v1] st I J = GO x d 15 Q 106 [some (.inr (.inr w)), v1] (.inr (.inr w) :: st) I J := ge (A := (2, 106, 0, 0, 0)) rfl
set_option maxRecDepth 10000 in
theorem g_15_106 : GO x d 15 Q 106 [v0, v1] (.inr (.inr (.inl r)) :: st) I J = (okF r 3 6 ∧ GO x d 15 Q 109 [v0, v1] (.inr (.inr (.inl (rfN r 6))) :: st) I J) := (ge (A := (39, 109, 3, 6, 0)) rfl).trans (gref (f := fun q => GO x d 15 Q 109 [v0, v1] (.inr (.inr (.inl q)) :: st) I J))
set_option maxRecDepth 10000 in
theorem g_15_109 : GO x d 15 Q 109 [v0, v1] st I J = GO x d 15 Q 110 [v0, v1] (.inl (0) :: st) I J := ge (A := (0, 110, 0, 0, 0)) rfl
set_option maxRecDepth 10000 in
theorem g_15_110 : GO x d 15 Q 110 [v0, v1] st I J = GO x d 15 Q 112 [v0, v1] (.inl (8) :: st) I J := ge (A := (0, 112, 0, 0, 8)) rfl
set_option maxRecDepth 10000 in
theorem g_15_112 : GO x d 15 Q 112 [v0, v1] (.inl e :: .inl b :: .inr (.inr (.inl q)) :: .inl a :: .inr (.inr (.inl r)) :: st) I J = (catS st ≤ 8 ∧ okA r 20 ∧ okA q 20 ∧ 0 ≤ e ∧ 0 ≤ a ∧ 0 ≤ b ∧ a + e ≤ lnN r ∧ b + e ≤ lnN q ∧ GO x d 15 Q 115 [v0, v1] st (cpI I q b e r a) J) := ge (A := (54, 115, 0, 0, 0)) rfl
set_option maxRecDepth 10000 in
theorem g_15_115 : GO x d 15 Q 115 [v0, some (.inr (.inr w))] st I J = GO x d 15 Q 116 [v0, some (.inr (.inr w))] (.inr (.inr w) :: st) I J := ge (A := (2, 116, 1, 0, 0)) rfl
set_option maxRecDepth 10000 in
theorem g_15_116 : GO x d 15 Q 116 [v0, v1] (.inr (.inr (.inl r)) :: st) I J = (okF r 3 7 ∧ GO x d 15 Q 119 [v0, v1] (.inr (.inr (.inl (rfN r 7))) :: st) I J) := (ge (A := (39, 119, 3, 7, 0)) rfl).trans (gref (f := fun q => GO x d 15 Q 119 [v0, v1] (.inr (.inr (.inl q)) :: st) I J))
set_option maxRecDepth 10000 in
theorem g_15_119 : GO x d 15 Q 119 [v0, v1] st I J = GO x d 15 Q 120 [v0, v1] (.inl (0) :: st) I J := ge (A := (0, 120, 0, 0, 0)) rfl
set_option maxRecDepth 10000 in
theorem g_15_120 : GO x d 15 Q 120 [some (.inr (.inr w)), v1] st I J = GO x d 15 Q 121 [some (.inr (.inr w)), v1] (.inr (.inr w) :: st) I J := ge (A := (2, 121, 0, 0, 0)) rfl
set_option maxRecDepth 10000 in
theorem g_15_121 : GO x d 15 Q 121 [v0, v1] (.inr (.inr (.inl r)) :: st) I J = (okF r 3 7 ∧ GO x d 15 Q 124 [v0, v1] (.inr (.inr (.inl (rfN r 7))) :: st) I J) := (ge (A := (39, 124, 3, 7, 0)) rfl).trans (gref (f := fun q => GO x d 15 Q 124 [v0, v1] (.inr (.inr (.inl q)) :: st) I J))
set_option maxRecDepth 10000 in
theorem g_15_124 : GO x d 15 Q 124 [v0, v1] st I J = GO x d 15 Q 125 [v0, v1] (.inl (0) :: st) I J := ge (A := (0, 125, 0, 0, 0)) rfl
set_option maxRecDepth 10000 in
theorem g_15_125 : GO x d 15 Q 125 [v0, v1] st I J = GO x d 15 Q 127 [v0, v1] (.inl (8) :: st) I J := ge (A := (0, 127, 0, 0, 8)) rfl
set_option maxRecDepth 10000 in
theorem g_15_127 : GO x d 15 Q 127 [v0, v1] (.inl e :: .inl b :: .inr (.inr (.inl q)) :: .inl a :: .inr (.inr (.inl r)) :: st) I J = (catS st ≤ 8 ∧ okA r 20 ∧ okA q 20 ∧ 0 ≤ e ∧ 0 ≤ a ∧ 0 ≤ b ∧ a + e ≤ lnN r ∧ b + e ≤ lnN q ∧ GO x d 15 Q 130 [v0, v1] st (cpI I q b e r a) J) := ge (A := (54, 130, 0, 0, 0)) rfl
set_option maxRecDepth 10000 in
theorem g_15_130 : GO x d 15 Q 130 [v0, some (.inr (.inr w))] st I J = GO x d 15 Q 131 [v0, some (.inr (.inr w))] (.inr (.inr w) :: st) I J := ge (A := (2, 131, 1, 0, 0)) rfl
set_option maxRecDepth 10000 in
theorem g_15_131 : GO x d 15 Q 131 [v0, v1] (.inr (.inr (.inl r)) :: st) I J = (okF r 3 9 ∧ GO x d 15 Q 134 [v0, v1] (.inr (.inr (.inl (rfN r 9))) :: st) I J) := (ge (A := (39, 134, 3, 9, 0)) rfl).trans (gref (f := fun q => GO x d 15 Q 134 [v0, v1] (.inr (.inr (.inl q)) :: st) I J))
set_option maxRecDepth 10000 in
theorem g_15_134 : GO x d 15 Q 134 [v0, v1] st I J = GO x d 15 Q 135 [v0, v1] (.inl (0) :: st) I J := ge (A := (0, 135, 0, 0, 0)) rfl
set_option maxRecDepth 10000 in
theorem g_15_135 : GO x d 15 Q 135 [some (.inr (.inr w)), v1] st I J = GO x d 15 Q 136 [some (.inr (.inr w)), v1] (.inr (.inr w) :: st) I J := ge (A := (2, 136, 0, 0, 0)) rfl
set_option maxRecDepth 10000 in
theorem g_15_136 : GO x d 15 Q 136 [v0, v1] (.inr (.inr (.inl r)) :: st) I J = (okF r 3 9 ∧ GO x d 15 Q 139 [v0, v1] (.inr (.inr (.inl (rfN r 9))) :: st) I J) := (ge (A := (39, 139, 3, 9, 0)) rfl).trans (gref (f := fun q => GO x d 15 Q 139 [v0, v1] (.inr (.inr (.inl q)) :: st) I J))
set_option maxRecDepth 10000 in
theorem g_15_139 : GO x d 15 Q 139 [v0, v1] st I J = GO x d 15 Q 140 [v0, v1] (.inl (0) :: st) I J := ge (A := (0, 140, 0, 0, 0)) rfl
set_option maxRecDepth 10000 in
theorem g_15_140 : GO x d 15 Q 140 [v0, v1] st I J = GO x d 15 Q 141 [v0, v1] (.inl (5) :: st) I J := ge (A := (0, 141, 0, 0, 5)) rfl
set_option maxRecDepth 10000 in
theorem g_15_141 : GO x d 15 Q 141 [v0, v1] (.inl e :: .inl b :: .inr (.inr (.inl q)) :: .inl a :: .inr (.inr (.inl r)) :: st) I J = (catS st ≤ 8 ∧ okA r 20 ∧ okA q 20 ∧ 0 ≤ e ∧ 0 ≤ a ∧ 0 ≤ b ∧ a + e ≤ lnN r ∧ b + e ≤ lnN q ∧ GO x d 15 Q 144 [v0, v1] st (cpI I q b e r a) J) := ge (A := (54, 144, 0, 0, 0)) rfl
set_option maxRecDepth 10000 in
theorem g_15_144 : GO x d 15 Q 144 [v0, some (.inr (.inr w))] st I J = GO x d 15 Q 145 [v0, some (.inr (.inr w))] (.inr (.inr w) :: st) I J := ge (A := (2, 145, 1, 0, 0)) rfl
set_option maxRecDepth 10000 in
theorem g_15_145 : GO x d 15 Q 145 [v0, v1] (.inr (.inr (.inl r)) :: st) I J = (okF r 3 10 ∧ GO x d 15 Q 148 [v0, v1] (.inr (.inr (.inl (rfN r 10))) :: st) I J) := (ge (A := (39, 148, 3, 10, 0)) rfl).trans (gref (f := fun q => GO x d 15 Q 148 [v0, v1] (.inr (.inr (.inl q)) :: st) I J))
set_option maxRecDepth 10000 in
theorem g_15_148 : GO x d 15 Q 148 [v0, v1] st I J = GO x d 15 Q 149 [v0, v1] (.inl (0) :: st) I J := ge (A := (0, 149, 0, 0, 0)) rfl
set_option maxRecDepth 10000 in
theorem g_15_149 : GO x d 15 Q 149 [some (.inr (.inr w)), v1] st I J = GO x d 15 Q 150 [some (.inr (.inr w)), v1] (.inr (.inr w) :: st) I J := ge (A := (2, 150, 0, 0, 0)) rfl
set_option maxRecDepth 10000 in
theorem g_15_150 : GO x d 15 Q 150 [v0, v1] (.inr (.inr (.inl r)) :: st) I J = (okF r 3 10 ∧ GO x d 15 Q 153 [v0, v1] (.inr (.inr (.inl (rfN r 10))) :: st) I J) := (ge (A := (39, 153, 3, 10, 0)) rfl).trans (gref (f := fun q => GO x d 15 Q 153 [v0, v1] (.inr (.inr (.inl q)) :: st) I J))
set_option maxRecDepth 10000 in
theorem g_15_153 : GO x d 15 Q 153 [v0, v1] st I J = GO x d 15 Q 154 [v0, v1] (.inl (0) :: st) I J := ge (A := (0, 154, 0, 0, 0)) rfl
set_option maxRecDepth 10000 in
theorem g_15_154 : GO x d 15 Q 154 [v0, v1] st I J = GO x d 15 Q 155 [v0, v1] (.inl (5) :: st) I J := ge (A := (0, 155, 0, 0, 5)) rfl
set_option maxRecDepth 10000 in
theorem g_15_155 : GO x d 15 Q 155 [v0, v1] (.inl e :: .inl b :: .inr (.inr (.inl q)) :: .inl a :: .inr (.inr (.inl r)) :: st) I J = (catS st ≤ 8 ∧ okA r 20 ∧ okA q 20 ∧ 0 ≤ e ∧ 0 ≤ a ∧ 0 ≤ b ∧ a + e ≤ lnN r ∧ b + e ≤ lnN q ∧ GO x d 15 Q 158 [v0, v1] st (cpI I q b e r a) J) := ge (A := (54, 158, 0, 0, 0)) rfl
set_option maxRecDepth 10000 in
theorem g_15_158 : GO x d 15 Q 158 [v0, v1] [] I J = Q none I J := ge (A := (57, 159, 0, 0, 0)) rfl
set_option maxRecDepth 10000 in
theorem e_15 : EX x (d + 1) 15 [.inr (.inr w0), .inr (.inr w1)] I J Q = GO x d 15 Q 0 [some (.inr (.inr w0)), some (.inr (.inr w1))] [] I J := ex_eq (Nat.le_of_ble_eq_true rfl) rfl (Nat.le_of_ble_eq_true rfl) rfl
set_option maxRecDepth 10000 in
theorem g_16_0 : GO x d 16 Q 0 [v0, some (.inl a)] st I J = GO x d 16 Q 1 [v0, some (.inl a)] (.inl a :: st) I J := ge (A := (1, 1, 1, 0, 0)) rfl
set_option maxRecDepth 10000 in
theorem g_16_1 : GO x d 16 Q 1 [v0, v1] (.inl a :: st) I J = (inR a ∧ if a < 0 then GO x d 16 Q 22 [v0, v1] st I J else GO x d 16 Q 4 [v0, v1] st I J) := (ge (A := (33, 4, 22, 2, 0)) rfl).trans (gif (p := a < 0) inferInstance)
set_option maxRecDepth 10000 in
theorem g_16_4 : GO x d 16 Q 4 [v0, some (.inl a)] st I J = GO x d 16 Q 5 [v0, some (.inl a)] (.inl a :: st) I J := ge (A := (1, 5, 1, 0, 0)) rfl
set_option maxRecDepth 10000 in
theorem g_16_5 : GO x d 16 Q 5 [some (.inr (.inr w)), v1] st I J = GO x d 16 Q 6 [some (.inr (.inr w)), v1] (.inr (.inr w) :: st) I J := ge (A := (2, 6, 0, 0, 0)) rfl
set_option maxRecDepth 10000 in
theorem g_16_6 : GO x d 16 Q 6 [v0, v1] (.inr (.inr (.inl r)) :: st) I J = (okO r 3 ∧ GO x d 16 Q 9 [v0, v1] (.inl (I r 3) :: st) I J) := ge (A := (37, 9, 3, 3, 0)) rfl
set_option maxRecDepth 10000 in
theorem g_16_9 : GO x d 16 Q 9 [v0, v1] (.inl b :: .inl a :: st) I J = (inR a ∧ inR b ∧ if a < b then GO x d 16 Q 12 [v0, v1] st I J else GO x d 16 Q 22 [v0, v1] st I J) := (ge (A := (34, 12, 22, 3, 0)) rfl).trans (ggec)
set_option maxRecDepth 10000 in
theorem g_16_12 : GO x d 16 Q 12 [v0, some (.inl a)] st I J = GO x d 16 Q 13 [v0, some (.inl a)] (.inl a :: st) I J := ge (A := (1, 13, 1, 0, 0)) rfl
set_option maxRecDepth 10000 in
theorem g_16_13 : GO x d 16 Q 13 [v0, v1] st I J = GO x d 16 Q 15 [v0, v1] (.inl (8) :: st) I J := ge (A := (0, 15, 0, 0, 8)) rfl
set_option maxRecDepth 10000 in
theorem g_16_15 : GO x d 16 Q 15 [v0, v1] (.inl b :: .inl a :: st) I J = (inR a ∧ inR b ∧ if a < b then GO x d 16 Q 18 [v0, v1] st I J else GO x d 16 Q 22 [v0, v1] st I J) := (ge (A := (34, 18, 22, 3, 0)) rfl).trans (ggec)
set_option maxRecDepth 10000 in
theorem g_16_18 : GO x d 16 Q 18 [v0, v1] st I J = GO x d 16 Q 19 [v0, v1] (.inl (1) :: st) I J := ge (A := (0, 19, 0, 0, 1)) rfl
set_option maxRecDepth 10000 in
theorem g_16_19 : GO x d 16 Q 19 [v0, v1] st I J = GO x d 16 Q 23 [v0, v1] st I J := ge (A := (35, 22, 23, 0, 0)) rfl
set_option maxRecDepth 10000 in
theorem g_16_22 : GO x d 16 Q 22 [v0, v1] st I J = GO x d 16 Q 23 [v0, v1] (.inl (0) :: st) I J := ge (A := (0, 23, 0, 0, 0)) rfl
set_option maxRecDepth 10000 in
theorem g_16_23 : GO x d 16 Q 23 [v0, v1] [.inl a] I J = (ret01 a ∧ Q (some (.inl a)) I J) := ge (A := (56, 24, 0, 0, 0)) rfl
set_option maxRecDepth 10000 in
theorem e_16 : EX x (d + 1) 16 [.inr (.inr w0), .inl i0] I J Q = GO x d 16 Q 0 [some (.inr (.inr w0)), some (.inl i0)] [] I J := ex_eq (Nat.le_of_ble_eq_true rfl) rfl (Nat.le_of_ble_eq_true rfl) rfl
set_option maxRecDepth 10000 in
theorem g_17_0 : GO x d 17 Q 0 [v0, some (.inl a)] st I J = GO x d 17 Q 1 [v0, some (.inl a)] (.inl a :: st) I J := ge (A := (1, 1, 1, 0, 0)) rfl
set_option maxRecDepth 10000 in
theorem g_17_1 : GO x d 17 Q 1 [v0, v1] (.inl a :: st) I J = (inR a ∧ if a < 0 then GO x d 17 Q 21 [v0, v1] st I J else GO x d 17 Q 4 [v0, v1] st I J) := (ge (A := (33, 4, 21, 2, 0)) rfl).trans (gif (p := a < 0) inferInstance)
set_option maxRecDepth 10000 in
theorem g_17_4 : GO x d 17 Q 4 [v0, some (.inl a)] st I J = GO x d 17 Q 5 [v0, some (.inl a)] (.inl a :: st) I J := ge (A := (1, 5, 1, 0, 0)) rfl
set_option maxRecDepth 10000 in
theorem g_17_5 : GO x d 17 Q 5 [some (.inr (.inr w)), v1] st I J = GO x d 17 Q 6 [some (.inr (.inr w)), v1] (.inr (.inr w) :: st) I J := ge (A := (2, 6, 0, 0, 0)) rfl
set_option maxRecDepth 10000 in
theorem g_17_6 : GO x d 17 Q 6 [v0, v1] (.inr (.inr (.inl r)) :: st) I J = (okO r 3 ∧ GO x d 17 Q 9 [v0, v1] (.inl (I r 8) :: st) I J) := ge (A := (37, 9, 3, 8, 0)) rfl
set_option maxRecDepth 10000 in
theorem g_17_9 : GO x d 17 Q 9 [v0, v1] (.inl b :: .inl a :: st) I J = (inR a ∧ inR b ∧ if a < b then GO x d 17 Q 12 [v0, v1] st I J else GO x d 17 Q 21 [v0, v1] st I J) := (ge (A := (34, 12, 21, 3, 0)) rfl).trans (ggec)
set_option maxRecDepth 10000 in
theorem g_17_12 : GO x d 17 Q 12 [v0, some (.inl a)] st I J = GO x d 17 Q 13 [v0, some (.inl a)] (.inl a :: st) I J := ge (A := (1, 13, 1, 0, 0)) rfl
set_option maxRecDepth 10000 in
theorem g_17_13 : GO x d 17 Q 13 [v0, v1] st I J = GO x d 17 Q 14 [v0, v1] (.inl (5) :: st) I J := ge (A := (0, 14, 0, 0, 5)) rfl
set_option maxRecDepth 10000 in
theorem g_17_14 : GO x d 17 Q 14 [v0, v1] (.inl b :: .inl a :: st) I J = (inR a ∧ inR b ∧ if a < b then GO x d 17 Q 17 [v0, v1] st I J else GO x d 17 Q 21 [v0, v1] st I J) := (ge (A := (34, 17, 21, 3, 0)) rfl).trans (ggec)
set_option maxRecDepth 10000 in
theorem g_17_17 : GO x d 17 Q 17 [v0, v1] st I J = GO x d 17 Q 18 [v0, v1] (.inl (1) :: st) I J := ge (A := (0, 18, 0, 0, 1)) rfl
set_option maxRecDepth 10000 in
theorem g_17_18 : GO x d 17 Q 18 [v0, v1] st I J = GO x d 17 Q 22 [v0, v1] st I J := ge (A := (35, 21, 22, 0, 0)) rfl
set_option maxRecDepth 10000 in
theorem g_17_21 : GO x d 17 Q 21 [v0, v1] st I J = GO x d 17 Q 22 [v0, v1] (.inl (0) :: st) I J := ge (A := (0, 22, 0, 0, 0)) rfl
set_option maxRecDepth 10000 in
theorem g_17_22 : GO x d 17 Q 22 [v0, v1] [.inl a] I J = (ret01 a ∧ Q (some (.inl a)) I J) := ge (A := (56, 23, 0, 0, 0)) rfl
set_option maxRecDepth 10000 in
theorem e_17 : EX x (d + 1) 17 [.inr (.inr w0), .inl i0] I J Q = GO x d 17 Q 0 [some (.inr (.inr w0)), some (.inl i0)] [] I J := ex_eq (Nat.le_of_ble_eq_true rfl) rfl (Nat.le_of_ble_eq_true rfl) rfl
set_option maxRecDepth 10000 in
theorem g_18_0 : GO x d 18 Q 0 [some (.inr (.inr w)), v1] st I J = GO x d 18 Q 1 [some (.inr (.inr w)), v1] (.inr (.inr w) :: st) I J := ge (A := (2, 1, 0, 0, 0)) rfl
set_option maxRecDepth 10000 in
theorem g_18_1 : GO x d 18 Q 1 [v0, some (.inl a)] st I J = GO x d 18 Q 2 [v0, some (.inl a)] (.inl a :: st) I J := ge (A := (1, 2, 1, 0, 0)) rfl
set_option maxRecDepth 10000 in
theorem g_18_2 : GO x d 18 Q 2 [v0, v1] [.inl i0, .inr (.inr (.inl r))] I J = (okO r 3 ∧ EX x d 17 [.inr (.inr (.inl r)), .inl i0] I J (fun r1 I1 J1 => GO x d 18 Q 5 [v0, v1] (r1.toList ++ []) I1 J1)) := (ge (A := (53, 5, 17, 1, 0)) rfl).trans (gtrue (Nat.le_of_ble_eq_true rfl))
set_option maxRecDepth 10000 in
theorem g_18_5 : GO x d 18 Q 5 [v0, v1] (.inl a :: st) I J = (inR a ∧ if a = 0 then GO x d 18 Q 23 [v0, v1] st I J else GO x d 18 Q 8 [v0, v1] st I J) := (ge (A := (33, 8, 23, 0, 0)) rfl).trans (gif (p := a = 0) inferInstance)
set_option maxRecDepth 10000 in
theorem g_18_8 : GO x d 18 Q 8 [some (.inr (.inr w)), v1] st I J = GO x d 18 Q 9 [some (.inr (.inr w)), v1] (.inr (.inr w) :: st) I J := ge (A := (2, 9, 0, 0, 0)) rfl
set_option maxRecDepth 10000 in
theorem g_18_9 : GO x d 18 Q 9 [v0, v1] (.inr (.inr (.inl r)) :: st) I J = (okF r 3 10 ∧ GO x d 18 Q 12 [v0, v1] (.inr (.inr (.inl (rfN r 10))) :: st) I J) := (ge (A := (39, 12, 3, 10, 0)) rfl).trans (gref (f := fun q => GO x d 18 Q 12 [v0, v1] (.inr (.inr (.inl q)) :: st) I J))
set_option maxRecDepth 10000 in
theorem g_18_12 : GO x d 18 Q 12 [v0, some (.inl a)] st I J = GO x d 18 Q 13 [v0, some (.inl a)] (.inl a :: st) I J := ge (A := (1, 13, 1, 0, 0)) rfl
set_option maxRecDepth 10000 in
theorem h_18_13 : GO x d 18 Q 13 [v0, v1] (.inl a :: .inr (.inr (.inr q)) :: st) I J = (q < 4 ∧ 0 ≤ a ∧ a < (roA x q).1 ∧ GO x d 18 Q 14 [v0, v1] (.inl ((roA x q).2 a.toNat) :: st) I J) := ge (A := (44, 14, 0, 0, 0)) rfl
set_option maxRecDepth 10000 in
theorem g_18_13 : GO x d 18 Q 13 [v0, v1] (.inl a :: .inr (.inr (.inl r)) :: st) I J = (okA r 20 ∧ 0 ≤ a ∧ a < lnN r ∧ GO x d 18 Q 14 [v0, v1] (.inl (I r a) :: st) I J) := ge (A := (44, 14, 0, 0, 0)) rfl
set_option maxRecDepth 10000 in
theorem g_18_14 : GO x d 18 Q 14 [v0, v1] st I J = GO x d 18 Q 16 [v0, v1] (.inl (-1000000) :: st) I J := ge (A := (0, 16, 0, 0, -1000000)) rfl
set_option maxRecDepth 10000 in
theorem g_18_16 : GO x d 18 Q 16 [v0, v1] (.inl b :: .inl a :: st) I J = (inR a ∧ inR b ∧ if a = b then GO x d 18 Q 23 [v0, v1] st I J else GO x d 18 Q 19 [v0, v1] st I J) := (ge (A := (34, 19, 23, 0, 0)) rfl).trans (gic (p := a = b) inferInstance)
set_option maxRecDepth 10000 in
theorem g_18_19 : GO x d 18 Q 19 [v0, v1] st I J = GO x d 18 Q 20 [v0, v1] (.inl (1) :: st) I J := ge (A := (0, 20, 0, 0, 1)) rfl
set_option maxRecDepth 10000 in
theorem g_18_20 : GO x d 18 Q 20 [v0, v1] st I J = GO x d 18 Q 24 [v0, v1] st I J := ge (A := (35, 23, 24, 0, 0)) rfl
set_option maxRecDepth 10000 in
theorem g_18_23 : GO x d 18 Q 23 [v0, v1] st I J = GO x d 18 Q 24 [v0, v1] (.inl (0) :: st) I J := ge (A := (0, 24, 0, 0, 0)) rfl
set_option maxRecDepth 10000 in
theorem g_18_24 : GO x d 18 Q 24 [v0, v1] [.inl a] I J = (ret01 a ∧ Q (some (.inl a)) I J) := ge (A := (56, 25, 0, 0, 0)) rfl
set_option maxRecDepth 10000 in
theorem e_18 : EX x (d + 1) 18 [.inr (.inr w0), .inl i0] I J Q = GO x d 18 Q 0 [some (.inr (.inr w0)), some (.inl i0)] [] I J := ex_eq (Nat.le_of_ble_eq_true rfl) rfl (Nat.le_of_ble_eq_true rfl) rfl
set_option maxRecDepth 10000 in
theorem g_19_0 : GO x d 19 Q 0 [v0, v1, v2] st I J = GO x d 19 Q 1 [v0, v1, v2] (.inl (0) :: st) I J := ge (A := (0, 1, 0, 0, 0)) rfl
set_option maxRecDepth 10000 in
theorem g_19_1 : GO x d 19 Q 1 [v0, v1, v2] (.inl a :: st) I J = (nlO (some v0) = true ∧ GO x d 19 Q 2 [v0, some (.inl a), v2] st I J) := (ge (A := (4, 2, 1, 0, 0)) rfl).trans (gst (Nat.le_of_ble_eq_true rfl) _)
set_option maxRecDepth 10000 in
theorem g_19_2 : GO x d 19 Q 2 [v0, v1, v2] st I J = GO x d 19 Q 3 [v0, v1, v2] (.inl (0) :: st) I J := ge (A := (0, 3, 0, 0, 0)) rfl
set_option maxRecDepth 10000 in
theorem g_19_3 : GO x d 19 Q 3 [v0, v1, v2] (.inl a :: st) I J = (nlO (some v1) = true ∧ GO x d 19 Q 4 [v0, v1, some (.inl a)] st I J) := (ge (A := (4, 4, 2, 0, 0)) rfl).trans (gst (Nat.le_of_ble_eq_true rfl) _)
set_option maxRecDepth 10000 in
theorem g_19_4 : GO x d 19 Q 4 [v0, v1, some (.inl a)] st I J = GO x d 19 Q 5 [v0, v1, some (.inl a)] (.inl a :: st) I J := ge (A := (1, 5, 2, 0, 0)) rfl
set_option maxRecDepth 10000 in
theorem g_19_5 : GO x d 19 Q 5 [some (.inr (.inr w)), v1, v2] st I J = GO x d 19 Q 6 [some (.inr (.inr w)), v1, v2] (.inr (.inr w) :: st) I J := ge (A := (2, 6, 0, 0, 0)) rfl
set_option maxRecDepth 10000 in
theorem g_19_6 : GO x d 19 Q 6 [v0, v1, v2] (.inr (.inr (.inl r)) :: st) I J = (okO r 3 ∧ GO x d 19 Q 9 [v0, v1, v2] (.inl (I r 8) :: st) I J) := ge (A := (37, 9, 3, 8, 0)) rfl
set_option maxRecDepth 10000 in
theorem g_19_9 : GO x d 19 Q 9 [v0, v1, v2] (.inl b :: .inl a :: st) I J = (inR a ∧ inR b ∧ if a < b then GO x d 19 Q 12 [v0, v1, v2] st I J else GO x d 19 Q 32 [v0, v1, v2] st I J) := (ge (A := (34, 12, 32, 3, 0)) rfl).trans (ggec)
set_option maxRecDepth 10000 in
theorem g_19_12 : GO x d 19 Q 12 [some (.inr (.inr w)), v1, v2] st I J = GO x d 19 Q 13 [some (.inr (.inr w)), v1, v2] (.inr (.inr w) :: st) I J := ge (A := (2, 13, 0, 0, 0)) rfl
set_option maxRecDepth 10000 in
theorem g_19_13 : GO x d 19 Q 13 [v0, v1, some (.inl a)] st I J = GO x d 19 Q 14 [v0, v1, some (.inl a)] (.inl a :: st) I J := ge (A := (1, 14, 2, 0, 0)) rfl
set_option maxRecDepth 10000 in
theorem g_19_14 : GO x d 19 Q 14 [v0, v1, v2] [.inl i0, .inr (.inr (.inl r))] I J = (okO r 3 ∧ EX x d 18 [.inr (.inr (.inl r)), .inl i0] I J (fun r1 I1 J1 => GO x d 19 Q 17 [v0, v1, v2] (r1.toList ++ []) I1 J1)) := (ge (A := (53, 17, 18, 1, 0)) rfl).trans (gtrue (Nat.le_of_ble_eq_true rfl))
set_option maxRecDepth 10000 in
theorem g_19_17 : GO x d 19 Q 17 [v0, v1, v2] (.inl a :: st) I J = (inR a ∧ if a = 0 then GO x d 19 Q 26 [v0, v1, v2] st I J else GO x d 19 Q 20 [v0, v1, v2] st I J) := (ge (A := (33, 20, 26, 0, 0)) rfl).trans (gif (p := a = 0) inferInstance)
set_option maxRecDepth 10000 in
theorem g_19_20 : GO x d 19 Q 20 [v0, some (.inl a), v2] st I J = GO x d 19 Q 21 [v0, some (.inl a), v2] (.inl a :: st) I J := ge (A := (1, 21, 1, 0, 0)) rfl
set_option maxRecDepth 10000 in
theorem g_19_21 : GO x d 19 Q 21 [v0, v1, v2] st I J = GO x d 19 Q 22 [v0, v1, v2] (.inl (1) :: st) I J := ge (A := (0, 22, 0, 0, 1)) rfl
set_option maxRecDepth 10000 in
theorem g_19_22 : GO x d 19 Q 22 [v0, v1, some (.inl a)] st I J = GO x d 19 Q 23 [v0, v1, some (.inl a)] (.inl a :: st) I J := ge (A := (1, 23, 2, 0, 0)) rfl
set_option maxRecDepth 10000 in
theorem g_19_23 : GO x d 19 Q 23 [v0, v1, v2] (.inl b :: .inl a :: st) I J = GO x d 19 Q 24 [v0, v1, v2] (.inl (shlI a b) :: st) I J := ge (A := (14, 24, 0, 0, 0)) rfl
set_option maxRecDepth 10000 in
theorem g_19_24 : GO x d 19 Q 24 [v0, v1, v2] (.inl b :: .inl a :: st) I J = GO x d 19 Q 25 [v0, v1, v2] (.inl (orI a b) :: st) I J := ge (A := (12, 25, 0, 0, 0)) rfl
set_option maxRecDepth 10000 in
theorem g_19_25 : GO x d 19 Q 25 [v0, v1, v2] (.inl a :: st) I J = (nlO (some v0) = true ∧ GO x d 19 Q 26 [v0, some (.inl a), v2] st I J) := (ge (A := (4, 26, 1, 0, 0)) rfl).trans (gst (Nat.le_of_ble_eq_true rfl) _)
set_option maxRecDepth 10000 in
theorem g_19_26 : GO x d 19 Q 26 [v0, v1, some (.inl a)] st I J = (nlO (some v1) = true ∧ GO x d 19 Q 29 [v0, v1, some (.inl (a + (1)))] st I J) := ge (A := (7, 29, 2, 0, 1)) rfl
set_option maxRecDepth 10000 in
theorem g_19_29 : GO x d 19 Q 29 [v0, v1, v2] st I J = GO x d 19 Q 4 [v0, v1, v2] st I J := ge (A := (35, 32, 4, 0, 0)) rfl
set_option maxRecDepth 10000 in
theorem g_19_32 : GO x d 19 Q 32 [v0, some (.inl a), v2] st I J = GO x d 19 Q 33 [v0, some (.inl a), v2] (.inl a :: st) I J := ge (A := (1, 33, 1, 0, 0)) rfl
set_option maxRecDepth 10000 in
theorem g_19_33 : GO x d 19 Q 33 [v0, v1, v2] [.inl a] I J = Q (some (.inl a)) I J := ge (A := (55, 34, 0, 0, 0)) rfl
set_option maxRecDepth 10000 in
theorem e_19 : EX x (d + 1) 19 [.inr (.inr w0)] I J Q = GO x d 19 Q 0 [some (.inr (.inr w0)), none, none] [] I J := ex_eq (Nat.le_of_ble_eq_true rfl) rfl (Nat.le_of_ble_eq_true rfl) rfl
set_option maxRecDepth 10000 in
theorem g_20_0 : GO x d 20 Q 0 [v0, v1, some (.inl a), v3] st I J = GO x d 20 Q 1 [v0, v1, some (.inl a), v3] (.inl a :: st) I J := ge (A := (1, 1, 2, 0, 0)) rfl
set_option maxRecDepth 10000 in
theorem g_20_1 : GO x d 20 Q 1 [v0, v1, v2, v3] st I J = GO x d 20 Q 3 [v0, v1, v2, v3] (.inl (-1000000) :: st) I J := ge (A := (0, 3, 0, 0, -1000000)) rfl
set_option maxRecDepth 10000 in
theorem g_20_3 : GO x d 20 Q 3 [v0, v1, v2, v3] (.inl b :: .inl a :: st) I J = (inR a ∧ inR b ∧ if a = b then GO x d 20 Q 41 [v0, v1, v2, v3] st I J else GO x d 20 Q 6 [v0, v1, v2, v3] st I J) := (ge (A := (34, 6, 41, 0, 0)) rfl).trans (gic (p := a = b) inferInstance)
set_option maxRecDepth 10000 in
theorem g_20_6 : GO x d 20 Q 6 [v0, v1, v2, some (.inl a)] st I J = GO x d 20 Q 7 [v0, v1, v2, some (.inl a)] (.inl a :: st) I J := ge (A := (1, 7, 3, 0, 0)) rfl
set_option maxRecDepth 10000 in
theorem g_20_7 : GO x d 20 Q 7 [v0, v1, some (.inl a), v3] st I J = GO x d 20 Q 8 [v0, v1, some (.inl a), v3] (.inl a :: st) I J := ge (A := (1, 8, 2, 0, 0)) rfl
set_option maxRecDepth 10000 in
theorem g_20_8 : GO x d 20 Q 8 [v0, v1, v2, v3] (.inl b :: .inl a :: st) I J = GO x d 20 Q 9 [v0, v1, v2, v3] (.inl (a - b) :: st) I J := ge (A := (9, 9, 0, 0, 0)) rfl
set_option maxRecDepth 10000 in
theorem g_20_9 : GO x d 20 Q 9 [some (.inr (.inr w)), v1, v2, v3] st I J = GO x d 20 Q 10 [some (.inr (.inr w)), v1, v2, v3] (.inr (.inr w) :: st) I J := ge (A := (2, 10, 0, 0, 0)) rfl
set_option maxRecDepth 10000 in
theorem g_20_10 : GO x d 20 Q 10 [v0, v1, v2, v3] (.inr (.inr (.inl r)) :: st) I J = (okO r 3 ∧ GO x d 20 Q 13 [v0, v1, v2, v3] (.inl (I r 1) :: st) I J) := ge (A := (37, 13, 3, 1, 0)) rfl
set_option maxRecDepth 10000 in
theorem g_20_13 : GO x d 20 Q 13 [v0, v1, v2, v3] (.inl b :: .inl a :: st) I J = (inR a ∧ inR b ∧ if a < b then GO x d 20 Q 16 [v0, v1, v2, v3] st I J else GO x d 20 Q 41 [v0, v1, v2, v3] st I J) := (ge (A := (34, 16, 41, 3, 0)) rfl).trans (ggec)
set_option maxRecDepth 10000 in
theorem g_20_16 : GO x d 20 Q 16 [some (.inr (.inr w)), v1, v2, v3] st I J = GO x d 20 Q 17 [some (.inr (.inr w)), v1, v2, v3] (.inr (.inr w) :: st) I J := ge (A := (2, 17, 0, 0, 0)) rfl
set_option maxRecDepth 10000 in
theorem g_20_17 : GO x d 20 Q 17 [v0, some (.inl a), v2, v3] st I J = GO x d 20 Q 18 [v0, some (.inl a), v2, v3] (.inl a :: st) I J := ge (A := (1, 18, 1, 0, 0)) rfl
set_option maxRecDepth 10000 in
theorem g_20_18 : GO x d 20 Q 18 [v0, v1, v2, v3] [.inl i0, .inr (.inr (.inl r))] I J = (okO r 3 ∧ EX x d 16 [.inr (.inr (.inl r)), .inl i0] I J (fun r1 I1 J1 => GO x d 20 Q 21 [v0, v1, v2, v3] (r1.toList ++ []) I1 J1)) := (ge (A := (53, 21, 16, 1, 0)) rfl).trans (gtrue (Nat.le_of_ble_eq_true rfl))
set_option maxRecDepth 10000 in
theorem g_20_21 : GO x d 20 Q 21 [v0, v1, v2, v3] (.inl a :: st) I J = (inR a ∧ if a = 0 then GO x d 20 Q 41 [v0, v1, v2, v3] st I J else GO x d 20 Q 24 [v0, v1, v2, v3] st I J) := (ge (A := (33, 24, 41, 0, 0)) rfl).trans (gif (p := a = 0) inferInstance)
set_option maxRecDepth 10000 in
theorem g_20_24 : GO x d 20 Q 24 [some (.inr (.inr w)), v1, v2, v3] st I J = GO x d 20 Q 25 [some (.inr (.inr w)), v1, v2, v3] (.inr (.inr w) :: st) I J := ge (A := (2, 25, 0, 0, 0)) rfl
set_option maxRecDepth 10000 in
theorem g_20_25 : GO x d 20 Q 25 [v0, v1, v2, v3] (.inr (.inr (.inl r)) :: st) I J = (okF r 3 4 ∧ GO x d 20 Q 28 [v0, v1, v2, v3] (.inr (.inr (.inl (rfN r 4))) :: st) I J) := (ge (A := (39, 28, 3, 4, 0)) rfl).trans (gref (f := fun q => GO x d 20 Q 28 [v0, v1, v2, v3] (.inr (.inr (.inl q)) :: st) I J))
set_option maxRecDepth 10000 in
theorem g_20_28 : GO x d 20 Q 28 [v0, some (.inl a), v2, v3] st I J = GO x d 20 Q 29 [v0, some (.inl a), v2, v3] (.inl a :: st) I J := ge (A := (1, 29, 1, 0, 0)) rfl
set_option maxRecDepth 10000 in
theorem h_20_29 : GO x d 20 Q 29 [v0, v1, v2, v3] (.inl a :: .inr (.inr (.inr q)) :: st) I J = (q < 4 ∧ 0 ≤ a ∧ a < (roA x q).1 ∧ GO x d 20 Q 30 [v0, v1, v2, v3] (.inl ((roA x q).2 a.toNat) :: st) I J) := ge (A := (44, 30, 0, 0, 0)) rfl
set_option maxRecDepth 10000 in
theorem g_20_29 : GO x d 20 Q 29 [v0, v1, v2, v3] (.inl a :: .inr (.inr (.inl r)) :: st) I J = (okA r 20 ∧ 0 ≤ a ∧ a < lnN r ∧ GO x d 20 Q 30 [v0, v1, v2, v3] (.inl (I r a) :: st) I J) := ge (A := (44, 30, 0, 0, 0)) rfl
set_option maxRecDepth 10000 in
theorem g_20_30 : GO x d 20 Q 30 [v0, v1, v2, v3] st I J = GO x d 20 Q 31 [v0, v1, v2, v3] (.inl (4) :: st) I J := ge (A := (0, 31, 0, 0, 4)) rfl
set_option maxRecDepth 10000 in
theorem g_20_31 : GO x d 20 Q 31 [v0, v1, v2, v3] [.inl i0, .inl i1] I J = EX x d 107 [.inl i1, .inl i0] I J (fun r1 I1 J1 => GO x d 20 Q 34 [v0, v1, v2, v3] (r1.toList ++ []) I1 J1) := (ge (A := (52, 34, 107, 2, 1)) rfl).trans (gtrue2 (Nat.le_of_ble_eq_true rfl) (Nat.le_of_ble_eq_true rfl))
set_option maxRecDepth 10000 in
theorem g_20_34 : GO x d 20 Q 34 [v0, v1, v2, v3] (.inl a :: st) I J = (inR a ∧ if a = 0 then GO x d 20 Q 37 [v0, v1, v2, v3] st I J else GO x d 20 Q 41 [v0, v1, v2, v3] st I J) := (ge (A := (33, 37, 41, 1, 0)) rfl).trans (gifn (p := a = 0) inferInstance)
set_option maxRecDepth 10000 in
theorem g_20_37 : GO x d 20 Q 37 [v0, v1, v2, v3] st I J = GO x d 20 Q 38 [v0, v1, v2, v3] (.inl (1) :: st) I J := ge (A := (0, 38, 0, 0, 1)) rfl
set_option maxRecDepth 10000 in
theorem g_20_38 : GO x d 20 Q 38 [v0, v1, v2, v3] st I J = GO x d 20 Q 42 [v0, v1, v2, v3] st I J := ge (A := (35, 41, 42, 0, 0)) rfl
set_option maxRecDepth 10000 in
theorem g_20_41 : GO x d 20 Q 41 [v0, v1, v2, v3] st I J = GO x d 20 Q 42 [v0, v1, v2, v3] (.inl (0) :: st) I J := ge (A := (0, 42, 0, 0, 0)) rfl
set_option maxRecDepth 10000 in
theorem g_20_42 : GO x d 20 Q 42 [v0, v1, v2, v3] [.inl a] I J = (ret01 a ∧ Q (some (.inl a)) I J) := ge (A := (56, 43, 0, 0, 0)) rfl
set_option maxRecDepth 10000 in
theorem e_20 : EX x (d + 1) 20 [.inr (.inr w0), .inl i0, .inl i1, .inl i2] I J Q = GO x d 20 Q 0 [some (.inr (.inr w0)), some (.inl i0), some (.inl i1), some (.inl i2)] [] I J := ex_eq (Nat.le_of_ble_eq_true rfl) rfl (Nat.le_of_ble_eq_true rfl) rfl
set_option maxRecDepth 10000 in
theorem g_21_0 : GO x d 21 Q 0 [some (.inr (.inr w)), v1, v2] st I J = GO x d 21 Q 1 [some (.inr (.inr w)), v1, v2] (.inr (.inr w) :: st) I J := ge (A := (2, 1, 0, 0, 0)) rfl
set_option maxRecDepth 10000 in
theorem g_21_1 : GO x d 21 Q 1 [v0, some (.inl a), v2] st I J = GO x d 21 Q 2 [v0, some (.inl a), v2] (.inl a :: st) I J := ge (A := (1, 2, 1, 0, 0)) rfl
set_option maxRecDepth 10000 in
theorem g_21_2 : GO x d 21 Q 2 [v0, v1, v2] [.inl i0, .inr (.inr (.inl r))] I J = (okO r 3 ∧ EX x d 16 [.inr (.inr (.inl r)), .inl i0] I J (fun r1 I1 J1 => GO x d 21 Q 5 [v0, v1, v2] (r1.toList ++ []) I1 J1)) := (ge (A := (53, 5, 16, 1, 0)) rfl).trans (gtrue (Nat.le_of_ble_eq_true rfl))
set_option maxRecDepth 10000 in
theorem g_21_5 : GO x d 21 Q 5 [v0, v1, v2] (.inl a :: st) I J = (inR a ∧ if a = 0 then GO x d 21 Q 8 [v0, v1, v2] st I J else GO x d 21 Q 10 [v0, v1, v2] st I J) := (ge (A := (33, 8, 10, 1, 0)) rfl).trans (gifn (p := a = 0) inferInstance)
set_option maxRecDepth 10000 in
theorem g_21_8 : GO x d 21 Q 8 [v0, v1, v2] st I J = GO x d 21 Q 9 [v0, v1, v2] (.inl (0) :: st) I J := ge (A := (0, 9, 0, 0, 0)) rfl
set_option maxRecDepth 10000 in
theorem g_21_9 : GO x d 21 Q 9 [v0, v1, v2] [.inl a] I J = (ret01 a ∧ Q (some (.inl a)) I J) := ge (A := (56, 10, 0, 0, 0)) rfl
set_option maxRecDepth 10000 in
theorem g_21_10 : GO x d 21 Q 10 [v0, v1, some (.inl a)] st I J = GO x d 21 Q 11 [v0, v1, some (.inl a)] (.inl a :: st) I J := ge (A := (1, 11, 2, 0, 0)) rfl
set_option maxRecDepth 10000 in
theorem g_21_11 : GO x d 21 Q 11 [v0, v1, v2] (.inl a :: st) I J = (inR a ∧ if a < 0 then GO x d 21 Q 19 [v0, v1, v2] st I J else GO x d 21 Q 14 [v0, v1, v2] st I J) := (ge (A := (33, 14, 19, 2, 0)) rfl).trans (gif (p := a < 0) inferInstance)
set_option maxRecDepth 10000 in
theorem g_21_14 : GO x d 21 Q 14 [v0, v1, some (.inl a)] st I J = GO x d 21 Q 15 [v0, v1, some (.inl a)] (.inl a :: st) I J := ge (A := (1, 15, 2, 0, 0)) rfl
set_option maxRecDepth 10000 in
theorem g_21_15 : GO x d 21 Q 15 [v0, v1, v2] st I J = GO x d 21 Q 16 [v0, v1, v2] (.inl (4) :: st) I J := ge (A := (0, 16, 0, 0, 4)) rfl
set_option maxRecDepth 10000 in
theorem g_21_16 : GO x d 21 Q 16 [v0, v1, v2] (.inl b :: .inl a :: st) I J = (inR a ∧ inR b ∧ if a < b then GO x d 21 Q 21 [v0, v1, v2] st I J else GO x d 21 Q 19 [v0, v1, v2] st I J) := (ge (A := (34, 19, 21, 2, 0)) rfl).trans (gic (p := a < b) inferInstance)
set_option maxRecDepth 10000 in
theorem g_21_19 : GO x d 21 Q 19 [v0, v1, v2] st I J = GO x d 21 Q 20 [v0, v1, v2] (.inl (1) :: st) I J := ge (A := (0, 20, 0, 0, 1)) rfl
set_option maxRecDepth 10000 in
theorem g_21_20 : GO x d 21 Q 20 [v0, v1, v2] [.inl a] I J = (ret01 a ∧ Q (some (.inl a)) I J) := ge (A := (56, 21, 0, 0, 0)) rfl
set_option maxRecDepth 10000 in
theorem g_21_21 : GO x d 21 Q 21 [some (.inr (.inr w)), v1, v2] st I J = GO x d 21 Q 22 [some (.inr (.inr w)), v1, v2] (.inr (.inr w) :: st) I J := ge (A := (2, 22, 0, 0, 0)) rfl
set_option maxRecDepth 10000 in
theorem g_21_22 : GO x d 21 Q 22 [v0, v1, v2] (.inr (.inr (.inl r)) :: st) I J = (okF r 3 4 ∧ GO x d 21 Q 25 [v0, v1, v2] (.inr (.inr (.inl (rfN r 4))) :: st) I J) := (ge (A := (39, 25, 3, 4, 0)) rfl).trans (gref (f := fun q => GO x d 21 Q 25 [v0, v1, v2] (.inr (.inr (.inl q)) :: st) I J))
set_option maxRecDepth 10000 in
theorem g_21_25 : GO x d 21 Q 25 [v0, some (.inl a), v2] st I J = GO x d 21 Q 26 [v0, some (.inl a), v2] (.inl a :: st) I J := ge (A := (1, 26, 1, 0, 0)) rfl
set_option maxRecDepth 10000 in
theorem h_21_26 : GO x d 21 Q 26 [v0, v1, v2] (.inl a :: .inr (.inr (.inr q)) :: st) I J = (q < 4 ∧ 0 ≤ a ∧ a < (roA x q).1 ∧ GO x d 21 Q 27 [v0, v1, v2] (.inl ((roA x q).2 a.toNat) :: st) I J) := ge (A := (44, 27, 0, 0, 0)) rfl
set_option maxRecDepth 10000 in
theorem g_21_26 : GO x d 21 Q 26 [v0, v1, v2] (.inl a :: .inr (.inr (.inl r)) :: st) I J = (okA r 20 ∧ 0 ≤ a ∧ a < lnN r ∧ GO x d 21 Q 27 [v0, v1, v2] (.inl (I r a) :: st) I J) := ge (A := (44, 27, 0, 0, 0)) rfl
set_option maxRecDepth 10000 in
theorem g_21_27 : GO x d 21 Q 27 [v0, v1, v2] st I J = GO x d 21 Q 28 [v0, v1, v2] (.inl (3) :: st) I J := ge (A := (0, 28, 0, 0, 3)) rfl
set_option maxRecDepth 10000 in
theorem g_21_28 : GO x d 21 Q 28 [v0, v1, v2] (.inl b :: .inl a :: st) I J = (inR a ∧ inR b ∧ if a = b then GO x d 21 Q 31 [v0, v1, v2] st I J else GO x d 21 Q 43 [v0, v1, v2] st I J) := (ge (A := (34, 31, 43, 1, 0)) rfl).trans (gicn (p := a = b) inferInstance)
set_option maxRecDepth 10000 in
theorem g_21_31 : GO x d 21 Q 31 [some (.inr (.inr w)), v1, v2] st I J = GO x d 21 Q 32 [some (.inr (.inr w)), v1, v2] (.inr (.inr w) :: st) I J := ge (A := (2, 32, 0, 0, 0)) rfl
set_option maxRecDepth 10000 in
theorem g_21_32 : GO x d 21 Q 32 [v0, v1, v2] (.inr (.inr (.inl r)) :: st) I J = (okF r 3 5 ∧ GO x d 21 Q 35 [v0, v1, v2] (.inr (.inr (.inl (rfN r 5))) :: st) I J) := (ge (A := (39, 35, 3, 5, 0)) rfl).trans (gref (f := fun q => GO x d 21 Q 35 [v0, v1, v2] (.inr (.inr (.inl q)) :: st) I J))
set_option maxRecDepth 10000 in
theorem g_21_35 : GO x d 21 Q 35 [v0, some (.inl a), v2] st I J = GO x d 21 Q 36 [v0, some (.inl a), v2] (.inl a :: st) I J := ge (A := (1, 36, 1, 0, 0)) rfl
set_option maxRecDepth 10000 in
theorem h_21_36 : GO x d 21 Q 36 [v0, v1, v2] (.inl a :: .inr (.inr (.inr q)) :: st) I J = (q < 4 ∧ 0 ≤ a ∧ a < (roA x q).1 ∧ GO x d 21 Q 37 [v0, v1, v2] (.inl ((roA x q).2 a.toNat) :: st) I J) := ge (A := (44, 37, 0, 0, 0)) rfl
set_option maxRecDepth 10000 in
theorem g_21_36 : GO x d 21 Q 36 [v0, v1, v2] (.inl a :: .inr (.inr (.inl r)) :: st) I J = (okA r 20 ∧ 0 ≤ a ∧ a < lnN r ∧ GO x d 21 Q 37 [v0, v1, v2] (.inl (I r a) :: st) I J) := ge (A := (44, 37, 0, 0, 0)) rfl
set_option maxRecDepth 10000 in
theorem g_21_37 : GO x d 21 Q 37 [v0, v1, some (.inl a)] st I J = GO x d 21 Q 38 [v0, v1, some (.inl a)] (.inl a :: st) I J := ge (A := (1, 38, 2, 0, 0)) rfl
set_option maxRecDepth 10000 in
theorem g_21_38 : GO x d 21 Q 38 [v0, v1, v2] (.inl b :: .inl a :: st) I J = (inR a ∧ inR b ∧ if a = b then GO x d 21 Q 41 [v0, v1, v2] st I J else GO x d 21 Q 43 [v0, v1, v2] st I J) := (ge (A := (34, 41, 43, 1, 0)) rfl).trans (gicn (p := a = b) inferInstance)
set_option maxRecDepth 10000 in
theorem g_21_41 : GO x d 21 Q 41 [v0, v1, v2] st I J = GO x d 21 Q 42 [v0, v1, v2] (.inl (0) :: st) I J := ge (A := (0, 42, 0, 0, 0)) rfl
set_option maxRecDepth 10000 in
theorem g_21_42 : GO x d 21 Q 42 [v0, v1, v2] [.inl a] I J = (ret01 a ∧ Q (some (.inl a)) I J) := ge (A := (56, 43, 0, 0, 0)) rfl
set_option maxRecDepth 10000 in
theorem g_21_43 : GO x d 21 Q 43 [some (.inr (.inr w)), v1, v2] st I J = GO x d 21 Q 44 [some (.inr (.inr w)), v1, v2] (.inr (.inr w) :: st) I J := ge (A := (2, 44, 0, 0, 0)) rfl
set_option maxRecDepth 10000 in
theorem g_21_44 : GO x d 21 Q 44 [v0, v1, v2] (.inr (.inr (.inl r)) :: st) I J = (okF r 3 2 ∧ GO x d 21 Q 47 [v0, v1, v2] (.inr (.inr (.inl (rfN r 2))) :: st) I J) := (ge (A := (39, 47, 3, 2, 0)) rfl).trans (gref (f := fun q => GO x d 21 Q 47 [v0, v1, v2] (.inr (.inr (.inl q)) :: st) I J))
set_option maxRecDepth 10000 in
theorem g_21_47 : GO x d 21 Q 47 [v0, v1, some (.inl a)] st I J = GO x d 21 Q 48 [v0, v1, some (.inl a)] (.inl a :: st) I J := ge (A := (1, 48, 2, 0, 0)) rfl
set_option maxRecDepth 10000 in
theorem h_21_48 : GO x d 21 Q 48 [v0, v1, v2] (.inl a :: .inr (.inr (.inr q)) :: st) I J = (q < 4 ∧ 0 ≤ a ∧ a < (roA x q).1 ∧ GO x d 21 Q 49 [v0, v1, v2] (.inl ((roA x q).2 a.toNat) :: st) I J) := ge (A := (44, 49, 0, 0, 0)) rfl
set_option maxRecDepth 10000 in
theorem g_21_48 : GO x d 21 Q 48 [v0, v1, v2] (.inl a :: .inr (.inr (.inl r)) :: st) I J = (okA r 20 ∧ 0 ≤ a ∧ a < lnN r ∧ GO x d 21 Q 49 [v0, v1, v2] (.inl (I r a) :: st) I J) := ge (A := (44, 49, 0, 0, 0)) rfl
set_option maxRecDepth 10000 in
theorem g_21_49 : GO x d 21 Q 49 [some (.inr (.inr w)), v1, v2] st I J = GO x d 21 Q 50 [some (.inr (.inr w)), v1, v2] (.inr (.inr w) :: st) I J := ge (A := (2, 50, 0, 0, 0)) rfl
set_option maxRecDepth 10000 in
theorem g_21_50 : GO x d 21 Q 50 [v0, v1, v2] (.inr (.inr (.inl r)) :: st) I J = (okF r 3 5 ∧ GO x d 21 Q 53 [v0, v1, v2] (.inr (.inr (.inl (rfN r 5))) :: st) I J) := (ge (A := (39, 53, 3, 5, 0)) rfl).trans (gref (f := fun q => GO x d 21 Q 53 [v0, v1, v2] (.inr (.inr (.inl q)) :: st) I J))
set_option maxRecDepth 10000 in
theorem g_21_53 : GO x d 21 Q 53 [v0, some (.inl a), v2] st I J = GO x d 21 Q 54 [v0, some (.inl a), v2] (.inl a :: st) I J := ge (A := (1, 54, 1, 0, 0)) rfl
set_option maxRecDepth 10000 in
theorem h_21_54 : GO x d 21 Q 54 [v0, v1, v2] (.inl a :: .inr (.inr (.inr q)) :: st) I J = (q < 4 ∧ 0 ≤ a ∧ a < (roA x q).1 ∧ GO x d 21 Q 55 [v0, v1, v2] (.inl ((roA x q).2 a.toNat) :: st) I J) := ge (A := (44, 55, 0, 0, 0)) rfl
set_option maxRecDepth 10000 in
theorem g_21_54 : GO x d 21 Q 54 [v0, v1, v2] (.inl a :: .inr (.inr (.inl r)) :: st) I J = (okA r 20 ∧ 0 ≤ a ∧ a < lnN r ∧ GO x d 21 Q 55 [v0, v1, v2] (.inl (I r a) :: st) I J) := ge (A := (44, 55, 0, 0, 0)) rfl
set_option maxRecDepth 10000 in
theorem g_21_55 : GO x d 21 Q 55 [v0, v1, v2] [.inl i0, .inl i1] I J = EX x d 105 [.inl i1, .inl i0] I J (fun r1 I1 J1 => GO x d 21 Q 58 [v0, v1, v2] (r1.toList ++ []) I1 J1) := (ge (A := (52, 58, 105, 2, 1)) rfl).trans (gtrue2 (Nat.le_of_ble_eq_true rfl) (Nat.le_of_ble_eq_true rfl))
set_option maxRecDepth 10000 in
theorem g_21_58 : GO x d 21 Q 58 [v0, v1, v2] [.inl a] I J = (ret01 a ∧ Q (some (.inl a)) I J) := ge (A := (56, 59, 0, 0, 0)) rfl
set_option maxRecDepth 10000 in
theorem e_21 : EX x (d + 1) 21 [.inr (.inr w0), .inl i0, .inl i1] I J Q = GO x d 21 Q 0 [some (.inr (.inr w0)), some (.inl i0), some (.inl i1)] [] I J := ex_eq (Nat.le_of_ble_eq_true rfl) rfl (Nat.le_of_ble_eq_true rfl) rfl
set_option maxRecDepth 10000 in
theorem g_22_0 : GO x d 22 Q 0 [v0, v1, v2, v3, v4, v5] st I J = GO x d 22 Q 1 [v0, v1, v2, v3, v4, v5] (.inl (0) :: st) I J := ge (A := (0, 1, 0, 0, 0)) rfl
set_option maxRecDepth 10000 in
theorem g_22_1 : GO x d 22 Q 1 [v0, v1, v2, v3, v4, v5] (.inl a :: st) I J = (nlO (some v3) = true ∧ GO x d 22 Q 3 [v0, v1, v2, v3, some (.inl a), v5] st I J) := (ge (A := (4, 3, 4, 0, 0)) rfl).trans (gst (Nat.le_of_ble_eq_true rfl) _)
set_option maxRecDepth 10000 in
theorem g_22_3 : GO x d 22 Q 3 [v0, v1, v2, v3, v4, v5] st I J = GO x d 22 Q 4 [v0, v1, v2, v3, v4, v5] (.inl (0) :: st) I J := ge (A := (0, 4, 0, 0, 0)) rfl
set_option maxRecDepth 10000 in
theorem g_22_4 : GO x d 22 Q 4 [v0, v1, v2, v3, v4, v5] (.inl a :: st) I J = (nlO (some v4) = true ∧ GO x d 22 Q 6 [v0, v1, v2, v3, v4, some (.inl a)] st I J) := (ge (A := (4, 6, 5, 0, 0)) rfl).trans (gst (Nat.le_of_ble_eq_true rfl) _)
set_option maxRecDepth 10000 in
theorem g_22_6 : GO x d 22 Q 6 [v0, v1, v2, v3, v4, some (.inl a)] st I J = GO x d 22 Q 8 [v0, v1, v2, v3, v4, some (.inl a)] (.inl a :: st) I J := ge (A := (1, 8, 5, 0, 0)) rfl
set_option maxRecDepth 10000 in
theorem g_22_8 : GO x d 22 Q 8 [some (.inr (.inr w)), v1, v2, v3, v4, v5] st I J = GO x d 22 Q 9 [some (.inr (.inr w)), v1, v2, v3, v4, v5] (.inr (.inr w) :: st) I J := ge (A := (2, 9, 0, 0, 0)) rfl
set_option maxRecDepth 10000 in
theorem g_22_9 : GO x d 22 Q 9 [v0, v1, v2, v3, v4, v5] (.inr (.inr (.inl r)) :: st) I J = (okO r 3 ∧ GO x d 22 Q 12 [v0, v1, v2, v3, v4, v5] (.inl (I r 3) :: st) I J) := ge (A := (37, 12, 3, 3, 0)) rfl
set_option maxRecDepth 10000 in
theorem g_22_12 : GO x d 22 Q 12 [v0, v1, v2, v3, v4, v5] (.inl b :: .inl a :: st) I J = (inR a ∧ inR b ∧ if a < b then GO x d 22 Q 15 [v0, v1, v2, v3, v4, v5] st I J else GO x d 22 Q 61 [v0, v1, v2, v3, v4, v5] st I J) := (ge (A := (34, 15, 61, 3, 0)) rfl).trans (ggec)
set_option maxRecDepth 10000 in
theorem g_22_15 : GO x d 22 Q 15 [v0, v1, v2, v3, v4, some (.inl a)] st I J = GO x d 22 Q 17 [v0, v1, v2, v3, v4, some (.inl a)] (.inl a :: st) I J := ge (A := (1, 17, 5, 0, 0)) rfl
set_option maxRecDepth 10000 in
theorem g_22_17 : GO x d 22 Q 17 [v0, some (.inr (.inr w)), v2, v3, v4, v5] st I J = GO x d 22 Q 18 [v0, some (.inr (.inr w)), v2, v3, v4, v5] (.inr (.inr w) :: st) I J := ge (A := (2, 18, 1, 0, 0)) rfl
set_option maxRecDepth 10000 in
theorem h_22_18 : GO x d 22 Q 18 [v0, v1, v2, v3, v4, v5] (.inr (.inr (.inr q)) :: st) I J = (q < 4 ∧ GO x d 22 Q 19 [v0, v1, v2, v3, v4, v5] (.inl (roA x q).1 :: st) I J) := ge (A := (51, 19, 0, 0, 0)) rfl
set_option maxRecDepth 10000 in
theorem g_22_18 : GO x d 22 Q 18 [v0, v1, v2, v3, v4, v5] (.inr (.inr (.inl r)) :: st) I J = (okL r ∧ GO x d 22 Q 19 [v0, v1, v2, v3, v4, v5] (.inl (lnN r) :: st) I J) := (ge (A := (51, 19, 0, 0, 0)) rfl).trans glen
set_option maxRecDepth 10000 in
theorem g_22_19 : GO x d 22 Q 19 [v0, v1, v2, v3, v4, v5] (.inl b :: .inl a :: st) I J = (inR a ∧ inR b ∧ if a < b then GO x d 22 Q 22 [v0, v1, v2, v3, v4, v5] st I J else GO x d 22 Q 61 [v0, v1, v2, v3, v4, v5] st I J) := (ge (A := (34, 22, 61, 3, 0)) rfl).trans (ggec)
set_option maxRecDepth 10000 in
theorem g_22_22 : GO x d 22 Q 22 [some (.inr (.inr w)), v1, v2, v3, v4, v5] st I J = GO x d 22 Q 23 [some (.inr (.inr w)), v1, v2, v3, v4, v5] (.inr (.inr w) :: st) I J := ge (A := (2, 23, 0, 0, 0)) rfl
set_option maxRecDepth 10000 in
theorem g_22_23 : GO x d 22 Q 23 [v0, v1, v2, v3, v4, some (.inl a)] st I J = GO x d 22 Q 25 [v0, v1, v2, v3, v4, some (.inl a)] (.inl a :: st) I J := ge (A := (1, 25, 5, 0, 0)) rfl
set_option maxRecDepth 10000 in
theorem g_22_25 : GO x d 22 Q 25 [v0, v1, v2, some (.inl a), v4, v5] st I J = GO x d 22 Q 26 [v0, v1, v2, some (.inl a), v4, v5] (.inl a :: st) I J := ge (A := (1, 26, 3, 0, 0)) rfl
set_option maxRecDepth 10000 in
theorem g_22_26 : GO x d 22 Q 26 [v0, v1, v2, v3, v4, v5] [.inl i0, .inl i1, .inr (.inr (.inl r))] I J = (okO r 3 ∧ EX x d 21 [.inr (.inr (.inl r)), .inl i1, .inl i0] I J (fun r1 I1 J1 => GO x d 22 Q 29 [v0, v1, v2, v3, v4, v5] (r1.toList ++ []) I1 J1)) := (ge (A := (53, 29, 21, 2, 0)) rfl).trans (gtrue (Nat.le_of_ble_eq_true rfl))
set_option maxRecDepth 10000 in
theorem g_22_29 : GO x d 22 Q 29 [v0, v1, v2, v3, v4, v5] (.inl a :: st) I J = (inR a ∧ if a = 0 then GO x d 22 Q 55 [v0, v1, v2, v3, v4, v5] st I J else GO x d 22 Q 32 [v0, v1, v2, v3, v4, v5] st I J) := (ge (A := (33, 32, 55, 0, 0)) rfl).trans (gif (p := a = 0) inferInstance)
set_option maxRecDepth 10000 in
theorem g_22_32 : GO x d 22 Q 32 [some (.inr (.inr w)), v1, v2, v3, v4, v5] st I J = GO x d 22 Q 33 [some (.inr (.inr w)), v1, v2, v3, v4, v5] (.inr (.inr w) :: st) I J := ge (A := (2, 33, 0, 0, 0)) rfl
set_option maxRecDepth 10000 in
theorem g_22_33 : GO x d 22 Q 33 [v0, v1, v2, v3, v4, some (.inl a)] st I J = GO x d 22 Q 35 [v0, v1, v2, v3, v4, some (.inl a)] (.inl a :: st) I J := ge (A := (1, 35, 5, 0, 0)) rfl
set_option maxRecDepth 10000 in
theorem g_22_35 : GO x d 22 Q 35 [v0, some (.inr (.inr w)), v2, v3, v4, v5] st I J = GO x d 22 Q 36 [v0, some (.inr (.inr w)), v2, v3, v4, v5] (.inr (.inr w) :: st) I J := ge (A := (2, 36, 1, 0, 0)) rfl
set_option maxRecDepth 10000 in
theorem g_22_36 : GO x d 22 Q 36 [v0, v1, v2, v3, v4, some (.inl a)] st I J = GO x d 22 Q 38 [v0, v1, v2, v3, v4, some (.inl a)] (.inl a :: st) I J := ge (A := (1, 38, 5, 0, 0)) rfl
set_option maxRecDepth 10000 in
theorem h_22_38 : GO x d 22 Q 38 [v0, v1, v2, v3, v4, v5] (.inl a :: .inr (.inr (.inr q)) :: st) I J = (q < 4 ∧ 0 ≤ a ∧ a < (roA x q).1 ∧ GO x d 22 Q 39 [v0, v1, v2, v3, v4, v5] (.inl ((roA x q).2 a.toNat) :: st) I J) := ge (A := (44, 39, 0, 0, 0)) rfl
set_option maxRecDepth 10000 in
theorem g_22_38 : GO x d 22 Q 38 [v0, v1, v2, v3, v4, v5] (.inl a :: .inr (.inr (.inl r)) :: st) I J = (okA r 20 ∧ 0 ≤ a ∧ a < lnN r ∧ GO x d 22 Q 39 [v0, v1, v2, v3, v4, v5] (.inl (I r a) :: st) I J) := ge (A := (44, 39, 0, 0, 0)) rfl
set_option maxRecDepth 10000 in
theorem g_22_39 : GO x d 22 Q 39 [v0, v1, some (.inl a), v3, v4, v5] st I J = GO x d 22 Q 40 [v0, v1, some (.inl a), v3, v4, v5] (.inl a :: st) I J := ge (A := (1, 40, 2, 0, 0)) rfl
set_option maxRecDepth 10000 in
theorem g_22_40 : GO x d 22 Q 40 [v0, v1, v2, v3, v4, v5] [.inl i0, .inl i1, .inl i2, .inr (.inr (.inl r))] I J = (okO r 3 ∧ EX x d 20 [.inr (.inr (.inl r)), .inl i2, .inl i1, .inl i0] I J (fun r1 I1 J1 => GO x d 22 Q 43 [v0, v1, v2, v3, v4, v5] (r1.toList ++ []) I1 J1)) := (ge (A := (53, 43, 20, 3, 0)) rfl).trans (gtrue (Nat.le_of_ble_eq_true rfl))
set_option maxRecDepth 10000 in
theorem g_22_43 : GO x d 22 Q 43 [v0, v1, v2, v3, v4, v5] (.inl a :: st) I J = (inR a ∧ if a = 0 then GO x d 22 Q 46 [v0, v1, v2, v3, v4, v5] st I J else GO x d 22 Q 55 [v0, v1, v2, v3, v4, v5] st I J) := (ge (A := (33, 46, 55, 1, 0)) rfl).trans (gifn (p := a = 0) inferInstance)
set_option maxRecDepth 10000 in
theorem g_22_46 : GO x d 22 Q 46 [v0, v1, v2, v3, some (.inl a), v5] st I J = GO x d 22 Q 48 [v0, v1, v2, v3, some (.inl a), v5] (.inl a :: st) I J := ge (A := (1, 48, 4, 0, 0)) rfl
set_option maxRecDepth 10000 in
theorem g_22_48 : GO x d 22 Q 48 [v0, v1, v2, v3, v4, v5] st I J = GO x d 22 Q 49 [v0, v1, v2, v3, v4, v5] (.inl (1) :: st) I J := ge (A := (0, 49, 0, 0, 1)) rfl
set_option maxRecDepth 10000 in
theorem g_22_49 : GO x d 22 Q 49 [v0, v1, v2, v3, v4, some (.inl a)] st I J = GO x d 22 Q 51 [v0, v1, v2, v3, v4, some (.inl a)] (.inl a :: st) I J := ge (A := (1, 51, 5, 0, 0)) rfl
set_option maxRecDepth 10000 in
theorem g_22_51 : GO x d 22 Q 51 [v0, v1, v2, v3, v4, v5] (.inl b :: .inl a :: st) I J = GO x d 22 Q 52 [v0, v1, v2, v3, v4, v5] (.inl (shlI a b) :: st) I J := ge (A := (14, 52, 0, 0, 0)) rfl
set_option maxRecDepth 10000 in
theorem g_22_52 : GO x d 22 Q 52 [v0, v1, v2, v3, v4, v5] (.inl b :: .inl a :: st) I J = GO x d 22 Q 53 [v0, v1, v2, v3, v4, v5] (.inl (orI a b) :: st) I J := ge (A := (12, 53, 0, 0, 0)) rfl
set_option maxRecDepth 10000 in
theorem g_22_53 : GO x d 22 Q 53 [v0, v1, v2, v3, v4, v5] (.inl a :: st) I J = (nlO (some v3) = true ∧ GO x d 22 Q 55 [v0, v1, v2, v3, some (.inl a), v5] st I J) := (ge (A := (4, 55, 4, 0, 0)) rfl).trans (gst (Nat.le_of_ble_eq_true rfl) _)
set_option maxRecDepth 10000 in
theorem g_22_55 : GO x d 22 Q 55 [v0, v1, v2, v3, v4, some (.inl a)] st I J = (nlO (some v4) = true ∧ GO x d 22 Q 58 [v0, v1, v2, v3, v4, some (.inl (a + (1)))] st I J) := ge (A := (7, 58, 5, 0, 1)) rfl
set_option maxRecDepth 10000 in
theorem g_22_58 : GO x d 22 Q 58 [v0, v1, v2, v3, v4, v5] st I J = GO x d 22 Q 6 [v0, v1, v2, v3, v4, v5] st I J := ge (A := (35, 61, 6, 0, 0)) rfl
set_option maxRecDepth 10000 in
theorem g_22_61 : GO x d 22 Q 61 [v0, v1, v2, v3, some (.inl a), v5] st I J = GO x d 22 Q 63 [v0, v1, v2, v3, some (.inl a), v5] (.inl a :: st) I J := ge (A := (1, 63, 4, 0, 0)) rfl
set_option maxRecDepth 10000 in
theorem g_22_63 : GO x d 22 Q 63 [v0, v1, v2, v3, v4, v5] [.inl a] I J = Q (some (.inl a)) I J := ge (A := (55, 64, 0, 0, 0)) rfl
set_option maxRecDepth 10000 in
theorem e_22 : EX x (d + 1) 22 [.inr (.inr w0), .inr (.inr w1), .inl i0, .inl i1] I J Q = GO x d 22 Q 0 [some (.inr (.inr w0)), some (.inr (.inr w1)), some (.inl i0), some (.inl i1), none, none] [] I J := ex_eq (Nat.le_of_ble_eq_true rfl) rfl (Nat.le_of_ble_eq_true rfl) rfl
set_option maxRecDepth 10000 in
theorem g_23_0 : GO x d 23 Q 0 [some (.inr (.inr w))] st I J = GO x d 23 Q 1 [some (.inr (.inr w))] (.inr (.inr w) :: st) I J := ge (A := (2, 1, 0, 0, 0)) rfl
set_option maxRecDepth 10000 in
theorem g_23_1 : GO x d 23 Q 1 [some (.inr (.inr w))] st I J = GO x d 23 Q 2 [some (.inr (.inr w))] (.inr (.inr w) :: st) I J := ge (A := (2, 2, 0, 0, 0)) rfl
set_option maxRecDepth 10000 in
theorem g_23_2 : GO x d 23 Q 2 [v0] (.inr (.inr (.inl r)) :: st) I J = (okF r 3 6 ∧ GO x d 23 Q 5 [v0] (.inr (.inr (.inl (rfN r 6))) :: st) I J) := (ge (A := (39, 5, 3, 6, 0)) rfl).trans (gref (f := fun q => GO x d 23 Q 5 [v0] (.inr (.inr (.inl q)) :: st) I J))
set_option maxRecDepth 10000 in
theorem g_23_5 : GO x d 23 Q 5 [some (.inr (.inr w))] st I J = GO x d 23 Q 6 [some (.inr (.inr w))] (.inr (.inr w) :: st) I J := ge (A := (2, 6, 0, 0, 0)) rfl
set_option maxRecDepth 10000 in
theorem g_23_6 : GO x d 23 Q 6 [v0] (.inr (.inr (.inl r)) :: st) I J = (okO r 3 ∧ GO x d 23 Q 9 [v0] (.inl (I r 11) :: st) I J) := ge (A := (37, 9, 3, 11, 0)) rfl
set_option maxRecDepth 10000 in
theorem g_23_9 : GO x d 23 Q 9 [some (.inr (.inr w))] st I J = GO x d 23 Q 10 [some (.inr (.inr w))] (.inr (.inr w) :: st) I J := ge (A := (2, 10, 0, 0, 0)) rfl
set_option maxRecDepth 10000 in
theorem g_23_10 : GO x d 23 Q 10 [v0] (.inr (.inr (.inl r)) :: st) I J = (okO r 3 ∧ GO x d 23 Q 13 [v0] (.inl (I r 12) :: st) I J) := ge (A := (37, 13, 3, 12, 0)) rfl
set_option maxRecDepth 10000 in
theorem g_23_13 : GO x d 23 Q 13 [v0] [.inl i0, .inl i1, .inr (.inr w0), .inr (.inr (.inl r))] I J = (okO r 3 ∧ EX x d 22 [.inr (.inr (.inl r)), .inr (.inr w0), .inl i1, .inl i0] I J (fun r1 I1 J1 => GO x d 23 Q 16 [v0] (r1.toList ++ []) I1 J1)) := (ge (A := (53, 16, 22, 3, 0)) rfl).trans (gtrue (Nat.le_of_ble_eq_true rfl))
set_option maxRecDepth 10000 in
theorem g_23_16 : GO x d 23 Q 16 [v0] [.inl a] I J = Q (some (.inl a)) I J := ge (A := (55, 17, 0, 0, 0)) rfl
set_option maxRecDepth 10000 in
theorem e_23 : EX x (d + 1) 23 [.inr (.inr w0)] I J Q = GO x d 23 Q 0 [some (.inr (.inr w0))] [] I J := ex_eq (Nat.le_of_ble_eq_true rfl) rfl (Nat.le_of_ble_eq_true rfl) rfl
set_option maxRecDepth 10000 in
theorem g_24_0 : GO x d 24 Q 0 [some (.inr (.inr w)), v1] st I J = GO x d 24 Q 1 [some (.inr (.inr w)), v1] (.inr (.inr w) :: st) I J := ge (A := (2, 1, 0, 0, 0)) rfl
set_option maxRecDepth 10000 in
theorem g_24_1 : GO x d 24 Q 1 [v0, some (.inl a)] st I J = GO x d 24 Q 2 [v0, some (.inl a)] (.inl a :: st) I J := ge (A := (1, 2, 1, 0, 0)) rfl
set_option maxRecDepth 10000 in
theorem g_24_2 : GO x d 24 Q 2 [v0, v1] [.inl i0, .inr (.inr (.inl r))] I J = (okO r 3 ∧ EX x d 17 [.inr (.inr (.inl r)), .inl i0] I J (fun r1 I1 J1 => GO x d 24 Q 5 [v0, v1] (r1.toList ++ []) I1 J1)) := (ge (A := (53, 5, 17, 1, 0)) rfl).trans (gtrue (Nat.le_of_ble_eq_true rfl))
set_option maxRecDepth 10000 in
theorem g_24_5 : GO x d 24 Q 5 [v0, v1] (.inl a :: st) I J = (inR a ∧ if a = 0 then GO x d 24 Q 22 [v0, v1] st I J else GO x d 24 Q 8 [v0, v1] st I J) := (ge (A := (33, 8, 22, 0, 0)) rfl).trans (gif (p := a = 0) inferInstance)
set_option maxRecDepth 10000 in
theorem g_24_8 : GO x d 24 Q 8 [some (.inr (.inr w)), v1] st I J = GO x d 24 Q 9 [some (.inr (.inr w)), v1] (.inr (.inr w) :: st) I J := ge (A := (2, 9, 0, 0, 0)) rfl
set_option maxRecDepth 10000 in
theorem g_24_9 : GO x d 24 Q 9 [v0, v1] [.inr (.inr (.inl r))] I J = (okO r 3 ∧ EX x d 23 [.inr (.inr (.inl r))] I J (fun r1 I1 J1 => GO x d 24 Q 12 [v0, v1] (r1.toList ++ []) I1 J1)) := (ge (A := (53, 12, 23, 0, 0)) rfl).trans (gtrue (Nat.le_of_ble_eq_true rfl))
set_option maxRecDepth 10000 in
theorem g_24_12 : GO x d 24 Q 12 [some (.inr (.inr w)), v1] st I J = GO x d 24 Q 13 [some (.inr (.inr w)), v1] (.inr (.inr w) :: st) I J := ge (A := (2, 13, 0, 0, 0)) rfl
set_option maxRecDepth 10000 in
theorem g_24_13 : GO x d 24 Q 13 [v0, v1] (.inr (.inr (.inl r)) :: st) I J = (okF r 3 9 ∧ GO x d 24 Q 16 [v0, v1] (.inr (.inr (.inl (rfN r 9))) :: st) I J) := (ge (A := (39, 16, 3, 9, 0)) rfl).trans (gref (f := fun q => GO x d 24 Q 16 [v0, v1] (.inr (.inr (.inl q)) :: st) I J))
set_option maxRecDepth 10000 in
theorem g_24_16 : GO x d 24 Q 16 [v0, some (.inl a)] st I J = GO x d 24 Q 17 [v0, some (.inl a)] (.inl a :: st) I J := ge (A := (1, 17, 1, 0, 0)) rfl
set_option maxRecDepth 10000 in
theorem h_24_17 : GO x d 24 Q 17 [v0, v1] (.inl a :: .inr (.inr (.inr q)) :: st) I J = (q < 4 ∧ 0 ≤ a ∧ a < (roA x q).1 ∧ GO x d 24 Q 18 [v0, v1] (.inl ((roA x q).2 a.toNat) :: st) I J) := ge (A := (44, 18, 0, 0, 0)) rfl
set_option maxRecDepth 10000 in
theorem g_24_17 : GO x d 24 Q 17 [v0, v1] (.inl a :: .inr (.inr (.inl r)) :: st) I J = (okA r 20 ∧ 0 ≤ a ∧ a < lnN r ∧ GO x d 24 Q 18 [v0, v1] (.inl (I r a) :: st) I J) := ge (A := (44, 18, 0, 0, 0)) rfl
set_option maxRecDepth 10000 in
theorem g_24_18 : GO x d 24 Q 18 [v0, v1] (.inl b :: .inl a :: st) I J = GO x d 24 Q 19 [v0, v1] (.inl (andI a b) :: st) I J := ge (A := (11, 19, 0, 0, 0)) rfl
set_option maxRecDepth 10000 in
theorem g_24_19 : GO x d 24 Q 19 [v0, v1] st I J = GO x d 24 Q 23 [v0, v1] st I J := ge (A := (35, 22, 23, 0, 0)) rfl
set_option maxRecDepth 10000 in
theorem g_24_22 : GO x d 24 Q 22 [v0, v1] st I J = GO x d 24 Q 23 [v0, v1] (.inl (0) :: st) I J := ge (A := (0, 23, 0, 0, 0)) rfl
set_option maxRecDepth 10000 in
theorem g_24_23 : GO x d 24 Q 23 [v0, v1] [.inl a] I J = Q (some (.inl a)) I J := ge (A := (55, 24, 0, 0, 0)) rfl
set_option maxRecDepth 10000 in
theorem e_24 : EX x (d + 1) 24 [.inr (.inr w0), .inl i0] I J Q = GO x d 24 Q 0 [some (.inr (.inr w0)), some (.inl i0)] [] I J := ex_eq (Nat.le_of_ble_eq_true rfl) rfl (Nat.le_of_ble_eq_true rfl) rfl
set_option maxRecDepth 10000 in
theorem g_25_0 : GO x d 25 Q 0 [some (.inr (.inr w)), v1] st I J = GO x d 25 Q 1 [some (.inr (.inr w)), v1] (.inr (.inr w) :: st) I J := ge (A := (2, 1, 0, 0, 0)) rfl
set_option maxRecDepth 10000 in
theorem g_25_1 : GO x d 25 Q 1 [v0, some (.inl a)] st I J = GO x d 25 Q 2 [v0, some (.inl a)] (.inl a :: st) I J := ge (A := (1, 2, 1, 0, 0)) rfl
set_option maxRecDepth 10000 in
theorem g_25_2 : GO x d 25 Q 2 [v0, v1] [.inl i0, .inr (.inr (.inl r))] I J = (okO r 3 ∧ EX x d 16 [.inr (.inr (.inl r)), .inl i0] I J (fun r1 I1 J1 => GO x d 25 Q 5 [v0, v1] (r1.toList ++ []) I1 J1)) := (ge (A := (53, 5, 16, 1, 0)) rfl).trans (gtrue (Nat.le_of_ble_eq_true rfl))
set_option maxRecDepth 10000 in
theorem g_25_5 : GO x d 25 Q 5 [v0, v1] (.inl a :: st) I J = (inR a ∧ if a = 0 then GO x d 25 Q 22 [v0, v1] st I J else GO x d 25 Q 8 [v0, v1] st I J) := (ge (A := (33, 8, 22, 0, 0)) rfl).trans (gif (p := a = 0) inferInstance)
set_option maxRecDepth 10000 in
theorem g_25_8 : GO x d 25 Q 8 [some (.inr (.inr w)), v1] st I J = GO x d 25 Q 9 [some (.inr (.inr w)), v1] (.inr (.inr w) :: st) I J := ge (A := (2, 9, 0, 0, 0)) rfl
set_option maxRecDepth 10000 in
theorem g_25_9 : GO x d 25 Q 9 [v0, v1] (.inr (.inr (.inl r)) :: st) I J = (okF r 3 4 ∧ GO x d 25 Q 12 [v0, v1] (.inr (.inr (.inl (rfN r 4))) :: st) I J) := (ge (A := (39, 12, 3, 4, 0)) rfl).trans (gref (f := fun q => GO x d 25 Q 12 [v0, v1] (.inr (.inr (.inl q)) :: st) I J))
set_option maxRecDepth 10000 in
theorem g_25_12 : GO x d 25 Q 12 [v0, some (.inl a)] st I J = GO x d 25 Q 13 [v0, some (.inl a)] (.inl a :: st) I J := ge (A := (1, 13, 1, 0, 0)) rfl
set_option maxRecDepth 10000 in
theorem h_25_13 : GO x d 25 Q 13 [v0, v1] (.inl a :: .inr (.inr (.inr q)) :: st) I J = (q < 4 ∧ 0 ≤ a ∧ a < (roA x q).1 ∧ GO x d 25 Q 14 [v0, v1] (.inl ((roA x q).2 a.toNat) :: st) I J) := ge (A := (44, 14, 0, 0, 0)) rfl
set_option maxRecDepth 10000 in
theorem g_25_13 : GO x d 25 Q 13 [v0, v1] (.inl a :: .inr (.inr (.inl r)) :: st) I J = (okA r 20 ∧ 0 ≤ a ∧ a < lnN r ∧ GO x d 25 Q 14 [v0, v1] (.inl (I r a) :: st) I J) := ge (A := (44, 14, 0, 0, 0)) rfl
set_option maxRecDepth 10000 in
theorem g_25_14 : GO x d 25 Q 14 [v0, v1] st I J = GO x d 25 Q 15 [v0, v1] (.inl (5) :: st) I J := ge (A := (0, 15, 0, 0, 5)) rfl
set_option maxRecDepth 10000 in
theorem g_25_15 : GO x d 25 Q 15 [v0, v1] (.inl b :: .inl a :: st) I J = (inR a ∧ inR b ∧ if a = b then GO x d 25 Q 18 [v0, v1] st I J else GO x d 25 Q 22 [v0, v1] st I J) := (ge (A := (34, 18, 22, 1, 0)) rfl).trans (gicn (p := a = b) inferInstance)
set_option maxRecDepth 10000 in
theorem g_25_18 : GO x d 25 Q 18 [v0, v1] st I J = GO x d 25 Q 19 [v0, v1] (.inl (2) :: st) I J := ge (A := (0, 19, 0, 0, 2)) rfl
set_option maxRecDepth 10000 in
theorem g_25_19 : GO x d 25 Q 19 [v0, v1] st I J = GO x d 25 Q 23 [v0, v1] st I J := ge (A := (35, 22, 23, 0, 0)) rfl
set_option maxRecDepth 10000 in
theorem g_25_22 : GO x d 25 Q 22 [v0, v1] st I J = GO x d 25 Q 23 [v0, v1] (.inl (1) :: st) I J := ge (A := (0, 23, 0, 0, 1)) rfl
set_option maxRecDepth 10000 in
theorem g_25_23 : GO x d 25 Q 23 [v0, v1] [.inl a] I J = Q (some (.inl a)) I J := ge (A := (55, 24, 0, 0, 0)) rfl
set_option maxRecDepth 10000 in
theorem e_25 : EX x (d + 1) 25 [.inr (.inr w0), .inl i0] I J Q = GO x d 25 Q 0 [some (.inr (.inr w0)), some (.inl i0)] [] I J := ex_eq (Nat.le_of_ble_eq_true rfl) rfl (Nat.le_of_ble_eq_true rfl) rfl
set_option maxRecDepth 10000 in
theorem g_26_0 : GO x d 26 Q 0 [some (.inr (.inr w)), v1] st I J = GO x d 26 Q 1 [some (.inr (.inr w)), v1] (.inr (.inr w) :: st) I J := ge (A := (2, 1, 0, 0, 0)) rfl
set_option maxRecDepth 10000 in
theorem g_26_1 : GO x d 26 Q 1 [v0, some (.inl a)] st I J = GO x d 26 Q 2 [v0, some (.inl a)] (.inl a :: st) I J := ge (A := (1, 2, 1, 0, 0)) rfl
set_option maxRecDepth 10000 in
theorem g_26_2 : GO x d 26 Q 2 [v0, v1] [.inl i0, .inr (.inr (.inl r))] I J = (okO r 3 ∧ EX x d 16 [.inr (.inr (.inl r)), .inl i0] I J (fun r1 I1 J1 => GO x d 26 Q 5 [v0, v1] (r1.toList ++ []) I1 J1)) := (ge (A := (53, 5, 16, 1, 0)) rfl).trans (gtrue (Nat.le_of_ble_eq_true rfl))
set_option maxRecDepth 10000 in
theorem g_26_5 : GO x d 26 Q 5 [v0, v1] (.inl a :: st) I J = (inR a ∧ if a = 0 then GO x d 26 Q 22 [v0, v1] st I J else GO x d 26 Q 8 [v0, v1] st I J) := (ge (A := (33, 8, 22, 0, 0)) rfl).trans (gif (p := a = 0) inferInstance)
set_option maxRecDepth 10000 in
theorem g_26_8 : GO x d 26 Q 8 [some (.inr (.inr w)), v1] st I J = GO x d 26 Q 9 [some (.inr (.inr w)), v1] (.inr (.inr w) :: st) I J := ge (A := (2, 9, 0, 0, 0)) rfl
set_option maxRecDepth 10000 in
theorem g_26_9 : GO x d 26 Q 9 [v0, v1] (.inr (.inr (.inl r)) :: st) I J = (okF r 3 4 ∧ GO x d 26 Q 12 [v0, v1] (.inr (.inr (.inl (rfN r 4))) :: st) I J) := (ge (A := (39, 12, 3, 4, 0)) rfl).trans (gref (f := fun q => GO x d 26 Q 12 [v0, v1] (.inr (.inr (.inl q)) :: st) I J))
set_option maxRecDepth 10000 in
theorem g_26_12 : GO x d 26 Q 12 [v0, some (.inl a)] st I J = GO x d 26 Q 13 [v0, some (.inl a)] (.inl a :: st) I J := ge (A := (1, 13, 1, 0, 0)) rfl
set_option maxRecDepth 10000 in
theorem h_26_13 : GO x d 26 Q 13 [v0, v1] (.inl a :: .inr (.inr (.inr q)) :: st) I J = (q < 4 ∧ 0 ≤ a ∧ a < (roA x q).1 ∧ GO x d 26 Q 14 [v0, v1] (.inl ((roA x q).2 a.toNat) :: st) I J) := ge (A := (44, 14, 0, 0, 0)) rfl
set_option maxRecDepth 10000 in
theorem g_26_13 : GO x d 26 Q 13 [v0, v1] (.inl a :: .inr (.inr (.inl r)) :: st) I J = (okA r 20 ∧ 0 ≤ a ∧ a < lnN r ∧ GO x d 26 Q 14 [v0, v1] (.inl (I r a) :: st) I J) := ge (A := (44, 14, 0, 0, 0)) rfl
set_option maxRecDepth 10000 in
theorem g_26_14 : GO x d 26 Q 14 [v0, v1] st I J = GO x d 26 Q 15 [v0, v1] (.inl (2) :: st) I J := ge (A := (0, 15, 0, 0, 2)) rfl
set_option maxRecDepth 10000 in
theorem g_26_15 : GO x d 26 Q 15 [v0, v1] (.inl b :: .inl a :: st) I J = (inR a ∧ inR b ∧ if a = b then GO x d 26 Q 18 [v0, v1] st I J else GO x d 26 Q 22 [v0, v1] st I J) := (ge (A := (34, 18, 22, 1, 0)) rfl).trans (gicn (p := a = b) inferInstance)
set_option maxRecDepth 10000 in
theorem g_26_18 : GO x d 26 Q 18 [v0, v1] st I J = GO x d 26 Q 19 [v0, v1] (.inl (1) :: st) I J := ge (A := (0, 19, 0, 0, 1)) rfl
set_option maxRecDepth 10000 in
theorem g_26_19 : GO x d 26 Q 19 [v0, v1] st I J = GO x d 26 Q 23 [v0, v1] st I J := ge (A := (35, 22, 23, 0, 0)) rfl
set_option maxRecDepth 10000 in
theorem g_26_22 : GO x d 26 Q 22 [v0, v1] st I J = GO x d 26 Q 23 [v0, v1] (.inl (0) :: st) I J := ge (A := (0, 23, 0, 0, 0)) rfl
set_option maxRecDepth 10000 in
theorem g_26_23 : GO x d 26 Q 23 [v0, v1] [.inl a] I J = Q (some (.inl a)) I J := ge (A := (55, 24, 0, 0, 0)) rfl
set_option maxRecDepth 10000 in
theorem e_26 : EX x (d + 1) 26 [.inr (.inr w0), .inl i0] I J Q = GO x d 26 Q 0 [some (.inr (.inr w0)), some (.inl i0)] [] I J := ex_eq (Nat.le_of_ble_eq_true rfl) rfl (Nat.le_of_ble_eq_true rfl) rfl
set_option maxRecDepth 10000 in
theorem g_27_0 : GO x d 27 Q 0 [some (.inr (.inr w)), v1, v2] st I J = GO x d 27 Q 1 [some (.inr (.inr w)), v1, v2] (.inr (.inr w) :: st) I J := ge (A := (2, 1, 0, 0, 0)) rfl
set_option maxRecDepth 10000 in
theorem g_27_1 : GO x d 27 Q 1 [v0, some (.inl a), v2] st I J = GO x d 27 Q 2 [v0, some (.inl a), v2] (.inl a :: st) I J := ge (A := (1, 2, 1, 0, 0)) rfl
set_option maxRecDepth 10000 in
theorem g_27_2 : GO x d 27 Q 2 [v0, v1, v2] [.inl i0, .inr (.inr (.inl r))] I J = (okO r 3 ∧ EX x d 17 [.inr (.inr (.inl r)), .inl i0] I J (fun r1 I1 J1 => GO x d 27 Q 5 [v0, v1, v2] (r1.toList ++ []) I1 J1)) := (ge (A := (53, 5, 17, 1, 0)) rfl).trans (gtrue (Nat.le_of_ble_eq_true rfl))
set_option maxRecDepth 10000 in
theorem g_27_5 : GO x d 27 Q 5 [v0, v1, v2] (.inl a :: st) I J = (inR a ∧ if a = 0 then GO x d 27 Q 16 [v0, v1, v2] st I J else GO x d 27 Q 8 [v0, v1, v2] st I J) := (ge (A := (33, 8, 16, 0, 0)) rfl).trans (gif (p := a = 0) inferInstance)
set_option maxRecDepth 10000 in
theorem g_27_8 : GO x d 27 Q 8 [some (.inr (.inr w)), v1, v2] st I J = GO x d 27 Q 9 [some (.inr (.inr w)), v1, v2] (.inr (.inr w) :: st) I J := ge (A := (2, 9, 0, 0, 0)) rfl
set_option maxRecDepth 10000 in
theorem g_27_9 : GO x d 27 Q 9 [v0, v1, some (.inl a)] st I J = GO x d 27 Q 10 [v0, v1, some (.inl a)] (.inl a :: st) I J := ge (A := (1, 10, 2, 0, 0)) rfl
set_option maxRecDepth 10000 in
theorem g_27_10 : GO x d 27 Q 10 [v0, v1, v2] [.inl i0, .inr (.inr (.inl r))] I J = (okO r 3 ∧ EX x d 16 [.inr (.inr (.inl r)), .inl i0] I J (fun r1 I1 J1 => GO x d 27 Q 13 [v0, v1, v2] (r1.toList ++ []) I1 J1)) := (ge (A := (53, 13, 16, 1, 0)) rfl).trans (gtrue (Nat.le_of_ble_eq_true rfl))
set_option maxRecDepth 10000 in
theorem g_27_13 : GO x d 27 Q 13 [v0, v1, v2] (.inl a :: st) I J = (inR a ∧ if a = 0 then GO x d 27 Q 16 [v0, v1, v2] st I J else GO x d 27 Q 17 [v0, v1, v2] st I J) := (ge (A := (33, 16, 17, 1, 0)) rfl).trans (gifn (p := a = 0) inferInstance)
set_option maxRecDepth 10000 in
theorem g_27_16 : GO x d 27 Q 16 [v0, v1, v2] [] I J = Q none I J := ge (A := (57, 17, 0, 0, 0)) rfl
set_option maxRecDepth 10000 in
theorem g_27_17 : GO x d 27 Q 17 [some (.inr (.inr w)), v1, v2] st I J = GO x d 27 Q 18 [some (.inr (.inr w)), v1, v2] (.inr (.inr w) :: st) I J := ge (A := (2, 18, 0, 0, 0)) rfl
set_option maxRecDepth 10000 in
theorem g_27_18 : GO x d 27 Q 18 [v0, v1, v2] (.inr (.inr (.inl r)) :: st) I J = (okF r 3 10 ∧ GO x d 27 Q 21 [v0, v1, v2] (.inr (.inr (.inl (rfN r 10))) :: st) I J) := (ge (A := (39, 21, 3, 10, 0)) rfl).trans (gref (f := fun q => GO x d 27 Q 21 [v0, v1, v2] (.inr (.inr (.inl q)) :: st) I J))
set_option maxRecDepth 10000 in
theorem g_27_21 : GO x d 27 Q 21 [v0, some (.inl a), v2] st I J = GO x d 27 Q 22 [v0, some (.inl a), v2] (.inl a :: st) I J := ge (A := (1, 22, 1, 0, 0)) rfl
set_option maxRecDepth 10000 in
theorem g_27_22 : GO x d 27 Q 22 [v0, v1, some (.inl a)] st I J = GO x d 27 Q 23 [v0, v1, some (.inl a)] (.inl a :: st) I J := ge (A := (1, 23, 2, 0, 0)) rfl
set_option maxRecDepth 10000 in
theorem g_27_23 : GO x d 27 Q 23 [v0, v1, v2] (.inl b :: .inl a :: .inr (.inr (.inl r)) :: st) I J = (okA r 20 ∧ 0 ≤ a ∧ a < lnN r ∧ GO x d 27 Q 24 [v0, v1, v2] st (up I r a b) J) := ge (A := (45, 24, 0, 0, 0)) rfl
set_option maxRecDepth 10000 in
theorem g_27_24 : GO x d 27 Q 24 [some (.inr (.inr w)), v1, v2] st I J = GO x d 27 Q 25 [some (.inr (.inr w)), v1, v2] (.inr (.inr w) :: st) I J := ge (A := (2, 25, 0, 0, 0)) rfl
set_option maxRecDepth 10000 in
theorem g_27_25 : GO x d 27 Q 25 [v0, v1, v2] (.inr (.inr (.inl r)) :: st) I J = (okF r 3 6 ∧ GO x d 27 Q 28 [v0, v1, v2] (.inr (.inr (.inl (rfN r 6))) :: st) I J) := (ge (A := (39, 28, 3, 6, 0)) rfl).trans (gref (f := fun q => GO x d 27 Q 28 [v0, v1, v2] (.inr (.inr (.inl q)) :: st) I J))
set_option maxRecDepth 10000 in
theorem g_27_28 : GO x d 27 Q 28 [v0, v1, some (.inl a)] st I J = GO x d 27 Q 29 [v0, v1, some (.inl a)] (.inl a :: st) I J := ge (A := (1, 29, 2, 0, 0)) rfl
set_option maxRecDepth 10000 in
theorem g_27_29 : GO x d 27 Q 29 [some (.inr (.inr w)), v1, v2] st I J = GO x d 27 Q 30 [some (.inr (.inr w)), v1, v2] (.inr (.inr w) :: st) I J := ge (A := (2, 30, 0, 0, 0)) rfl
set_option maxRecDepth 10000 in
theorem g_27_30 : GO x d 27 Q 30 [v0, v1, v2] (.inr (.inr (.inl r)) :: st) I J = (okO r 3 ∧ GO x d 27 Q 33 [v0, v1, v2] (.inl (I r 11) :: st) I J) := ge (A := (37, 33, 3, 11, 0)) rfl
set_option maxRecDepth 10000 in
theorem g_27_33 : GO x d 27 Q 33 [v0, v1, v2] (.inl b :: .inl a :: .inr (.inr (.inl r)) :: st) I J = (okA r 20 ∧ 0 ≤ a ∧ a < lnN r ∧ GO x d 27 Q 34 [v0, v1, v2] st (up I r a b) J) := ge (A := (45, 34, 0, 0, 0)) rfl
set_option maxRecDepth 10000 in
theorem g_27_34 : GO x d 27 Q 34 [some (.inr (.inr w)), v1, v2] st I J = GO x d 27 Q 35 [some (.inr (.inr w)), v1, v2] (.inr (.inr w) :: st) I J := ge (A := (2, 35, 0, 0, 0)) rfl
set_option maxRecDepth 10000 in
theorem g_27_35 : GO x d 27 Q 35 [v0, v1, v2] (.inr (.inr (.inl r)) :: st) I J = (okF r 3 7 ∧ GO x d 27 Q 38 [v0, v1, v2] (.inr (.inr (.inl (rfN r 7))) :: st) I J) := (ge (A := (39, 38, 3, 7, 0)) rfl).trans (gref (f := fun q => GO x d 27 Q 38 [v0, v1, v2] (.inr (.inr (.inl q)) :: st) I J))
set_option maxRecDepth 10000 in
theorem g_27_38 : GO x d 27 Q 38 [v0, v1, some (.inl a)] st I J = GO x d 27 Q 39 [v0, v1, some (.inl a)] (.inl a :: st) I J := ge (A := (1, 39, 2, 0, 0)) rfl
set_option maxRecDepth 10000 in
theorem g_27_39 : GO x d 27 Q 39 [v0, v1, v2] (.inl a :: .inr (.inr w) :: st) I J = GO x d 27 Q 40 [v0, v1, v2] (.inl a :: .inr (.inr w) :: .inl a :: .inr (.inr w) :: st) I J := ge (A := (32, 40, 0, 0, 0)) rfl
set_option maxRecDepth 10000 in
theorem h_27_40 : GO x d 27 Q 40 [v0, v1, v2] (.inl a :: .inr (.inr (.inr q)) :: st) I J = (q < 4 ∧ 0 ≤ a ∧ a < (roA x q).1 ∧ GO x d 27 Q 41 [v0, v1, v2] (.inl ((roA x q).2 a.toNat) :: st) I J) := ge (A := (44, 41, 0, 0, 0)) rfl
set_option maxRecDepth 10000 in
theorem g_27_40 : GO x d 27 Q 40 [v0, v1, v2] (.inl a :: .inr (.inr (.inl r)) :: st) I J = (okA r 20 ∧ 0 ≤ a ∧ a < lnN r ∧ GO x d 27 Q 41 [v0, v1, v2] (.inl (I r a) :: st) I J) := ge (A := (44, 41, 0, 0, 0)) rfl
set_option maxRecDepth 10000 in
theorem g_27_41 : GO x d 27 Q 41 [v0, v1, v2] st I J = GO x d 27 Q 42 [v0, v1, v2] (.inl (1) :: st) I J := ge (A := (0, 42, 0, 0, 1)) rfl
set_option maxRecDepth 10000 in
theorem g_27_42 : GO x d 27 Q 42 [v0, v1, v2] (.inl b :: .inl a :: st) I J = GO x d 27 Q 43 [v0, v1, v2] (.inl (a + b) :: st) I J := ge (A := (8, 43, 0, 0, 0)) rfl
set_option maxRecDepth 10000 in
theorem g_27_43 : GO x d 27 Q 43 [v0, v1, v2] (.inl b :: .inl a :: .inr (.inr (.inl r)) :: st) I J = (okA r 20 ∧ 0 ≤ a ∧ a < lnN r ∧ GO x d 27 Q 44 [v0, v1, v2] st (up I r a b) J) := ge (A := (45, 44, 0, 0, 0)) rfl
set_option maxRecDepth 10000 in
theorem g_27_44 : GO x d 27 Q 44 [some (.inr (.inr w)), v1, v2] st I J = GO x d 27 Q 45 [some (.inr (.inr w)), v1, v2] (.inr (.inr w) :: st) I J := ge (A := (2, 45, 0, 0, 0)) rfl
set_option maxRecDepth 10000 in
theorem g_27_45 : GO x d 27 Q 45 [some (.inr (.inr w)), v1, v2] st I J = GO x d 27 Q 46 [some (.inr (.inr w)), v1, v2] (.inr (.inr w) :: st) I J := ge (A := (2, 46, 0, 0, 0)) rfl
set_option maxRecDepth 10000 in
theorem g_27_46 : GO x d 27 Q 46 [v0, v1, v2] (.inr (.inr (.inl r)) :: st) I J = (okF r 3 5 ∧ GO x d 27 Q 49 [v0, v1, v2] (.inr (.inr (.inl (rfN r 5))) :: st) I J) := (ge (A := (39, 49, 3, 5, 0)) rfl).trans (gref (f := fun q => GO x d 27 Q 49 [v0, v1, v2] (.inr (.inr (.inl q)) :: st) I J))
set_option maxRecDepth 10000 in
theorem g_27_49 : GO x d 27 Q 49 [v0, v1, some (.inl a)] st I J = GO x d 27 Q 50 [v0, v1, some (.inl a)] (.inl a :: st) I J := ge (A := (1, 50, 2, 0, 0)) rfl
set_option maxRecDepth 10000 in
theorem h_27_50 : GO x d 27 Q 50 [v0, v1, v2] (.inl a :: .inr (.inr (.inr q)) :: st) I J = (q < 4 ∧ 0 ≤ a ∧ a < (roA x q).1 ∧ GO x d 27 Q 51 [v0, v1, v2] (.inl ((roA x q).2 a.toNat) :: st) I J) := ge (A := (44, 51, 0, 0, 0)) rfl
set_option maxRecDepth 10000 in
theorem g_27_50 : GO x d 27 Q 50 [v0, v1, v2] (.inl a :: .inr (.inr (.inl r)) :: st) I J = (okA r 20 ∧ 0 ≤ a ∧ a < lnN r ∧ GO x d 27 Q 51 [v0, v1, v2] (.inl (I r a) :: st) I J) := ge (A := (44, 51, 0, 0, 0)) rfl
set_option maxRecDepth 10000 in
theorem g_27_51 : GO x d 27 Q 51 [v0, v1, v2] (.inl a :: .inr (.inr (.inl r)) :: st) I J = (okO r 3 ∧ GO x d 27 Q 54 [v0, v1, v2] st (up I r 12 a) J) := ge (A := (40, 54, 3, 12, 0)) rfl
set_option maxRecDepth 10000 in
theorem g_27_54 : GO x d 27 Q 54 [some (.inr (.inr w)), v1, v2] st I J = GO x d 27 Q 55 [some (.inr (.inr w)), v1, v2] (.inr (.inr w) :: st) I J := ge (A := (2, 55, 0, 0, 0)) rfl
set_option maxRecDepth 10000 in
theorem g_27_55 : GO x d 27 Q 55 [v0, v1, v2] (.inr (.inr w) :: st) I J = GO x d 27 Q 56 [v0, v1, v2] (.inr (.inr w) :: .inr (.inr w) :: st) I J := ge (A := (31, 56, 0, 0, 0)) rfl
set_option maxRecDepth 10000 in
theorem g_27_56 : GO x d 27 Q 56 [v0, v1, v2] (.inr (.inr (.inl r)) :: st) I J = (okO r 3 ∧ GO x d 27 Q 59 [v0, v1, v2] (.inl (I r 13) :: st) I J) := ge (A := (37, 59, 3, 13, 0)) rfl
set_option maxRecDepth 10000 in
theorem g_27_59 : GO x d 27 Q 59 [some (.inr (.inr w)), v1, v2] st I J = GO x d 27 Q 60 [some (.inr (.inr w)), v1, v2] (.inr (.inr w) :: st) I J := ge (A := (2, 60, 0, 0, 0)) rfl
set_option maxRecDepth 10000 in
theorem g_27_60 : GO x d 27 Q 60 [v0, v1, some (.inl a)] st I J = GO x d 27 Q 61 [v0, v1, some (.inl a)] (.inl a :: st) I J := ge (A := (1, 61, 2, 0, 0)) rfl
set_option maxRecDepth 10000 in
theorem g_27_61 : GO x d 27 Q 61 [v0, v1, v2] [.inl i0, .inr (.inr (.inl r)), .inl i1, .inr (.inr w0)] I J = (okO r 3 ∧ EX x d 26 [.inr (.inr (.inl r)), .inl i0] I J (fun r1 I1 J1 => GO x d 27 Q 64 [v0, v1, v2] (r1.toList ++ [.inl i1, .inr (.inr w0)]) I1 J1)) := (ge (A := (53, 64, 26, 1, 0)) rfl).trans (gtrue (Nat.le_of_ble_eq_true rfl))
set_option maxRecDepth 10000 in
theorem g_27_64 : GO x d 27 Q 64 [v0, v1, v2] (.inl b :: .inl a :: st) I J = GO x d 27 Q 65 [v0, v1, v2] (.inl (a + b) :: st) I J := ge (A := (8, 65, 0, 0, 0)) rfl
set_option maxRecDepth 10000 in
theorem g_27_65 : GO x d 27 Q 65 [v0, v1, v2] (.inl a :: .inr (.inr (.inl r)) :: st) I J = (okO r 3 ∧ GO x d 27 Q 68 [v0, v1, v2] st (up I r 13 a) J) := ge (A := (40, 68, 3, 13, 0)) rfl
set_option maxRecDepth 10000 in
theorem g_27_68 : GO x d 27 Q 68 [some (.inr (.inr w)), v1, v2] st I J = GO x d 27 Q 69 [some (.inr (.inr w)), v1, v2] (.inr (.inr w) :: st) I J := ge (A := (2, 69, 0, 0, 0)) rfl
set_option maxRecDepth 10000 in
theorem g_27_69 : GO x d 27 Q 69 [v0, v1, v2] (.inr (.inr w) :: st) I J = GO x d 27 Q 70 [v0, v1, v2] (.inr (.inr w) :: .inr (.inr w) :: st) I J := ge (A := (31, 70, 0, 0, 0)) rfl
set_option maxRecDepth 10000 in
theorem g_27_70 : GO x d 27 Q 70 [v0, v1, v2] (.inr (.inr (.inl r)) :: st) I J = (okO r 3 ∧ GO x d 27 Q 73 [v0, v1, v2] (.inl (I r 11) :: st) I J) := ge (A := (37, 73, 3, 11, 0)) rfl
set_option maxRecDepth 10000 in
theorem g_27_73 : GO x d 27 Q 73 [some (.inr (.inr w)), v1, v2] st I J = GO x d 27 Q 74 [some (.inr (.inr w)), v1, v2] (.inr (.inr w) :: st) I J := ge (A := (2, 74, 0, 0, 0)) rfl
set_option maxRecDepth 10000 in
theorem g_27_74 : GO x d 27 Q 74 [v0, v1, some (.inl a)] st I J = GO x d 27 Q 75 [v0, v1, some (.inl a)] (.inl a :: st) I J := ge (A := (1, 75, 2, 0, 0)) rfl
set_option maxRecDepth 10000 in
theorem g_27_75 : GO x d 27 Q 75 [v0, v1, v2] [.inl i0, .inr (.inr (.inl r)), .inl i1, .inr (.inr w0)] I J = (okO r 3 ∧ EX x d 25 [.inr (.inr (.inl r)), .inl i0] I J (fun r1 I1 J1 => GO x d 27 Q 78 [v0, v1, v2] (r1.toList ++ [.inl i1, .inr (.inr w0)]) I1 J1)) := (ge (A := (53, 78, 25, 1, 0)) rfl).trans (gtrue (Nat.le_of_ble_eq_true rfl))
set_option maxRecDepth 10000 in
theorem g_27_78 : GO x d 27 Q 78 [v0, v1, v2] (.inl b :: .inl a :: st) I J = GO x d 27 Q 79 [v0, v1, v2] (.inl (a + b) :: st) I J := ge (A := (8, 79, 0, 0, 0)) rfl
set_option maxRecDepth 10000 in
theorem g_27_79 : GO x d 27 Q 79 [v0, v1, v2] (.inl a :: .inr (.inr (.inl r)) :: st) I J = (okO r 3 ∧ GO x d 27 Q 82 [v0, v1, v2] st (up I r 11 a) J) := ge (A := (40, 82, 3, 11, 0)) rfl
set_option maxRecDepth 10000 in
theorem g_27_82 : GO x d 27 Q 82 [v0, v1, v2] [] I J = Q none I J := ge (A := (57, 83, 0, 0, 0)) rfl
set_option maxRecDepth 10000 in
theorem e_27 : EX x (d + 1) 27 [.inr (.inr w0), .inl i0, .inl i1] I J Q = GO x d 27 Q 0 [some (.inr (.inr w0)), some (.inl i0), some (.inl i1)] [] I J := ex_eq (Nat.le_of_ble_eq_true rfl) rfl (Nat.le_of_ble_eq_true rfl) rfl
set_option maxRecDepth 10000 in
theorem g_28_0 : GO x d 28 Q 0 [some (.inr (.inr w)), v1] st I J = GO x d 28 Q 1 [some (.inr (.inr w)), v1] (.inr (.inr w) :: st) I J := ge (A := (2, 1, 0, 0, 0)) rfl
set_option maxRecDepth 10000 in
theorem g_28_1 : GO x d 28 Q 1 [v0, some (.inl a)] st I J = GO x d 28 Q 2 [v0, some (.inl a)] (.inl a :: st) I J := ge (A := (1, 2, 1, 0, 0)) rfl
set_option maxRecDepth 10000 in
theorem g_28_2 : GO x d 28 Q 2 [v0, v1] [.inl i0, .inr (.inr (.inl r))] I J = (okO r 3 ∧ EX x d 17 [.inr (.inr (.inl r)), .inl i0] I J (fun r1 I1 J1 => GO x d 28 Q 5 [v0, v1] (r1.toList ++ []) I1 J1)) := (ge (A := (53, 5, 17, 1, 0)) rfl).trans (gtrue (Nat.le_of_ble_eq_true rfl))
set_option maxRecDepth 10000 in
theorem g_28_5 : GO x d 28 Q 5 [v0, v1] (.inl a :: st) I J = (inR a ∧ if a = 0 then GO x d 28 Q 8 [v0, v1] st I J else GO x d 28 Q 9 [v0, v1] st I J) := (ge (A := (33, 8, 9, 1, 0)) rfl).trans (gifn (p := a = 0) inferInstance)
set_option maxRecDepth 10000 in
theorem g_28_8 : GO x d 28 Q 8 [v0, v1] [] I J = Q none I J := ge (A := (57, 9, 0, 0, 0)) rfl
set_option maxRecDepth 10000 in
theorem g_28_9 : GO x d 28 Q 9 [some (.inr (.inr w)), v1] st I J = GO x d 28 Q 10 [some (.inr (.inr w)), v1] (.inr (.inr w) :: st) I J := ge (A := (2, 10, 0, 0, 0)) rfl
set_option maxRecDepth 10000 in
theorem g_28_10 : GO x d 28 Q 10 [v0, v1] (.inr (.inr (.inl r)) :: st) I J = (okF r 3 10 ∧ GO x d 28 Q 13 [v0, v1] (.inr (.inr (.inl (rfN r 10))) :: st) I J) := (ge (A := (39, 13, 3, 10, 0)) rfl).trans (gref (f := fun q => GO x d 28 Q 13 [v0, v1] (.inr (.inr (.inl q)) :: st) I J))
set_option maxRecDepth 10000 in
theorem g_28_13 : GO x d 28 Q 13 [v0, some (.inl a)] st I J = GO x d 28 Q 14 [v0, some (.inl a)] (.inl a :: st) I J := ge (A := (1, 14, 1, 0, 0)) rfl
set_option maxRecDepth 10000 in
theorem g_28_14 : GO x d 28 Q 14 [v0, v1] st I J = GO x d 28 Q 16 [v0, v1] (.inl (8) :: st) I J := ge (A := (0, 16, 0, 0, 8)) rfl
set_option maxRecDepth 10000 in
theorem g_28_16 : GO x d 28 Q 16 [v0, v1] (.inl b :: .inl a :: .inr (.inr (.inl r)) :: st) I J = (okA r 20 ∧ 0 ≤ a ∧ a < lnN r ∧ GO x d 28 Q 17 [v0, v1] st (up I r a b) J) := ge (A := (45, 17, 0, 0, 0)) rfl
set_option maxRecDepth 10000 in
theorem g_28_17 : GO x d 28 Q 17 [some (.inr (.inr w)), v1] st I J = GO x d 28 Q 18 [some (.inr (.inr w)), v1] (.inr (.inr w) :: st) I J := ge (A := (2, 18, 0, 0, 0)) rfl
set_option maxRecDepth 10000 in
theorem g_28_18 : GO x d 28 Q 18 [v0, v1] (.inr (.inr w) :: st) I J = GO x d 28 Q 19 [v0, v1] (.inr (.inr w) :: .inr (.inr w) :: st) I J := ge (A := (31, 19, 0, 0, 0)) rfl
set_option maxRecDepth 10000 in
theorem g_28_19 : GO x d 28 Q 19 [v0, v1] (.inr (.inr (.inl r)) :: st) I J = (okO r 3 ∧ GO x d 28 Q 22 [v0, v1] (.inl (I r 13) :: st) I J) := ge (A := (37, 22, 3, 13, 0)) rfl
set_option maxRecDepth 10000 in
theorem g_28_22 : GO x d 28 Q 22 [v0, v1] st I J = GO x d 28 Q 23 [v0, v1] (.inl (1) :: st) I J := ge (A := (0, 23, 0, 0, 1)) rfl
set_option maxRecDepth 10000 in
theorem g_28_23 : GO x d 28 Q 23 [v0, v1] (.inl b :: .inl a :: st) I J = GO x d 28 Q 24 [v0, v1] (.inl (a - b) :: st) I J := ge (A := (9, 24, 0, 0, 0)) rfl
set_option maxRecDepth 10000 in
theorem g_28_24 : GO x d 28 Q 24 [v0, v1] (.inl a :: .inr (.inr (.inl r)) :: st) I J = (okO r 3 ∧ GO x d 28 Q 27 [v0, v1] st (up I r 13 a) J) := ge (A := (40, 27, 3, 13, 0)) rfl
set_option maxRecDepth 10000 in
theorem g_28_27 : GO x d 28 Q 27 [some (.inr (.inr w)), v1] st I J = GO x d 28 Q 28 [some (.inr (.inr w)), v1] (.inr (.inr w) :: st) I J := ge (A := (2, 28, 0, 0, 0)) rfl
set_option maxRecDepth 10000 in
theorem g_28_28 : GO x d 28 Q 28 [v0, v1] (.inr (.inr w) :: st) I J = GO x d 28 Q 29 [v0, v1] (.inr (.inr w) :: .inr (.inr w) :: st) I J := ge (A := (31, 29, 0, 0, 0)) rfl
set_option maxRecDepth 10000 in
theorem g_28_29 : GO x d 28 Q 29 [v0, v1] (.inr (.inr (.inl r)) :: st) I J = (okO r 3 ∧ GO x d 28 Q 32 [v0, v1] (.inl (I r 11) :: st) I J) := ge (A := (37, 32, 3, 11, 0)) rfl
set_option maxRecDepth 10000 in
theorem g_28_32 : GO x d 28 Q 32 [v0, v1] st I J = GO x d 28 Q 33 [v0, v1] (.inl (1) :: st) I J := ge (A := (0, 33, 0, 0, 1)) rfl
set_option maxRecDepth 10000 in
theorem g_28_33 : GO x d 28 Q 33 [v0, v1] (.inl b :: .inl a :: st) I J = GO x d 28 Q 34 [v0, v1] (.inl (a + b) :: st) I J := ge (A := (8, 34, 0, 0, 0)) rfl
set_option maxRecDepth 10000 in
theorem g_28_34 : GO x d 28 Q 34 [v0, v1] (.inl a :: .inr (.inr (.inl r)) :: st) I J = (okO r 3 ∧ GO x d 28 Q 37 [v0, v1] st (up I r 11 a) J) := ge (A := (40, 37, 3, 11, 0)) rfl
set_option maxRecDepth 10000 in
theorem g_28_37 : GO x d 28 Q 37 [v0, v1] [] I J = Q none I J := ge (A := (57, 38, 0, 0, 0)) rfl
set_option maxRecDepth 10000 in
theorem e_28 : EX x (d + 1) 28 [.inr (.inr w0), .inl i0] I J Q = GO x d 28 Q 0 [some (.inr (.inr w0)), some (.inl i0)] [] I J := ex_eq (Nat.le_of_ble_eq_true rfl) rfl (Nat.le_of_ble_eq_true rfl) rfl
set_option maxRecDepth 10000 in
theorem g_29_0 : GO x d 29 Q 0 [v0, v1, v2, v3] st I J = GO x d 29 Q 1 [v0, v1, v2, v3] (.inl (1) :: st) I J := ge (A := (0, 1, 0, 0, 1)) rfl
set_option maxRecDepth 10000 in
theorem g_29_1 : GO x d 29 Q 1 [some (.inr (.inr w)), v1, v2, v3] st I J = GO x d 29 Q 2 [some (.inr (.inr w)), v1, v2, v3] (.inr (.inr w) :: st) I J := ge (A := (2, 2, 0, 0, 0)) rfl
set_option maxRecDepth 10000 in
theorem g_29_2 : GO x d 29 Q 2 [v0, v1, v2, v3] (.inr (.inr (.inl r)) :: st) I J = (okO r 3 ∧ GO x d 29 Q 5 [v0, v1, v2, v3] (.inl (I r 3) :: st) I J) := ge (A := (37, 5, 3, 3, 0)) rfl
set_option maxRecDepth 10000 in
theorem g_29_5 : GO x d 29 Q 5 [v0, v1, v2, v3] (.inl b :: .inl a :: st) I J = GO x d 29 Q 6 [v0, v1, v2, v3] (.inl (shlI a b) :: st) I J := ge (A := (14, 6, 0, 0, 0)) rfl
set_option maxRecDepth 10000 in
theorem g_29_6 : GO x d 29 Q 6 [v0, v1, v2, v3] st I J = GO x d 29 Q 7 [v0, v1, v2, v3] (.inl (1) :: st) I J := ge (A := (0, 7, 0, 0, 1)) rfl
set_option maxRecDepth 10000 in
theorem g_29_7 : GO x d 29 Q 7 [v0, v1, v2, v3] (.inl b :: .inl a :: st) I J = GO x d 29 Q 8 [v0, v1, v2, v3] (.inl (a - b) :: st) I J := ge (A := (9, 8, 0, 0, 0)) rfl
set_option maxRecDepth 10000 in
theorem g_29_8 : GO x d 29 Q 8 [v0, v1, v2, v3] (.inl a :: st) I J = (nlO (some v1) = true ∧ GO x d 29 Q 9 [v0, v1, some (.inl a), v3] st I J) := (ge (A := (4, 9, 2, 0, 0)) rfl).trans (gst (Nat.le_of_ble_eq_true rfl) _)
set_option maxRecDepth 10000 in
theorem g_29_9 : GO x d 29 Q 9 [v0, v1, v2, v3] st I J = GO x d 29 Q 10 [v0, v1, v2, v3] (.inl (0) :: st) I J := ge (A := (0, 10, 0, 0, 0)) rfl
set_option maxRecDepth 10000 in
theorem g_29_10 : GO x d 29 Q 10 [v0, v1, v2, v3] (.inl a :: st) I J = (nlO (some v2) = true ∧ GO x d 29 Q 11 [v0, v1, v2, some (.inl a)] st I J) := (ge (A := (4, 11, 3, 0, 0)) rfl).trans (gst (Nat.le_of_ble_eq_true rfl) _)
set_option maxRecDepth 10000 in
theorem g_29_11 : GO x d 29 Q 11 [v0, v1, v2, some (.inl a)] st I J = GO x d 29 Q 12 [v0, v1, v2, some (.inl a)] (.inl a :: st) I J := ge (A := (1, 12, 3, 0, 0)) rfl
set_option maxRecDepth 10000 in
theorem g_29_12 : GO x d 29 Q 12 [v0, v1, v2, v3] st I J = GO x d 29 Q 13 [v0, v1, v2, v3] (.inl (1) :: st) I J := ge (A := (0, 13, 0, 0, 1)) rfl
set_option maxRecDepth 10000 in
theorem g_29_13 : GO x d 29 Q 13 [some (.inr (.inr w)), v1, v2, v3] st I J = GO x d 29 Q 14 [some (.inr (.inr w)), v1, v2, v3] (.inr (.inr w) :: st) I J := ge (A := (2, 14, 0, 0, 0)) rfl
set_option maxRecDepth 10000 in
theorem g_29_14 : GO x d 29 Q 14 [v0, v1, v2, v3] (.inr (.inr (.inl r)) :: st) I J = (okO r 3 ∧ GO x d 29 Q 17 [v0, v1, v2, v3] (.inl (I r 3) :: st) I J) := ge (A := (37, 17, 3, 3, 0)) rfl
set_option maxRecDepth 10000 in
theorem g_29_17 : GO x d 29 Q 17 [v0, v1, v2, v3] (.inl b :: .inl a :: st) I J = GO x d 29 Q 18 [v0, v1, v2, v3] (.inl (shlI a b) :: st) I J := ge (A := (14, 18, 0, 0, 0)) rfl
set_option maxRecDepth 10000 in
theorem g_29_18 : GO x d 29 Q 18 [v0, v1, v2, v3] (.inl b :: .inl a :: st) I J = (inR a ∧ inR b ∧ if a < b then GO x d 29 Q 21 [v0, v1, v2, v3] st I J else GO x d 29 Q 49 [v0, v1, v2, v3] st I J) := (ge (A := (34, 21, 49, 3, 0)) rfl).trans (ggec)
set_option maxRecDepth 10000 in
theorem g_29_21 : GO x d 29 Q 21 [v0, v1, v2, some (.inl a)] st I J = GO x d 29 Q 22 [v0, v1, v2, some (.inl a)] (.inl a :: st) I J := ge (A := (1, 22, 3, 0, 0)) rfl
set_option maxRecDepth 10000 in
theorem g_29_22 : GO x d 29 Q 22 [v0, v1, v2, v3] [.inl i0] I J = EX x d 182 [.inl i0] I J (fun r1 I1 J1 => GO x d 29 Q 25 [v0, v1, v2, v3] (r1.toList ++ []) I1 J1) := (ge (A := (52, 25, 182, 1, 0)) rfl).trans (gtrue2 (Nat.le_of_ble_eq_true rfl) (Nat.le_of_ble_eq_true rfl))
set_option maxRecDepth 10000 in
theorem g_29_25 : GO x d 29 Q 25 [v0, v1, some (.inl a), v3] st I J = GO x d 29 Q 26 [v0, v1, some (.inl a), v3] (.inl a :: st) I J := ge (A := (1, 26, 2, 0, 0)) rfl
set_option maxRecDepth 10000 in
theorem g_29_26 : GO x d 29 Q 26 [v0, v1, v2, v3] [.inl i0, .inl i1] I J = EX x d 182 [.inl i0] I J (fun r1 I1 J1 => GO x d 29 Q 29 [v0, v1, v2, v3] (r1.toList ++ [.inl i1]) I1 J1) := (ge (A := (52, 29, 182, 1, 0)) rfl).trans (gtrue2 (Nat.le_of_ble_eq_true rfl) (Nat.le_of_ble_eq_true rfl))
set_option maxRecDepth 10000 in
theorem g_29_29 : GO x d 29 Q 29 [v0, v1, v2, v3] (.inl b :: .inl a :: st) I J = (inR a ∧ inR b ∧ if a < b then GO x d 29 Q 32 [v0, v1, v2, v3] st I J else GO x d 29 Q 43 [v0, v1, v2, v3] st I J) := (ge (A := (34, 32, 43, 3, 0)) rfl).trans (ggec)
set_option maxRecDepth 10000 in
theorem g_29_32 : GO x d 29 Q 32 [some (.inr (.inr w)), v1, v2, v3] st I J = GO x d 29 Q 33 [some (.inr (.inr w)), v1, v2, v3] (.inr (.inr w) :: st) I J := ge (A := (2, 33, 0, 0, 0)) rfl
set_option maxRecDepth 10000 in
theorem g_29_33 : GO x d 29 Q 33 [v0, v1, v2, some (.inl a)] st I J = GO x d 29 Q 34 [v0, v1, v2, some (.inl a)] (.inl a :: st) I J := ge (A := (1, 34, 3, 0, 0)) rfl
set_option maxRecDepth 10000 in
theorem g_29_34 : GO x d 29 Q 34 [v0, some (.inl a), v2, v3] st I J = GO x d 29 Q 35 [v0, some (.inl a), v2, v3] (.inl a :: st) I J := ge (A := (1, 35, 1, 0, 0)) rfl
set_option maxRecDepth 10000 in
theorem g_29_35 : GO x d 29 Q 35 [v0, v1, v2, v3] [.inl i0, .inl i1, .inr (.inr (.inl r))] I J = (okO r 3 ∧ EX x d 30 [.inr (.inr (.inl r)), .inl i1, .inl i0] I J (fun r1 I1 J1 => GO x d 29 Q 38 [v0, v1, v2, v3] (r1.toList ++ []) I1 J1)) := (ge (A := (53, 38, 30, 2, 0)) rfl).trans (gtrue (Nat.le_of_ble_eq_true rfl))
set_option maxRecDepth 10000 in
theorem g_29_38 : GO x d 29 Q 38 [v0, v1, v2, v3] (.inl a :: st) I J = (inR a ∧ if a = 0 then GO x d 29 Q 43 [v0, v1, v2, v3] st I J else GO x d 29 Q 41 [v0, v1, v2, v3] st I J) := (ge (A := (33, 41, 43, 0, 0)) rfl).trans (gif (p := a = 0) inferInstance)
set_option maxRecDepth 10000 in
theorem g_29_41 : GO x d 29 Q 41 [v0, v1, v2, some (.inl a)] st I J = GO x d 29 Q 42 [v0, v1, v2, some (.inl a)] (.inl a :: st) I J := ge (A := (1, 42, 3, 0, 0)) rfl
set_option maxRecDepth 10000 in
theorem g_29_42 : GO x d 29 Q 42 [v0, v1, v2, v3] (.inl a :: st) I J = (nlO (some v1) = true ∧ GO x d 29 Q 43 [v0, v1, some (.inl a), v3] st I J) := (ge (A := (4, 43, 2, 0, 0)) rfl).trans (gst (Nat.le_of_ble_eq_true rfl) _)
set_option maxRecDepth 10000 in
theorem g_29_43 : GO x d 29 Q 43 [v0, v1, v2, some (.inl a)] st I J = (nlO (some v2) = true ∧ GO x d 29 Q 46 [v0, v1, v2, some (.inl (a + (1)))] st I J) := ge (A := (7, 46, 3, 0, 1)) rfl
set_option maxRecDepth 10000 in
theorem g_29_46 : GO x d 29 Q 46 [v0, v1, v2, v3] st I J = GO x d 29 Q 11 [v0, v1, v2, v3] st I J := ge (A := (35, 49, 11, 0, 0)) rfl
set_option maxRecDepth 10000 in
theorem g_29_49 : GO x d 29 Q 49 [v0, v1, some (.inl a), v3] st I J = GO x d 29 Q 50 [v0, v1, some (.inl a), v3] (.inl a :: st) I J := ge (A := (1, 50, 2, 0, 0)) rfl
set_option maxRecDepth 10000 in
theorem g_29_50 : GO x d 29 Q 50 [v0, v1, v2, v3] [.inl a] I J = Q (some (.inl a)) I J := ge (A := (55, 51, 0, 0, 0)) rfl
set_option maxRecDepth 10000 in
theorem e_29 : EX x (d + 1) 29 [.inr (.inr w0), .inl i0] I J Q = GO x d 29 Q 0 [some (.inr (.inr w0)), some (.inl i0), none, none] [] I J := ex_eq (Nat.le_of_ble_eq_true rfl) rfl (Nat.le_of_ble_eq_true rfl) rfl
end
