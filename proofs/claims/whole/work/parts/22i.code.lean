section
variable {x : RO} {d : Nat} {Q : QT} {I : MI} {J : MJ} {v0 v1 v2 v3 v4 v5 v6 v7 v8 v9 v10 v11 v12 : Option AV} {st : List AV} {a b e : Int} {r q : Nat} {w w2 : Nat ⊕ Nat} {y z : Int64}
variable {i0 i1 i2 i3 i4 i5 i6 i7 i8 i9 : Int} {w0 w1 w3 w4 w5 w6 w7 w8 w9 : Nat ⊕ Nat} {l0 l1 l2 l3 l4 : Int64}
set_option maxRecDepth 10000 in
theorem g_184_3 : GO x d 184 Q 3 [v0, v1, v2, v3] (.inr (.inr w) :: st) I J = GO x d 184 Q 4 [v0, v1, v2, v3] (.inr (.inr w) :: .inr (.inr w) :: st) I J := ge (A := (31, 4, 0, 0, 0)) rfl
set_option maxRecDepth 10000 in
theorem g_184_7 : GO x d 184 Q 7 [v0, v1, v2, v3] (.inr (.inr w) :: st) I J = (nlO (some v0) = true ∧ GO x d 184 Q 8 [v0, some (.inr (.inr w)), v2, v3] st I J) := (ge (A := (5, 8, 1, 0, 0)) rfl).trans (gst (Nat.le_of_ble_eq_true rfl) _)
set_option maxRecDepth 10000 in
theorem g_184_11 : GO x d 184 Q 11 [v0, v1, v2, v3] (.inr (.inr w) :: st) I J = GO x d 184 Q 12 [v0, v1, v2, v3] (.inr (.inr w) :: .inr (.inr w) :: st) I J := ge (A := (31, 12, 0, 0, 0)) rfl
set_option maxRecDepth 10000 in
theorem g_184_15 : GO x d 184 Q 15 [v0, v1, v2, v3] (.inr (.inr w) :: st) I J = (nlO (some v1) = true ∧ GO x d 184 Q 16 [v0, v1, some (.inr (.inr w)), v3] st I J) := (ge (A := (5, 16, 2, 0, 0)) rfl).trans (gst (Nat.le_of_ble_eq_true rfl) _)
set_option maxRecDepth 10000 in
theorem g_184_16 : GO x d 184 Q 16 [v0, v1, v2, v3] st I J = GO x d 184 Q 17 [v0, v1, v2, v3] (.inl (0) :: st) I J := ge (A := (0, 17, 0, 0, 0)) rfl
set_option maxRecDepth 10000 in
theorem g_184_17 : GO x d 184 Q 17 [v0, v1, v2, v3] (.inl a :: st) I J = (nlO (some v2) = true ∧ GO x d 184 Q 18 [v0, v1, v2, some (.inl a)] st I J) := (ge (A := (4, 18, 3, 0, 0)) rfl).trans (gst (Nat.le_of_ble_eq_true rfl) _)
set_option maxRecDepth 10000 in
theorem g_184_18 : GO x d 184 Q 18 [v0, v1, v2, some (.inl a)] st I J = GO x d 184 Q 19 [v0, v1, v2, some (.inl a)] (.inl a :: st) I J := ge (A := (1, 19, 3, 0, 0)) rfl
set_option maxRecDepth 10000 in
theorem g_184_19 : GO x d 184 Q 19 [some (.inr (.inr w)), v1, v2, v3] st I J = GO x d 184 Q 20 [some (.inr (.inr w)), v1, v2, v3] (.inr (.inr w) :: st) I J := ge (A := (2, 20, 0, 0, 0)) rfl
set_option maxRecDepth 10000 in
theorem h_184_20 : GO x d 184 Q 20 [v0, v1, v2, v3] (.inr (.inr (.inr q)) :: st) I J = (q < 4 ∧ GO x d 184 Q 21 [v0, v1, v2, v3] (.inl (roA x q).1 :: st) I J) := ge (A := (51, 21, 0, 0, 0)) rfl
set_option maxRecDepth 10000 in
theorem g_184_20 : GO x d 184 Q 20 [v0, v1, v2, v3] (.inr (.inr (.inl r)) :: st) I J = (okL r ∧ GO x d 184 Q 21 [v0, v1, v2, v3] (.inl (lnN r) :: st) I J) := (ge (A := (51, 21, 0, 0, 0)) rfl).trans glen
set_option maxRecDepth 10000 in
theorem g_184_21 : GO x d 184 Q 21 [v0, v1, v2, v3] st I J = GO x d 184 Q 23 [v0, v1, v2, v3] (.inl (6) :: st) I J := ge (A := (0, 23, 0, 0, 6)) rfl
set_option maxRecDepth 10000 in
theorem g_184_23 : GO x d 184 Q 23 [v0, v1, v2, v3] (.inl b :: .inl a :: st) I J = GO x d 184 Q 24 [v0, v1, v2, v3] (.inl (a - b) :: st) I J := ge (A := (9, 24, 0, 0, 0)) rfl
set_option maxRecDepth 10000 in
theorem g_184_24 : GO x d 184 Q 24 [v0, v1, v2, v3] (.inl b :: .inl a :: st) I J = (inR a ∧ inR b ∧ if b < a then GO x d 184 Q 967 [v0, v1, v2, v3] st I J else GO x d 184 Q 27 [v0, v1, v2, v3] st I J) := (ge (A := (34, 27, 967, 4, 0)) rfl).trans (gic (p := b < a) inferInstance)
set_option maxRecDepth 10000 in
theorem g_184_27 : GO x d 184 Q 27 [some (.inr (.inr w)), v1, v2, v3] st I J = GO x d 184 Q 28 [some (.inr (.inr w)), v1, v2, v3] (.inr (.inr w) :: st) I J := ge (A := (2, 28, 0, 0, 0)) rfl
set_option maxRecDepth 10000 in
theorem g_184_28 : GO x d 184 Q 28 [v0, v1, v2, some (.inl a)] st I J = GO x d 184 Q 29 [v0, v1, v2, some (.inl a)] (.inl a :: st) I J := ge (A := (1, 29, 3, 0, 0)) rfl
set_option maxRecDepth 10000 in
theorem h_184_29 : GO x d 184 Q 29 [v0, v1, v2, v3] (.inl a :: .inr (.inr (.inr q)) :: st) I J = (q < 4 ∧ 0 ≤ a ∧ a < (roA x q).1 ∧ GO x d 184 Q 30 [v0, v1, v2, v3] (.inl ((roA x q).2 a.toNat) :: st) I J) := ge (A := (44, 30, 0, 0, 0)) rfl
set_option maxRecDepth 10000 in
theorem g_184_29 : GO x d 184 Q 29 [v0, v1, v2, v3] (.inl a :: .inr (.inr (.inl r)) :: st) I J = (okA r 20 ∧ 0 ≤ a ∧ a < lnN r ∧ GO x d 184 Q 30 [v0, v1, v2, v3] (.inl (I r a) :: st) I J) := ge (A := (44, 30, 0, 0, 0)) rfl
set_option maxRecDepth 10000 in
theorem g_184_30 : GO x d 184 Q 30 [v0, v1, v2, v3] st I J = GO x d 184 Q 32 [v0, v1, v2, v3] (.inl (31) :: st) I J := ge (A := (0, 32, 0, 0, 31)) rfl
set_option maxRecDepth 10000 in
theorem g_184_32 : GO x d 184 Q 32 [v0, v1, v2, v3] (.inl b :: .inl a :: st) I J = GO x d 184 Q 33 [v0, v1, v2, v3] (.inl (andI a b) :: st) I J := ge (A := (11, 33, 0, 0, 0)) rfl
set_option maxRecDepth 10000 in
theorem g_184_33 : GO x d 184 Q 33 [v0, v1, v2, v3] (.inl a :: st) I J = (inR a ∧ if a = 0 then GO x d 184 Q 164 [v0, v1, v2, v3] st I J else if a = 1 then GO x d 184 Q 207 [v0, v1, v2, v3] st I J else if a = 2 then GO x d 184 Q 250 [v0, v1, v2, v3] st I J else if a = 3 then GO x d 184 Q 313 [v0, v1, v2, v3] st I J else if a = 4 then GO x d 184 Q 336 [v0, v1, v2, v3] st I J else if a = 5 then GO x d 184 Q 359 [v0, v1, v2, v3] st I J else if a = 6 then GO x d 184 Q 372 [v0, v1, v2, v3] st I J else if a = 7 then GO x d 184 Q 385 [v0, v1, v2, v3] st I J else if a = 8 then GO x d 184 Q 418 [v0, v1, v2, v3] st I J else if a = 9 then GO x d 184 Q 441 [v0, v1, v2, v3] st I J else if a = 10 then GO x d 184 Q 464 [v0, v1, v2, v3] st I J else if a = 11 then GO x d 184 Q 477 [v0, v1, v2, v3] st I J else if a = 12 then GO x d 184 Q 510 [v0, v1, v2, v3] st I J else if a = 13 then GO x d 184 Q 543 [v0, v1, v2, v3] st I J else if a = 14 then GO x d 184 Q 566 [v0, v1, v2, v3] st I J else if a = 15 then GO x d 184 Q 589 [v0, v1, v2, v3] st I J else if a = 16 then GO x d 184 Q 612 [v0, v1, v2, v3] st I J else if a = 17 then GO x d 184 Q 635 [v0, v1, v2, v3] st I J else if a = 18 then GO x d 184 Q 668 [v0, v1, v2, v3] st I J else if a = 19 then GO x d 184 Q 691 [v0, v1, v2, v3] st I J else if a = 20 then GO x d 184 Q 724 [v0, v1, v2, v3] st I J else if a = 21 then GO x d 184 Q 767 [v0, v1, v2, v3] st I J else if a = 22 then GO x d 184 Q 790 [v0, v1, v2, v3] st I J else if a = 23 then GO x d 184 Q 813 [v0, v1, v2, v3] st I J else if a = 24 then GO x d 184 Q 836 [v0, v1, v2, v3] st I J else if a = 25 then GO x d 184 Q 869 [v0, v1, v2, v3] st I J else if a = 26 then GO x d 184 Q 902 [v0, v1, v2, v3] st I J else if a = 27 then GO x d 184 Q 925 [v0, v1, v2, v3] st I J else if a = 28 then GO x d 184 Q 948 [v0, v1, v2, v3] st I J else GO x d 184 Q 961 [v0, v1, v2, v3] st I J) := (ge (A := (36, 164, 6, 0, 0)) rfl).trans (congrArg (And _) (propext (tswF_of (f := fun t => GO x d 184 Q t [v0, v1, v2, v3] st I J) [164, 207, 250, 313, 336, 359, 372, 385, 418, 441, 464, 477, 510, 543, 566, 589, 612, 635, 668, 691, 724, 767, 790, 813, 836, 869, 902, 925, 948] 0)))
set_option maxRecDepth 10000 in
theorem g_184_164 : GO x d 184 Q 164 [v0, some (.inr (.inr w)), v2, v3] st I J = GO x d 184 Q 165 [v0, some (.inr (.inr w)), v2, v3] (.inr (.inr w) :: st) I J := ge (A := (2, 165, 1, 0, 0)) rfl
set_option maxRecDepth 10000 in
theorem g_184_165 : GO x d 184 Q 165 [some (.inr (.inr w)), v1, v2, v3] st I J = GO x d 184 Q 166 [some (.inr (.inr w)), v1, v2, v3] (.inr (.inr w) :: st) I J := ge (A := (2, 166, 0, 0, 0)) rfl
set_option maxRecDepth 10000 in
theorem g_184_166 : GO x d 184 Q 166 [v0, v1, v2, some (.inl a)] st I J = GO x d 184 Q 167 [v0, v1, v2, some (.inl a)] (.inl a :: st) I J := ge (A := (1, 167, 3, 0, 0)) rfl
set_option maxRecDepth 10000 in
theorem g_184_167 : GO x d 184 Q 167 [v0, v1, v2, v3] st I J = GO x d 184 Q 168 [v0, v1, v2, v3] (.inl (1) :: st) I J := ge (A := (0, 168, 0, 0, 1)) rfl
set_option maxRecDepth 10000 in
theorem g_184_168 : GO x d 184 Q 168 [v0, v1, v2, v3] (.inl b :: .inl a :: st) I J = GO x d 184 Q 169 [v0, v1, v2, v3] (.inl (a + b) :: st) I J := ge (A := (8, 169, 0, 0, 0)) rfl
set_option maxRecDepth 10000 in
theorem h_184_169 : GO x d 184 Q 169 [v0, v1, v2, v3] (.inl a :: .inr (.inr (.inr q)) :: st) I J = (q < 4 ∧ 0 ≤ a ∧ a < (roA x q).1 ∧ GO x d 184 Q 170 [v0, v1, v2, v3] (.inl ((roA x q).2 a.toNat) :: st) I J) := ge (A := (44, 170, 0, 0, 0)) rfl
set_option maxRecDepth 10000 in
theorem g_184_169 : GO x d 184 Q 169 [v0, v1, v2, v3] (.inl a :: .inr (.inr (.inl r)) :: st) I J = (okA r 20 ∧ 0 ≤ a ∧ a < lnN r ∧ GO x d 184 Q 170 [v0, v1, v2, v3] (.inl (I r a) :: st) I J) := ge (A := (44, 170, 0, 0, 0)) rfl
set_option maxRecDepth 10000 in
theorem g_184_170 : GO x d 184 Q 170 [some (.inr (.inr w)), v1, v2, v3] st I J = GO x d 184 Q 171 [some (.inr (.inr w)), v1, v2, v3] (.inr (.inr w) :: st) I J := ge (A := (2, 171, 0, 0, 0)) rfl
set_option maxRecDepth 10000 in
theorem g_184_171 : GO x d 184 Q 171 [v0, v1, v2, some (.inl a)] st I J = GO x d 184 Q 172 [v0, v1, v2, some (.inl a)] (.inl a :: st) I J := ge (A := (1, 172, 3, 0, 0)) rfl
set_option maxRecDepth 10000 in
theorem g_184_172 : GO x d 184 Q 172 [v0, v1, v2, v3] st I J = GO x d 184 Q 173 [v0, v1, v2, v3] (.inl (2) :: st) I J := ge (A := (0, 173, 0, 0, 2)) rfl
set_option maxRecDepth 10000 in
theorem g_184_173 : GO x d 184 Q 173 [v0, v1, v2, v3] (.inl b :: .inl a :: st) I J = GO x d 184 Q 174 [v0, v1, v2, v3] (.inl (a + b) :: st) I J := ge (A := (8, 174, 0, 0, 0)) rfl
set_option maxRecDepth 10000 in
theorem h_184_174 : GO x d 184 Q 174 [v0, v1, v2, v3] (.inl a :: .inr (.inr (.inr q)) :: st) I J = (q < 4 ∧ 0 ≤ a ∧ a < (roA x q).1 ∧ GO x d 184 Q 175 [v0, v1, v2, v3] (.inl ((roA x q).2 a.toNat) :: st) I J) := ge (A := (44, 175, 0, 0, 0)) rfl
set_option maxRecDepth 10000 in
theorem g_184_174 : GO x d 184 Q 174 [v0, v1, v2, v3] (.inl a :: .inr (.inr (.inl r)) :: st) I J = (okA r 20 ∧ 0 ≤ a ∧ a < lnN r ∧ GO x d 184 Q 175 [v0, v1, v2, v3] (.inl (I r a) :: st) I J) := ge (A := (44, 175, 0, 0, 0)) rfl
set_option maxRecDepth 10000 in
theorem g_184_175 : GO x d 184 Q 175 [some (.inr (.inr w)), v1, v2, v3] st I J = GO x d 184 Q 176 [some (.inr (.inr w)), v1, v2, v3] (.inr (.inr w) :: st) I J := ge (A := (2, 176, 0, 0, 0)) rfl
set_option maxRecDepth 10000 in
theorem g_184_176 : GO x d 184 Q 176 [v0, v1, v2, some (.inl a)] st I J = GO x d 184 Q 177 [v0, v1, v2, some (.inl a)] (.inl a :: st) I J := ge (A := (1, 177, 3, 0, 0)) rfl
set_option maxRecDepth 10000 in
theorem g_184_177 : GO x d 184 Q 177 [v0, v1, v2, v3] st I J = GO x d 184 Q 178 [v0, v1, v2, v3] (.inl (3) :: st) I J := ge (A := (0, 178, 0, 0, 3)) rfl
set_option maxRecDepth 10000 in
theorem g_184_178 : GO x d 184 Q 178 [v0, v1, v2, v3] (.inl b :: .inl a :: st) I J = GO x d 184 Q 179 [v0, v1, v2, v3] (.inl (a + b) :: st) I J := ge (A := (8, 179, 0, 0, 0)) rfl
set_option maxRecDepth 10000 in
theorem h_184_179 : GO x d 184 Q 179 [v0, v1, v2, v3] (.inl a :: .inr (.inr (.inr q)) :: st) I J = (q < 4 ∧ 0 ≤ a ∧ a < (roA x q).1 ∧ GO x d 184 Q 180 [v0, v1, v2, v3] (.inl ((roA x q).2 a.toNat) :: st) I J) := ge (A := (44, 180, 0, 0, 0)) rfl
set_option maxRecDepth 10000 in
theorem g_184_179 : GO x d 184 Q 179 [v0, v1, v2, v3] (.inl a :: .inr (.inr (.inl r)) :: st) I J = (okA r 20 ∧ 0 ≤ a ∧ a < lnN r ∧ GO x d 184 Q 180 [v0, v1, v2, v3] (.inl (I r a) :: st) I J) := ge (A := (44, 180, 0, 0, 0)) rfl
set_option maxRecDepth 10000 in
theorem g_184_180 : GO x d 184 Q 180 [v0, v1, v2, v3] [.inl i0, .inl i1, .inl i2, .inr (.inr (.inl r))] I J = (okO r 9 ∧ EX x d 71 [.inr (.inr (.inl r)), .inl i2, .inl i1, .inl i0] I J (fun r1 I1 J1 => GO x d 184 Q 183 [v0, v1, v2, v3] (r1.toList ++ []) I1 J1)) := (ge (A := (53, 183, 71, 3, 0)) rfl).trans (gtrue (Nat.le_of_ble_eq_true rfl))
set_option maxRecDepth 10000 in
theorem g_184_183 : GO x d 184 Q 183 [v0, v1, some (.inr (.inr w)), v3] st I J = GO x d 184 Q 184 [v0, v1, some (.inr (.inr w)), v3] (.inr (.inr w) :: st) I J := ge (A := (2, 184, 2, 0, 0)) rfl
set_option maxRecDepth 10000 in
theorem g_184_184 : GO x d 184 Q 184 [some (.inr (.inr w)), v1, v2, v3] st I J = GO x d 184 Q 185 [some (.inr (.inr w)), v1, v2, v3] (.inr (.inr w) :: st) I J := ge (A := (2, 185, 0, 0, 0)) rfl
set_option maxRecDepth 10000 in
theorem g_184_185 : GO x d 184 Q 185 [v0, v1, v2, some (.inl a)] st I J = GO x d 184 Q 186 [v0, v1, v2, some (.inl a)] (.inl a :: st) I J := ge (A := (1, 186, 3, 0, 0)) rfl
set_option maxRecDepth 10000 in
theorem g_184_186 : GO x d 184 Q 186 [v0, v1, v2, v3] st I J = GO x d 184 Q 187 [v0, v1, v2, v3] (.inl (1) :: st) I J := ge (A := (0, 187, 0, 0, 1)) rfl
set_option maxRecDepth 10000 in
theorem g_184_187 : GO x d 184 Q 187 [v0, v1, v2, v3] (.inl b :: .inl a :: st) I J = GO x d 184 Q 188 [v0, v1, v2, v3] (.inl (a + b) :: st) I J := ge (A := (8, 188, 0, 0, 0)) rfl
set_option maxRecDepth 10000 in
theorem h_184_188 : GO x d 184 Q 188 [v0, v1, v2, v3] (.inl a :: .inr (.inr (.inr q)) :: st) I J = (q < 4 ∧ 0 ≤ a ∧ a < (roA x q).1 ∧ GO x d 184 Q 189 [v0, v1, v2, v3] (.inl ((roA x q).2 a.toNat) :: st) I J) := ge (A := (44, 189, 0, 0, 0)) rfl
set_option maxRecDepth 10000 in
theorem g_184_188 : GO x d 184 Q 188 [v0, v1, v2, v3] (.inl a :: .inr (.inr (.inl r)) :: st) I J = (okA r 20 ∧ 0 ≤ a ∧ a < lnN r ∧ GO x d 184 Q 189 [v0, v1, v2, v3] (.inl (I r a) :: st) I J) := ge (A := (44, 189, 0, 0, 0)) rfl
set_option maxRecDepth 10000 in
theorem g_184_189 : GO x d 184 Q 189 [some (.inr (.inr w)), v1, v2, v3] st I J = GO x d 184 Q 190 [some (.inr (.inr w)), v1, v2, v3] (.inr (.inr w) :: st) I J := ge (A := (2, 190, 0, 0, 0)) rfl
set_option maxRecDepth 10000 in
theorem g_184_190 : GO x d 184 Q 190 [v0, v1, v2, some (.inl a)] st I J = GO x d 184 Q 191 [v0, v1, v2, some (.inl a)] (.inl a :: st) I J := ge (A := (1, 191, 3, 0, 0)) rfl
set_option maxRecDepth 10000 in
theorem g_184_191 : GO x d 184 Q 191 [v0, v1, v2, v3] st I J = GO x d 184 Q 192 [v0, v1, v2, v3] (.inl (2) :: st) I J := ge (A := (0, 192, 0, 0, 2)) rfl
set_option maxRecDepth 10000 in
theorem g_184_192 : GO x d 184 Q 192 [v0, v1, v2, v3] (.inl b :: .inl a :: st) I J = GO x d 184 Q 193 [v0, v1, v2, v3] (.inl (a + b) :: st) I J := ge (A := (8, 193, 0, 0, 0)) rfl
set_option maxRecDepth 10000 in
theorem h_184_193 : GO x d 184 Q 193 [v0, v1, v2, v3] (.inl a :: .inr (.inr (.inr q)) :: st) I J = (q < 4 ∧ 0 ≤ a ∧ a < (roA x q).1 ∧ GO x d 184 Q 194 [v0, v1, v2, v3] (.inl ((roA x q).2 a.toNat) :: st) I J) := ge (A := (44, 194, 0, 0, 0)) rfl
set_option maxRecDepth 10000 in
theorem g_184_193 : GO x d 184 Q 193 [v0, v1, v2, v3] (.inl a :: .inr (.inr (.inl r)) :: st) I J = (okA r 20 ∧ 0 ≤ a ∧ a < lnN r ∧ GO x d 184 Q 194 [v0, v1, v2, v3] (.inl (I r a) :: st) I J) := ge (A := (44, 194, 0, 0, 0)) rfl
set_option maxRecDepth 10000 in
theorem g_184_194 : GO x d 184 Q 194 [some (.inr (.inr w)), v1, v2, v3] st I J = GO x d 184 Q 195 [some (.inr (.inr w)), v1, v2, v3] (.inr (.inr w) :: st) I J := ge (A := (2, 195, 0, 0, 0)) rfl
set_option maxRecDepth 10000 in
theorem g_184_195 : GO x d 184 Q 195 [v0, v1, v2, some (.inl a)] st I J = GO x d 184 Q 196 [v0, v1, v2, some (.inl a)] (.inl a :: st) I J := ge (A := (1, 196, 3, 0, 0)) rfl
set_option maxRecDepth 10000 in
theorem g_184_196 : GO x d 184 Q 196 [v0, v1, v2, v3] st I J = GO x d 184 Q 197 [v0, v1, v2, v3] (.inl (3) :: st) I J := ge (A := (0, 197, 0, 0, 3)) rfl
set_option maxRecDepth 10000 in
theorem g_184_197 : GO x d 184 Q 197 [v0, v1, v2, v3] (.inl b :: .inl a :: st) I J = GO x d 184 Q 198 [v0, v1, v2, v3] (.inl (a + b) :: st) I J := ge (A := (8, 198, 0, 0, 0)) rfl
set_option maxRecDepth 10000 in
theorem h_184_198 : GO x d 184 Q 198 [v0, v1, v2, v3] (.inl a :: .inr (.inr (.inr q)) :: st) I J = (q < 4 ∧ 0 ≤ a ∧ a < (roA x q).1 ∧ GO x d 184 Q 199 [v0, v1, v2, v3] (.inl ((roA x q).2 a.toNat) :: st) I J) := ge (A := (44, 199, 0, 0, 0)) rfl
set_option maxRecDepth 10000 in
theorem g_184_198 : GO x d 184 Q 198 [v0, v1, v2, v3] (.inl a :: .inr (.inr (.inl r)) :: st) I J = (okA r 20 ∧ 0 ≤ a ∧ a < lnN r ∧ GO x d 184 Q 199 [v0, v1, v2, v3] (.inl (I r a) :: st) I J) := ge (A := (44, 199, 0, 0, 0)) rfl
set_option maxRecDepth 10000 in
theorem g_184_199 : GO x d 184 Q 199 [v0, v1, v2, v3] [.inl i0, .inl i1, .inl i2, .inr (.inr (.inl r)), .inl i3] I J = (okO r 10 ∧ EX x d 115 [.inr (.inr (.inl r)), .inl i2, .inl i1, .inl i0] I J (fun r1 I1 J1 => GO x d 184 Q 202 [v0, v1, v2, v3] (r1.toList ++ [.inl i3]) I1 J1)) := (ge (A := (53, 202, 115, 3, 0)) rfl).trans (gtrue (Nat.le_of_ble_eq_true rfl))
set_option maxRecDepth 10000 in
theorem g_184_202 : GO x d 184 Q 202 [v0, v1, v2, v3] (.inl b :: .inl a :: st) I J = (inR a ∧ inR b ∧ if a = b then GO x d 184 Q 961 [v0, v1, v2, v3] st I J else GO x d 184 Q 205 [v0, v1, v2, v3] st I J) := (ge (A := (34, 205, 961, 0, 0)) rfl).trans (gic (p := a = b) inferInstance)
set_option maxRecDepth 10000 in
theorem g_184_205 : GO x d 184 Q 205 [v0, v1, v2, v3] st I J = GO x d 184 Q 206 [v0, v1, v2, v3] (.inl (0) :: st) I J := ge (A := (0, 206, 0, 0, 0)) rfl
set_option maxRecDepth 10000 in
theorem g_184_206 : GO x d 184 Q 206 [v0, v1, v2, v3] [.inl a] I J = (ret01 a ∧ Q (some (.inl a)) I J) := ge (A := (56, 207, 0, 0, 0)) rfl
set_option maxRecDepth 10000 in
theorem g_184_207 : GO x d 184 Q 207 [v0, some (.inr (.inr w)), v2, v3] st I J = GO x d 184 Q 208 [v0, some (.inr (.inr w)), v2, v3] (.inr (.inr w) :: st) I J := ge (A := (2, 208, 1, 0, 0)) rfl
set_option maxRecDepth 10000 in
theorem g_184_208 : GO x d 184 Q 208 [some (.inr (.inr w)), v1, v2, v3] st I J = GO x d 184 Q 209 [some (.inr (.inr w)), v1, v2, v3] (.inr (.inr w) :: st) I J := ge (A := (2, 209, 0, 0, 0)) rfl
set_option maxRecDepth 10000 in
theorem g_184_209 : GO x d 184 Q 209 [v0, v1, v2, some (.inl a)] st I J = GO x d 184 Q 210 [v0, v1, v2, some (.inl a)] (.inl a :: st) I J := ge (A := (1, 210, 3, 0, 0)) rfl
set_option maxRecDepth 10000 in
theorem g_184_210 : GO x d 184 Q 210 [v0, v1, v2, v3] st I J = GO x d 184 Q 211 [v0, v1, v2, v3] (.inl (1) :: st) I J := ge (A := (0, 211, 0, 0, 1)) rfl
set_option maxRecDepth 10000 in
theorem g_184_211 : GO x d 184 Q 211 [v0, v1, v2, v3] (.inl b :: .inl a :: st) I J = GO x d 184 Q 212 [v0, v1, v2, v3] (.inl (a + b) :: st) I J := ge (A := (8, 212, 0, 0, 0)) rfl
set_option maxRecDepth 10000 in
theorem h_184_212 : GO x d 184 Q 212 [v0, v1, v2, v3] (.inl a :: .inr (.inr (.inr q)) :: st) I J = (q < 4 ∧ 0 ≤ a ∧ a < (roA x q).1 ∧ GO x d 184 Q 213 [v0, v1, v2, v3] (.inl ((roA x q).2 a.toNat) :: st) I J) := ge (A := (44, 213, 0, 0, 0)) rfl
set_option maxRecDepth 10000 in
theorem g_184_212 : GO x d 184 Q 212 [v0, v1, v2, v3] (.inl a :: .inr (.inr (.inl r)) :: st) I J = (okA r 20 ∧ 0 ≤ a ∧ a < lnN r ∧ GO x d 184 Q 213 [v0, v1, v2, v3] (.inl (I r a) :: st) I J) := ge (A := (44, 213, 0, 0, 0)) rfl
set_option maxRecDepth 10000 in
theorem g_184_213 : GO x d 184 Q 213 [some (.inr (.inr w)), v1, v2, v3] st I J = GO x d 184 Q 214 [some (.inr (.inr w)), v1, v2, v3] (.inr (.inr w) :: st) I J := ge (A := (2, 214, 0, 0, 0)) rfl
set_option maxRecDepth 10000 in
theorem g_184_214 : GO x d 184 Q 214 [v0, v1, v2, some (.inl a)] st I J = GO x d 184 Q 215 [v0, v1, v2, some (.inl a)] (.inl a :: st) I J := ge (A := (1, 215, 3, 0, 0)) rfl
set_option maxRecDepth 10000 in
theorem g_184_215 : GO x d 184 Q 215 [v0, v1, v2, v3] st I J = GO x d 184 Q 216 [v0, v1, v2, v3] (.inl (2) :: st) I J := ge (A := (0, 216, 0, 0, 2)) rfl
set_option maxRecDepth 10000 in
theorem g_184_216 : GO x d 184 Q 216 [v0, v1, v2, v3] (.inl b :: .inl a :: st) I J = GO x d 184 Q 217 [v0, v1, v2, v3] (.inl (a + b) :: st) I J := ge (A := (8, 217, 0, 0, 0)) rfl
set_option maxRecDepth 10000 in
theorem h_184_217 : GO x d 184 Q 217 [v0, v1, v2, v3] (.inl a :: .inr (.inr (.inr q)) :: st) I J = (q < 4 ∧ 0 ≤ a ∧ a < (roA x q).1 ∧ GO x d 184 Q 218 [v0, v1, v2, v3] (.inl ((roA x q).2 a.toNat) :: st) I J) := ge (A := (44, 218, 0, 0, 0)) rfl
set_option maxRecDepth 10000 in
theorem g_184_217 : GO x d 184 Q 217 [v0, v1, v2, v3] (.inl a :: .inr (.inr (.inl r)) :: st) I J = (okA r 20 ∧ 0 ≤ a ∧ a < lnN r ∧ GO x d 184 Q 218 [v0, v1, v2, v3] (.inl (I r a) :: st) I J) := ge (A := (44, 218, 0, 0, 0)) rfl
set_option maxRecDepth 10000 in
theorem g_184_218 : GO x d 184 Q 218 [some (.inr (.inr w)), v1, v2, v3] st I J = GO x d 184 Q 219 [some (.inr (.inr w)), v1, v2, v3] (.inr (.inr w) :: st) I J := ge (A := (2, 219, 0, 0, 0)) rfl
set_option maxRecDepth 10000 in
theorem g_184_219 : GO x d 184 Q 219 [v0, v1, v2, some (.inl a)] st I J = GO x d 184 Q 220 [v0, v1, v2, some (.inl a)] (.inl a :: st) I J := ge (A := (1, 220, 3, 0, 0)) rfl
set_option maxRecDepth 10000 in
theorem g_184_220 : GO x d 184 Q 220 [v0, v1, v2, v3] st I J = GO x d 184 Q 221 [v0, v1, v2, v3] (.inl (3) :: st) I J := ge (A := (0, 221, 0, 0, 3)) rfl
set_option maxRecDepth 10000 in
theorem g_184_221 : GO x d 184 Q 221 [v0, v1, v2, v3] (.inl b :: .inl a :: st) I J = GO x d 184 Q 222 [v0, v1, v2, v3] (.inl (a + b) :: st) I J := ge (A := (8, 222, 0, 0, 0)) rfl
set_option maxRecDepth 10000 in
theorem h_184_222 : GO x d 184 Q 222 [v0, v1, v2, v3] (.inl a :: .inr (.inr (.inr q)) :: st) I J = (q < 4 ∧ 0 ≤ a ∧ a < (roA x q).1 ∧ GO x d 184 Q 223 [v0, v1, v2, v3] (.inl ((roA x q).2 a.toNat) :: st) I J) := ge (A := (44, 223, 0, 0, 0)) rfl
set_option maxRecDepth 10000 in
theorem g_184_222 : GO x d 184 Q 222 [v0, v1, v2, v3] (.inl a :: .inr (.inr (.inl r)) :: st) I J = (okA r 20 ∧ 0 ≤ a ∧ a < lnN r ∧ GO x d 184 Q 223 [v0, v1, v2, v3] (.inl (I r a) :: st) I J) := ge (A := (44, 223, 0, 0, 0)) rfl
set_option maxRecDepth 10000 in
theorem g_184_223 : GO x d 184 Q 223 [v0, v1, v2, v3] [.inl i0, .inl i1, .inl i2, .inr (.inr (.inl r))] I J = (okO r 9 ∧ EX x d 72 [.inr (.inr (.inl r)), .inl i2, .inl i1, .inl i0] I J (fun r1 I1 J1 => GO x d 184 Q 226 [v0, v1, v2, v3] (r1.toList ++ []) I1 J1)) := (ge (A := (53, 226, 72, 3, 0)) rfl).trans (gtrue (Nat.le_of_ble_eq_true rfl))
set_option maxRecDepth 10000 in
theorem g_184_226 : GO x d 184 Q 226 [v0, v1, some (.inr (.inr w)), v3] st I J = GO x d 184 Q 227 [v0, v1, some (.inr (.inr w)), v3] (.inr (.inr w) :: st) I J := ge (A := (2, 227, 2, 0, 0)) rfl
set_option maxRecDepth 10000 in
theorem g_184_227 : GO x d 184 Q 227 [some (.inr (.inr w)), v1, v2, v3] st I J = GO x d 184 Q 228 [some (.inr (.inr w)), v1, v2, v3] (.inr (.inr w) :: st) I J := ge (A := (2, 228, 0, 0, 0)) rfl
set_option maxRecDepth 10000 in
theorem g_184_228 : GO x d 184 Q 228 [v0, v1, v2, some (.inl a)] st I J = GO x d 184 Q 229 [v0, v1, v2, some (.inl a)] (.inl a :: st) I J := ge (A := (1, 229, 3, 0, 0)) rfl
set_option maxRecDepth 10000 in
theorem g_184_229 : GO x d 184 Q 229 [v0, v1, v2, v3] st I J = GO x d 184 Q 230 [v0, v1, v2, v3] (.inl (1) :: st) I J := ge (A := (0, 230, 0, 0, 1)) rfl
set_option maxRecDepth 10000 in
theorem g_184_230 : GO x d 184 Q 230 [v0, v1, v2, v3] (.inl b :: .inl a :: st) I J = GO x d 184 Q 231 [v0, v1, v2, v3] (.inl (a + b) :: st) I J := ge (A := (8, 231, 0, 0, 0)) rfl
set_option maxRecDepth 10000 in
theorem h_184_231 : GO x d 184 Q 231 [v0, v1, v2, v3] (.inl a :: .inr (.inr (.inr q)) :: st) I J = (q < 4 ∧ 0 ≤ a ∧ a < (roA x q).1 ∧ GO x d 184 Q 232 [v0, v1, v2, v3] (.inl ((roA x q).2 a.toNat) :: st) I J) := ge (A := (44, 232, 0, 0, 0)) rfl
set_option maxRecDepth 10000 in
theorem g_184_231 : GO x d 184 Q 231 [v0, v1, v2, v3] (.inl a :: .inr (.inr (.inl r)) :: st) I J = (okA r 20 ∧ 0 ≤ a ∧ a < lnN r ∧ GO x d 184 Q 232 [v0, v1, v2, v3] (.inl (I r a) :: st) I J) := ge (A := (44, 232, 0, 0, 0)) rfl
set_option maxRecDepth 10000 in
theorem g_184_232 : GO x d 184 Q 232 [some (.inr (.inr w)), v1, v2, v3] st I J = GO x d 184 Q 233 [some (.inr (.inr w)), v1, v2, v3] (.inr (.inr w) :: st) I J := ge (A := (2, 233, 0, 0, 0)) rfl
set_option maxRecDepth 10000 in
theorem g_184_233 : GO x d 184 Q 233 [v0, v1, v2, some (.inl a)] st I J = GO x d 184 Q 234 [v0, v1, v2, some (.inl a)] (.inl a :: st) I J := ge (A := (1, 234, 3, 0, 0)) rfl
set_option maxRecDepth 10000 in
theorem g_184_234 : GO x d 184 Q 234 [v0, v1, v2, v3] st I J = GO x d 184 Q 235 [v0, v1, v2, v3] (.inl (2) :: st) I J := ge (A := (0, 235, 0, 0, 2)) rfl
set_option maxRecDepth 10000 in
theorem g_184_235 : GO x d 184 Q 235 [v0, v1, v2, v3] (.inl b :: .inl a :: st) I J = GO x d 184 Q 236 [v0, v1, v2, v3] (.inl (a + b) :: st) I J := ge (A := (8, 236, 0, 0, 0)) rfl
set_option maxRecDepth 10000 in
theorem h_184_236 : GO x d 184 Q 236 [v0, v1, v2, v3] (.inl a :: .inr (.inr (.inr q)) :: st) I J = (q < 4 ∧ 0 ≤ a ∧ a < (roA x q).1 ∧ GO x d 184 Q 237 [v0, v1, v2, v3] (.inl ((roA x q).2 a.toNat) :: st) I J) := ge (A := (44, 237, 0, 0, 0)) rfl
set_option maxRecDepth 10000 in
theorem g_184_236 : GO x d 184 Q 236 [v0, v1, v2, v3] (.inl a :: .inr (.inr (.inl r)) :: st) I J = (okA r 20 ∧ 0 ≤ a ∧ a < lnN r ∧ GO x d 184 Q 237 [v0, v1, v2, v3] (.inl (I r a) :: st) I J) := ge (A := (44, 237, 0, 0, 0)) rfl
set_option maxRecDepth 10000 in
theorem g_184_237 : GO x d 184 Q 237 [some (.inr (.inr w)), v1, v2, v3] st I J = GO x d 184 Q 238 [some (.inr (.inr w)), v1, v2, v3] (.inr (.inr w) :: st) I J := ge (A := (2, 238, 0, 0, 0)) rfl
set_option maxRecDepth 10000 in
theorem g_184_238 : GO x d 184 Q 238 [v0, v1, v2, some (.inl a)] st I J = GO x d 184 Q 239 [v0, v1, v2, some (.inl a)] (.inl a :: st) I J := ge (A := (1, 239, 3, 0, 0)) rfl
set_option maxRecDepth 10000 in
theorem g_184_239 : GO x d 184 Q 239 [v0, v1, v2, v3] st I J = GO x d 184 Q 240 [v0, v1, v2, v3] (.inl (3) :: st) I J := ge (A := (0, 240, 0, 0, 3)) rfl
set_option maxRecDepth 10000 in
theorem g_184_240 : GO x d 184 Q 240 [v0, v1, v2, v3] (.inl b :: .inl a :: st) I J = GO x d 184 Q 241 [v0, v1, v2, v3] (.inl (a + b) :: st) I J := ge (A := (8, 241, 0, 0, 0)) rfl
set_option maxRecDepth 10000 in
theorem h_184_241 : GO x d 184 Q 241 [v0, v1, v2, v3] (.inl a :: .inr (.inr (.inr q)) :: st) I J = (q < 4 ∧ 0 ≤ a ∧ a < (roA x q).1 ∧ GO x d 184 Q 242 [v0, v1, v2, v3] (.inl ((roA x q).2 a.toNat) :: st) I J) := ge (A := (44, 242, 0, 0, 0)) rfl
set_option maxRecDepth 10000 in
theorem g_184_241 : GO x d 184 Q 241 [v0, v1, v2, v3] (.inl a :: .inr (.inr (.inl r)) :: st) I J = (okA r 20 ∧ 0 ≤ a ∧ a < lnN r ∧ GO x d 184 Q 242 [v0, v1, v2, v3] (.inl (I r a) :: st) I J) := ge (A := (44, 242, 0, 0, 0)) rfl
set_option maxRecDepth 10000 in
theorem g_184_242 : GO x d 184 Q 242 [v0, v1, v2, v3] [.inl i0, .inl i1, .inl i2, .inr (.inr (.inl r)), .inl i3] I J = (okO r 10 ∧ EX x d 116 [.inr (.inr (.inl r)), .inl i2, .inl i1, .inl i0] I J (fun r1 I1 J1 => GO x d 184 Q 245 [v0, v1, v2, v3] (r1.toList ++ [.inl i3]) I1 J1)) := (ge (A := (53, 245, 116, 3, 0)) rfl).trans (gtrue (Nat.le_of_ble_eq_true rfl))
set_option maxRecDepth 10000 in
theorem g_184_245 : GO x d 184 Q 245 [v0, v1, v2, v3] (.inl b :: .inl a :: st) I J = (inR a ∧ inR b ∧ if a = b then GO x d 184 Q 961 [v0, v1, v2, v3] st I J else GO x d 184 Q 248 [v0, v1, v2, v3] st I J) := (ge (A := (34, 248, 961, 0, 0)) rfl).trans (gic (p := a = b) inferInstance)
set_option maxRecDepth 10000 in
theorem g_184_248 : GO x d 184 Q 248 [v0, v1, v2, v3] st I J = GO x d 184 Q 249 [v0, v1, v2, v3] (.inl (0) :: st) I J := ge (A := (0, 249, 0, 0, 0)) rfl
set_option maxRecDepth 10000 in
theorem g_184_249 : GO x d 184 Q 249 [v0, v1, v2, v3] [.inl a] I J = (ret01 a ∧ Q (some (.inl a)) I J) := ge (A := (56, 250, 0, 0, 0)) rfl
set_option maxRecDepth 10000 in
theorem g_184_250 : GO x d 184 Q 250 [v0, some (.inr (.inr w)), v2, v3] st I J = GO x d 184 Q 251 [v0, some (.inr (.inr w)), v2, v3] (.inr (.inr w) :: st) I J := ge (A := (2, 251, 1, 0, 0)) rfl
set_option maxRecDepth 10000 in
theorem g_184_251 : GO x d 184 Q 251 [some (.inr (.inr w)), v1, v2, v3] st I J = GO x d 184 Q 252 [some (.inr (.inr w)), v1, v2, v3] (.inr (.inr w) :: st) I J := ge (A := (2, 252, 0, 0, 0)) rfl
set_option maxRecDepth 10000 in
theorem g_184_252 : GO x d 184 Q 252 [v0, v1, v2, some (.inl a)] st I J = GO x d 184 Q 253 [v0, v1, v2, some (.inl a)] (.inl a :: st) I J := ge (A := (1, 253, 3, 0, 0)) rfl
set_option maxRecDepth 10000 in
theorem g_184_253 : GO x d 184 Q 253 [v0, v1, v2, v3] st I J = GO x d 184 Q 254 [v0, v1, v2, v3] (.inl (1) :: st) I J := ge (A := (0, 254, 0, 0, 1)) rfl
set_option maxRecDepth 10000 in
theorem g_184_254 : GO x d 184 Q 254 [v0, v1, v2, v3] (.inl b :: .inl a :: st) I J = GO x d 184 Q 255 [v0, v1, v2, v3] (.inl (a + b) :: st) I J := ge (A := (8, 255, 0, 0, 0)) rfl
set_option maxRecDepth 10000 in
theorem h_184_255 : GO x d 184 Q 255 [v0, v1, v2, v3] (.inl a :: .inr (.inr (.inr q)) :: st) I J = (q < 4 ∧ 0 ≤ a ∧ a < (roA x q).1 ∧ GO x d 184 Q 256 [v0, v1, v2, v3] (.inl ((roA x q).2 a.toNat) :: st) I J) := ge (A := (44, 256, 0, 0, 0)) rfl
set_option maxRecDepth 10000 in
theorem g_184_255 : GO x d 184 Q 255 [v0, v1, v2, v3] (.inl a :: .inr (.inr (.inl r)) :: st) I J = (okA r 20 ∧ 0 ≤ a ∧ a < lnN r ∧ GO x d 184 Q 256 [v0, v1, v2, v3] (.inl (I r a) :: st) I J) := ge (A := (44, 256, 0, 0, 0)) rfl
set_option maxRecDepth 10000 in
theorem g_184_256 : GO x d 184 Q 256 [some (.inr (.inr w)), v1, v2, v3] st I J = GO x d 184 Q 257 [some (.inr (.inr w)), v1, v2, v3] (.inr (.inr w) :: st) I J := ge (A := (2, 257, 0, 0, 0)) rfl
set_option maxRecDepth 10000 in
theorem g_184_257 : GO x d 184 Q 257 [v0, v1, v2, some (.inl a)] st I J = GO x d 184 Q 258 [v0, v1, v2, some (.inl a)] (.inl a :: st) I J := ge (A := (1, 258, 3, 0, 0)) rfl
set_option maxRecDepth 10000 in
theorem g_184_258 : GO x d 184 Q 258 [v0, v1, v2, v3] st I J = GO x d 184 Q 259 [v0, v1, v2, v3] (.inl (2) :: st) I J := ge (A := (0, 259, 0, 0, 2)) rfl
set_option maxRecDepth 10000 in
theorem g_184_259 : GO x d 184 Q 259 [v0, v1, v2, v3] (.inl b :: .inl a :: st) I J = GO x d 184 Q 260 [v0, v1, v2, v3] (.inl (a + b) :: st) I J := ge (A := (8, 260, 0, 0, 0)) rfl
set_option maxRecDepth 10000 in
theorem h_184_260 : GO x d 184 Q 260 [v0, v1, v2, v3] (.inl a :: .inr (.inr (.inr q)) :: st) I J = (q < 4 ∧ 0 ≤ a ∧ a < (roA x q).1 ∧ GO x d 184 Q 261 [v0, v1, v2, v3] (.inl ((roA x q).2 a.toNat) :: st) I J) := ge (A := (44, 261, 0, 0, 0)) rfl
set_option maxRecDepth 10000 in
theorem g_184_260 : GO x d 184 Q 260 [v0, v1, v2, v3] (.inl a :: .inr (.inr (.inl r)) :: st) I J = (okA r 20 ∧ 0 ≤ a ∧ a < lnN r ∧ GO x d 184 Q 261 [v0, v1, v2, v3] (.inl (I r a) :: st) I J) := ge (A := (44, 261, 0, 0, 0)) rfl
set_option maxRecDepth 10000 in
theorem g_184_261 : GO x d 184 Q 261 [some (.inr (.inr w)), v1, v2, v3] st I J = GO x d 184 Q 262 [some (.inr (.inr w)), v1, v2, v3] (.inr (.inr w) :: st) I J := ge (A := (2, 262, 0, 0, 0)) rfl
set_option maxRecDepth 10000 in
theorem g_184_262 : GO x d 184 Q 262 [v0, v1, v2, some (.inl a)] st I J = GO x d 184 Q 263 [v0, v1, v2, some (.inl a)] (.inl a :: st) I J := ge (A := (1, 263, 3, 0, 0)) rfl
set_option maxRecDepth 10000 in
theorem g_184_263 : GO x d 184 Q 263 [v0, v1, v2, v3] st I J = GO x d 184 Q 264 [v0, v1, v2, v3] (.inl (3) :: st) I J := ge (A := (0, 264, 0, 0, 3)) rfl
set_option maxRecDepth 10000 in
theorem g_184_264 : GO x d 184 Q 264 [v0, v1, v2, v3] (.inl b :: .inl a :: st) I J = GO x d 184 Q 265 [v0, v1, v2, v3] (.inl (a + b) :: st) I J := ge (A := (8, 265, 0, 0, 0)) rfl
set_option maxRecDepth 10000 in
theorem h_184_265 : GO x d 184 Q 265 [v0, v1, v2, v3] (.inl a :: .inr (.inr (.inr q)) :: st) I J = (q < 4 ∧ 0 ≤ a ∧ a < (roA x q).1 ∧ GO x d 184 Q 266 [v0, v1, v2, v3] (.inl ((roA x q).2 a.toNat) :: st) I J) := ge (A := (44, 266, 0, 0, 0)) rfl
set_option maxRecDepth 10000 in
theorem g_184_265 : GO x d 184 Q 265 [v0, v1, v2, v3] (.inl a :: .inr (.inr (.inl r)) :: st) I J = (okA r 20 ∧ 0 ≤ a ∧ a < lnN r ∧ GO x d 184 Q 266 [v0, v1, v2, v3] (.inl (I r a) :: st) I J) := ge (A := (44, 266, 0, 0, 0)) rfl
set_option maxRecDepth 10000 in
theorem g_184_266 : GO x d 184 Q 266 [some (.inr (.inr w)), v1, v2, v3] st I J = GO x d 184 Q 267 [some (.inr (.inr w)), v1, v2, v3] (.inr (.inr w) :: st) I J := ge (A := (2, 267, 0, 0, 0)) rfl
set_option maxRecDepth 10000 in
theorem g_184_267 : GO x d 184 Q 267 [v0, v1, v2, some (.inl a)] st I J = GO x d 184 Q 268 [v0, v1, v2, some (.inl a)] (.inl a :: st) I J := ge (A := (1, 268, 3, 0, 0)) rfl
set_option maxRecDepth 10000 in
theorem g_184_268 : GO x d 184 Q 268 [v0, v1, v2, v3] st I J = GO x d 184 Q 269 [v0, v1, v2, v3] (.inl (4) :: st) I J := ge (A := (0, 269, 0, 0, 4)) rfl
set_option maxRecDepth 10000 in
theorem g_184_269 : GO x d 184 Q 269 [v0, v1, v2, v3] (.inl b :: .inl a :: st) I J = GO x d 184 Q 270 [v0, v1, v2, v3] (.inl (a + b) :: st) I J := ge (A := (8, 270, 0, 0, 0)) rfl
set_option maxRecDepth 10000 in
theorem h_184_270 : GO x d 184 Q 270 [v0, v1, v2, v3] (.inl a :: .inr (.inr (.inr q)) :: st) I J = (q < 4 ∧ 0 ≤ a ∧ a < (roA x q).1 ∧ GO x d 184 Q 271 [v0, v1, v2, v3] (.inl ((roA x q).2 a.toNat) :: st) I J) := ge (A := (44, 271, 0, 0, 0)) rfl
set_option maxRecDepth 10000 in
theorem g_184_270 : GO x d 184 Q 270 [v0, v1, v2, v3] (.inl a :: .inr (.inr (.inl r)) :: st) I J = (okA r 20 ∧ 0 ≤ a ∧ a < lnN r ∧ GO x d 184 Q 271 [v0, v1, v2, v3] (.inl (I r a) :: st) I J) := ge (A := (44, 271, 0, 0, 0)) rfl
set_option maxRecDepth 10000 in
theorem g_184_271 : GO x d 184 Q 271 [some (.inr (.inr w)), v1, v2, v3] st I J = GO x d 184 Q 272 [some (.inr (.inr w)), v1, v2, v3] (.inr (.inr w) :: st) I J := ge (A := (2, 272, 0, 0, 0)) rfl
set_option maxRecDepth 10000 in
theorem g_184_272 : GO x d 184 Q 272 [v0, v1, v2, some (.inl a)] st I J = GO x d 184 Q 273 [v0, v1, v2, some (.inl a)] (.inl a :: st) I J := ge (A := (1, 273, 3, 0, 0)) rfl
set_option maxRecDepth 10000 in
theorem g_184_273 : GO x d 184 Q 273 [v0, v1, v2, v3] st I J = GO x d 184 Q 274 [v0, v1, v2, v3] (.inl (5) :: st) I J := ge (A := (0, 274, 0, 0, 5)) rfl
set_option maxRecDepth 10000 in
theorem g_184_274 : GO x d 184 Q 274 [v0, v1, v2, v3] (.inl b :: .inl a :: st) I J = GO x d 184 Q 275 [v0, v1, v2, v3] (.inl (a + b) :: st) I J := ge (A := (8, 275, 0, 0, 0)) rfl
set_option maxRecDepth 10000 in
theorem h_184_275 : GO x d 184 Q 275 [v0, v1, v2, v3] (.inl a :: .inr (.inr (.inr q)) :: st) I J = (q < 4 ∧ 0 ≤ a ∧ a < (roA x q).1 ∧ GO x d 184 Q 276 [v0, v1, v2, v3] (.inl ((roA x q).2 a.toNat) :: st) I J) := ge (A := (44, 276, 0, 0, 0)) rfl
set_option maxRecDepth 10000 in
theorem g_184_275 : GO x d 184 Q 275 [v0, v1, v2, v3] (.inl a :: .inr (.inr (.inl r)) :: st) I J = (okA r 20 ∧ 0 ≤ a ∧ a < lnN r ∧ GO x d 184 Q 276 [v0, v1, v2, v3] (.inl (I r a) :: st) I J) := ge (A := (44, 276, 0, 0, 0)) rfl
set_option maxRecDepth 10000 in
theorem g_184_276 : GO x d 184 Q 276 [v0, v1, v2, v3] [.inl i0, .inl i1, .inl i2, .inl i3, .inl i4, .inr (.inr (.inl r))] I J = (okO r 9 ∧ EX x d 73 [.inr (.inr (.inl r)), .inl i4, .inl i3, .inl i2, .inl i1, .inl i0] I J (fun r1 I1 J1 => GO x d 184 Q 279 [v0, v1, v2, v3] (r1.toList ++ []) I1 J1)) := (ge (A := (53, 279, 73, 5, 0)) rfl).trans (gtrue (Nat.le_of_ble_eq_true rfl))
set_option maxRecDepth 10000 in
theorem g_184_279 : GO x d 184 Q 279 [v0, v1, some (.inr (.inr w)), v3] st I J = GO x d 184 Q 280 [v0, v1, some (.inr (.inr w)), v3] (.inr (.inr w) :: st) I J := ge (A := (2, 280, 2, 0, 0)) rfl
set_option maxRecDepth 10000 in
theorem g_184_280 : GO x d 184 Q 280 [some (.inr (.inr w)), v1, v2, v3] st I J = GO x d 184 Q 281 [some (.inr (.inr w)), v1, v2, v3] (.inr (.inr w) :: st) I J := ge (A := (2, 281, 0, 0, 0)) rfl
set_option maxRecDepth 10000 in
theorem g_184_281 : GO x d 184 Q 281 [v0, v1, v2, some (.inl a)] st I J = GO x d 184 Q 282 [v0, v1, v2, some (.inl a)] (.inl a :: st) I J := ge (A := (1, 282, 3, 0, 0)) rfl
set_option maxRecDepth 10000 in
theorem g_184_282 : GO x d 184 Q 282 [v0, v1, v2, v3] st I J = GO x d 184 Q 283 [v0, v1, v2, v3] (.inl (1) :: st) I J := ge (A := (0, 283, 0, 0, 1)) rfl
set_option maxRecDepth 10000 in
theorem g_184_283 : GO x d 184 Q 283 [v0, v1, v2, v3] (.inl b :: .inl a :: st) I J = GO x d 184 Q 284 [v0, v1, v2, v3] (.inl (a + b) :: st) I J := ge (A := (8, 284, 0, 0, 0)) rfl
set_option maxRecDepth 10000 in
theorem h_184_284 : GO x d 184 Q 284 [v0, v1, v2, v3] (.inl a :: .inr (.inr (.inr q)) :: st) I J = (q < 4 ∧ 0 ≤ a ∧ a < (roA x q).1 ∧ GO x d 184 Q 285 [v0, v1, v2, v3] (.inl ((roA x q).2 a.toNat) :: st) I J) := ge (A := (44, 285, 0, 0, 0)) rfl
set_option maxRecDepth 10000 in
theorem g_184_284 : GO x d 184 Q 284 [v0, v1, v2, v3] (.inl a :: .inr (.inr (.inl r)) :: st) I J = (okA r 20 ∧ 0 ≤ a ∧ a < lnN r ∧ GO x d 184 Q 285 [v0, v1, v2, v3] (.inl (I r a) :: st) I J) := ge (A := (44, 285, 0, 0, 0)) rfl
set_option maxRecDepth 10000 in
theorem g_184_285 : GO x d 184 Q 285 [some (.inr (.inr w)), v1, v2, v3] st I J = GO x d 184 Q 286 [some (.inr (.inr w)), v1, v2, v3] (.inr (.inr w) :: st) I J := ge (A := (2, 286, 0, 0, 0)) rfl
set_option maxRecDepth 10000 in
theorem g_184_286 : GO x d 184 Q 286 [v0, v1, v2, some (.inl a)] st I J = GO x d 184 Q 287 [v0, v1, v2, some (.inl a)] (.inl a :: st) I J := ge (A := (1, 287, 3, 0, 0)) rfl
set_option maxRecDepth 10000 in
theorem g_184_287 : GO x d 184 Q 287 [v0, v1, v2, v3] st I J = GO x d 184 Q 288 [v0, v1, v2, v3] (.inl (2) :: st) I J := ge (A := (0, 288, 0, 0, 2)) rfl
set_option maxRecDepth 10000 in
theorem g_184_288 : GO x d 184 Q 288 [v0, v1, v2, v3] (.inl b :: .inl a :: st) I J = GO x d 184 Q 289 [v0, v1, v2, v3] (.inl (a + b) :: st) I J := ge (A := (8, 289, 0, 0, 0)) rfl
set_option maxRecDepth 10000 in
theorem h_184_289 : GO x d 184 Q 289 [v0, v1, v2, v3] (.inl a :: .inr (.inr (.inr q)) :: st) I J = (q < 4 ∧ 0 ≤ a ∧ a < (roA x q).1 ∧ GO x d 184 Q 290 [v0, v1, v2, v3] (.inl ((roA x q).2 a.toNat) :: st) I J) := ge (A := (44, 290, 0, 0, 0)) rfl
set_option maxRecDepth 10000 in
theorem g_184_289 : GO x d 184 Q 289 [v0, v1, v2, v3] (.inl a :: .inr (.inr (.inl r)) :: st) I J = (okA r 20 ∧ 0 ≤ a ∧ a < lnN r ∧ GO x d 184 Q 290 [v0, v1, v2, v3] (.inl (I r a) :: st) I J) := ge (A := (44, 290, 0, 0, 0)) rfl
set_option maxRecDepth 10000 in
theorem g_184_290 : GO x d 184 Q 290 [some (.inr (.inr w)), v1, v2, v3] st I J = GO x d 184 Q 291 [some (.inr (.inr w)), v1, v2, v3] (.inr (.inr w) :: st) I J := ge (A := (2, 291, 0, 0, 0)) rfl
set_option maxRecDepth 10000 in
theorem g_184_291 : GO x d 184 Q 291 [v0, v1, v2, some (.inl a)] st I J = GO x d 184 Q 292 [v0, v1, v2, some (.inl a)] (.inl a :: st) I J := ge (A := (1, 292, 3, 0, 0)) rfl
set_option maxRecDepth 10000 in
theorem g_184_292 : GO x d 184 Q 292 [v0, v1, v2, v3] st I J = GO x d 184 Q 293 [v0, v1, v2, v3] (.inl (3) :: st) I J := ge (A := (0, 293, 0, 0, 3)) rfl
set_option maxRecDepth 10000 in
theorem g_184_293 : GO x d 184 Q 293 [v0, v1, v2, v3] (.inl b :: .inl a :: st) I J = GO x d 184 Q 294 [v0, v1, v2, v3] (.inl (a + b) :: st) I J := ge (A := (8, 294, 0, 0, 0)) rfl
set_option maxRecDepth 10000 in
theorem h_184_294 : GO x d 184 Q 294 [v0, v1, v2, v3] (.inl a :: .inr (.inr (.inr q)) :: st) I J = (q < 4 ∧ 0 ≤ a ∧ a < (roA x q).1 ∧ GO x d 184 Q 295 [v0, v1, v2, v3] (.inl ((roA x q).2 a.toNat) :: st) I J) := ge (A := (44, 295, 0, 0, 0)) rfl
set_option maxRecDepth 10000 in
theorem g_184_294 : GO x d 184 Q 294 [v0, v1, v2, v3] (.inl a :: .inr (.inr (.inl r)) :: st) I J = (okA r 20 ∧ 0 ≤ a ∧ a < lnN r ∧ GO x d 184 Q 295 [v0, v1, v2, v3] (.inl (I r a) :: st) I J) := ge (A := (44, 295, 0, 0, 0)) rfl
set_option maxRecDepth 10000 in
theorem g_184_295 : GO x d 184 Q 295 [some (.inr (.inr w)), v1, v2, v3] st I J = GO x d 184 Q 296 [some (.inr (.inr w)), v1, v2, v3] (.inr (.inr w) :: st) I J := ge (A := (2, 296, 0, 0, 0)) rfl
set_option maxRecDepth 10000 in
theorem g_184_296 : GO x d 184 Q 296 [v0, v1, v2, some (.inl a)] st I J = GO x d 184 Q 297 [v0, v1, v2, some (.inl a)] (.inl a :: st) I J := ge (A := (1, 297, 3, 0, 0)) rfl
set_option maxRecDepth 10000 in
theorem g_184_297 : GO x d 184 Q 297 [v0, v1, v2, v3] st I J = GO x d 184 Q 298 [v0, v1, v2, v3] (.inl (4) :: st) I J := ge (A := (0, 298, 0, 0, 4)) rfl
set_option maxRecDepth 10000 in
theorem g_184_298 : GO x d 184 Q 298 [v0, v1, v2, v3] (.inl b :: .inl a :: st) I J = GO x d 184 Q 299 [v0, v1, v2, v3] (.inl (a + b) :: st) I J := ge (A := (8, 299, 0, 0, 0)) rfl
set_option maxRecDepth 10000 in
theorem h_184_299 : GO x d 184 Q 299 [v0, v1, v2, v3] (.inl a :: .inr (.inr (.inr q)) :: st) I J = (q < 4 ∧ 0 ≤ a ∧ a < (roA x q).1 ∧ GO x d 184 Q 300 [v0, v1, v2, v3] (.inl ((roA x q).2 a.toNat) :: st) I J) := ge (A := (44, 300, 0, 0, 0)) rfl
set_option maxRecDepth 10000 in
theorem g_184_299 : GO x d 184 Q 299 [v0, v1, v2, v3] (.inl a :: .inr (.inr (.inl r)) :: st) I J = (okA r 20 ∧ 0 ≤ a ∧ a < lnN r ∧ GO x d 184 Q 300 [v0, v1, v2, v3] (.inl (I r a) :: st) I J) := ge (A := (44, 300, 0, 0, 0)) rfl
set_option maxRecDepth 10000 in
theorem g_184_300 : GO x d 184 Q 300 [some (.inr (.inr w)), v1, v2, v3] st I J = GO x d 184 Q 301 [some (.inr (.inr w)), v1, v2, v3] (.inr (.inr w) :: st) I J := ge (A := (2, 301, 0, 0, 0)) rfl
set_option maxRecDepth 10000 in
theorem g_184_301 : GO x d 184 Q 301 [v0, v1, v2, some (.inl a)] st I J = GO x d 184 Q 302 [v0, v1, v2, some (.inl a)] (.inl a :: st) I J := ge (A := (1, 302, 3, 0, 0)) rfl
set_option maxRecDepth 10000 in
theorem g_184_302 : GO x d 184 Q 302 [v0, v1, v2, v3] st I J = GO x d 184 Q 303 [v0, v1, v2, v3] (.inl (5) :: st) I J := ge (A := (0, 303, 0, 0, 5)) rfl
set_option maxRecDepth 10000 in
theorem g_184_303 : GO x d 184 Q 303 [v0, v1, v2, v3] (.inl b :: .inl a :: st) I J = GO x d 184 Q 304 [v0, v1, v2, v3] (.inl (a + b) :: st) I J := ge (A := (8, 304, 0, 0, 0)) rfl
set_option maxRecDepth 10000 in
theorem h_184_304 : GO x d 184 Q 304 [v0, v1, v2, v3] (.inl a :: .inr (.inr (.inr q)) :: st) I J = (q < 4 ∧ 0 ≤ a ∧ a < (roA x q).1 ∧ GO x d 184 Q 305 [v0, v1, v2, v3] (.inl ((roA x q).2 a.toNat) :: st) I J) := ge (A := (44, 305, 0, 0, 0)) rfl
set_option maxRecDepth 10000 in
theorem g_184_304 : GO x d 184 Q 304 [v0, v1, v2, v3] (.inl a :: .inr (.inr (.inl r)) :: st) I J = (okA r 20 ∧ 0 ≤ a ∧ a < lnN r ∧ GO x d 184 Q 305 [v0, v1, v2, v3] (.inl (I r a) :: st) I J) := ge (A := (44, 305, 0, 0, 0)) rfl
set_option maxRecDepth 10000 in
theorem g_184_305 : GO x d 184 Q 305 [v0, v1, v2, v3] [.inl i0, .inl i1, .inl i2, .inl i3, .inl i4, .inr (.inr (.inl r)), .inl i5] I J = (okO r 10 ∧ EX x d 118 [.inr (.inr (.inl r)), .inl i4, .inl i3, .inl i2, .inl i1, .inl i0] I J (fun r1 I1 J1 => GO x d 184 Q 308 [v0, v1, v2, v3] (r1.toList ++ [.inl i5]) I1 J1)) := (ge (A := (53, 308, 118, 5, 0)) rfl).trans (gtrue (Nat.le_of_ble_eq_true rfl))
set_option maxRecDepth 10000 in
theorem g_184_308 : GO x d 184 Q 308 [v0, v1, v2, v3] (.inl b :: .inl a :: st) I J = (inR a ∧ inR b ∧ if a = b then GO x d 184 Q 961 [v0, v1, v2, v3] st I J else GO x d 184 Q 311 [v0, v1, v2, v3] st I J) := (ge (A := (34, 311, 961, 0, 0)) rfl).trans (gic (p := a = b) inferInstance)
set_option maxRecDepth 10000 in
theorem g_184_311 : GO x d 184 Q 311 [v0, v1, v2, v3] st I J = GO x d 184 Q 312 [v0, v1, v2, v3] (.inl (0) :: st) I J := ge (A := (0, 312, 0, 0, 0)) rfl
set_option maxRecDepth 10000 in
theorem g_184_312 : GO x d 184 Q 312 [v0, v1, v2, v3] [.inl a] I J = (ret01 a ∧ Q (some (.inl a)) I J) := ge (A := (56, 313, 0, 0, 0)) rfl
set_option maxRecDepth 10000 in
theorem g_184_313 : GO x d 184 Q 313 [v0, some (.inr (.inr w)), v2, v3] st I J = GO x d 184 Q 314 [v0, some (.inr (.inr w)), v2, v3] (.inr (.inr w) :: st) I J := ge (A := (2, 314, 1, 0, 0)) rfl
set_option maxRecDepth 10000 in
theorem g_184_314 : GO x d 184 Q 314 [some (.inr (.inr w)), v1, v2, v3] st I J = GO x d 184 Q 315 [some (.inr (.inr w)), v1, v2, v3] (.inr (.inr w) :: st) I J := ge (A := (2, 315, 0, 0, 0)) rfl
set_option maxRecDepth 10000 in
theorem g_184_315 : GO x d 184 Q 315 [v0, v1, v2, some (.inl a)] st I J = GO x d 184 Q 316 [v0, v1, v2, some (.inl a)] (.inl a :: st) I J := ge (A := (1, 316, 3, 0, 0)) rfl
set_option maxRecDepth 10000 in
theorem g_184_316 : GO x d 184 Q 316 [v0, v1, v2, v3] st I J = GO x d 184 Q 317 [v0, v1, v2, v3] (.inl (1) :: st) I J := ge (A := (0, 317, 0, 0, 1)) rfl
set_option maxRecDepth 10000 in
theorem g_184_317 : GO x d 184 Q 317 [v0, v1, v2, v3] (.inl b :: .inl a :: st) I J = GO x d 184 Q 318 [v0, v1, v2, v3] (.inl (a + b) :: st) I J := ge (A := (8, 318, 0, 0, 0)) rfl
set_option maxRecDepth 10000 in
theorem h_184_318 : GO x d 184 Q 318 [v0, v1, v2, v3] (.inl a :: .inr (.inr (.inr q)) :: st) I J = (q < 4 ∧ 0 ≤ a ∧ a < (roA x q).1 ∧ GO x d 184 Q 319 [v0, v1, v2, v3] (.inl ((roA x q).2 a.toNat) :: st) I J) := ge (A := (44, 319, 0, 0, 0)) rfl
set_option maxRecDepth 10000 in
theorem g_184_318 : GO x d 184 Q 318 [v0, v1, v2, v3] (.inl a :: .inr (.inr (.inl r)) :: st) I J = (okA r 20 ∧ 0 ≤ a ∧ a < lnN r ∧ GO x d 184 Q 319 [v0, v1, v2, v3] (.inl (I r a) :: st) I J) := ge (A := (44, 319, 0, 0, 0)) rfl
set_option maxRecDepth 10000 in
theorem g_184_319 : GO x d 184 Q 319 [v0, v1, v2, v3] [.inl i0, .inr (.inr (.inl r))] I J = (okO r 9 ∧ EX x d 74 [.inr (.inr (.inl r)), .inl i0] I J (fun r1 I1 J1 => GO x d 184 Q 322 [v0, v1, v2, v3] (r1.toList ++ []) I1 J1)) := (ge (A := (53, 322, 74, 1, 0)) rfl).trans (gtrue (Nat.le_of_ble_eq_true rfl))
set_option maxRecDepth 10000 in
theorem g_184_322 : GO x d 184 Q 322 [v0, v1, some (.inr (.inr w)), v3] st I J = GO x d 184 Q 323 [v0, v1, some (.inr (.inr w)), v3] (.inr (.inr w) :: st) I J := ge (A := (2, 323, 2, 0, 0)) rfl
set_option maxRecDepth 10000 in
theorem g_184_323 : GO x d 184 Q 323 [some (.inr (.inr w)), v1, v2, v3] st I J = GO x d 184 Q 324 [some (.inr (.inr w)), v1, v2, v3] (.inr (.inr w) :: st) I J := ge (A := (2, 324, 0, 0, 0)) rfl
set_option maxRecDepth 10000 in
theorem g_184_324 : GO x d 184 Q 324 [v0, v1, v2, some (.inl a)] st I J = GO x d 184 Q 325 [v0, v1, v2, some (.inl a)] (.inl a :: st) I J := ge (A := (1, 325, 3, 0, 0)) rfl
set_option maxRecDepth 10000 in
theorem g_184_325 : GO x d 184 Q 325 [v0, v1, v2, v3] st I J = GO x d 184 Q 326 [v0, v1, v2, v3] (.inl (1) :: st) I J := ge (A := (0, 326, 0, 0, 1)) rfl
set_option maxRecDepth 10000 in
theorem g_184_326 : GO x d 184 Q 326 [v0, v1, v2, v3] (.inl b :: .inl a :: st) I J = GO x d 184 Q 327 [v0, v1, v2, v3] (.inl (a + b) :: st) I J := ge (A := (8, 327, 0, 0, 0)) rfl
set_option maxRecDepth 10000 in
theorem h_184_327 : GO x d 184 Q 327 [v0, v1, v2, v3] (.inl a :: .inr (.inr (.inr q)) :: st) I J = (q < 4 ∧ 0 ≤ a ∧ a < (roA x q).1 ∧ GO x d 184 Q 328 [v0, v1, v2, v3] (.inl ((roA x q).2 a.toNat) :: st) I J) := ge (A := (44, 328, 0, 0, 0)) rfl
set_option maxRecDepth 10000 in
theorem g_184_327 : GO x d 184 Q 327 [v0, v1, v2, v3] (.inl a :: .inr (.inr (.inl r)) :: st) I J = (okA r 20 ∧ 0 ≤ a ∧ a < lnN r ∧ GO x d 184 Q 328 [v0, v1, v2, v3] (.inl (I r a) :: st) I J) := ge (A := (44, 328, 0, 0, 0)) rfl
set_option maxRecDepth 10000 in
theorem g_184_328 : GO x d 184 Q 328 [v0, v1, v2, v3] [.inl i0, .inr (.inr (.inl r)), .inl i1] I J = (okO r 10 ∧ EX x d 119 [.inr (.inr (.inl r)), .inl i0] I J (fun r1 I1 J1 => GO x d 184 Q 331 [v0, v1, v2, v3] (r1.toList ++ [.inl i1]) I1 J1)) := (ge (A := (53, 331, 119, 1, 0)) rfl).trans (gtrue (Nat.le_of_ble_eq_true rfl))
set_option maxRecDepth 10000 in
theorem g_184_331 : GO x d 184 Q 331 [v0, v1, v2, v3] (.inl b :: .inl a :: st) I J = (inR a ∧ inR b ∧ if a = b then GO x d 184 Q 961 [v0, v1, v2, v3] st I J else GO x d 184 Q 334 [v0, v1, v2, v3] st I J) := (ge (A := (34, 334, 961, 0, 0)) rfl).trans (gic (p := a = b) inferInstance)
set_option maxRecDepth 10000 in
theorem g_184_334 : GO x d 184 Q 334 [v0, v1, v2, v3] st I J = GO x d 184 Q 335 [v0, v1, v2, v3] (.inl (0) :: st) I J := ge (A := (0, 335, 0, 0, 0)) rfl
set_option maxRecDepth 10000 in
theorem g_184_335 : GO x d 184 Q 335 [v0, v1, v2, v3] [.inl a] I J = (ret01 a ∧ Q (some (.inl a)) I J) := ge (A := (56, 336, 0, 0, 0)) rfl
set_option maxRecDepth 10000 in
theorem g_184_336 : GO x d 184 Q 336 [v0, some (.inr (.inr w)), v2, v3] st I J = GO x d 184 Q 337 [v0, some (.inr (.inr w)), v2, v3] (.inr (.inr w) :: st) I J := ge (A := (2, 337, 1, 0, 0)) rfl
set_option maxRecDepth 10000 in
theorem g_184_337 : GO x d 184 Q 337 [some (.inr (.inr w)), v1, v2, v3] st I J = GO x d 184 Q 338 [some (.inr (.inr w)), v1, v2, v3] (.inr (.inr w) :: st) I J := ge (A := (2, 338, 0, 0, 0)) rfl
set_option maxRecDepth 10000 in
theorem g_184_338 : GO x d 184 Q 338 [v0, v1, v2, some (.inl a)] st I J = GO x d 184 Q 339 [v0, v1, v2, some (.inl a)] (.inl a :: st) I J := ge (A := (1, 339, 3, 0, 0)) rfl
set_option maxRecDepth 10000 in
theorem g_184_339 : GO x d 184 Q 339 [v0, v1, v2, v3] st I J = GO x d 184 Q 340 [v0, v1, v2, v3] (.inl (1) :: st) I J := ge (A := (0, 340, 0, 0, 1)) rfl
set_option maxRecDepth 10000 in
theorem g_184_340 : GO x d 184 Q 340 [v0, v1, v2, v3] (.inl b :: .inl a :: st) I J = GO x d 184 Q 341 [v0, v1, v2, v3] (.inl (a + b) :: st) I J := ge (A := (8, 341, 0, 0, 0)) rfl
set_option maxRecDepth 10000 in
theorem h_184_341 : GO x d 184 Q 341 [v0, v1, v2, v3] (.inl a :: .inr (.inr (.inr q)) :: st) I J = (q < 4 ∧ 0 ≤ a ∧ a < (roA x q).1 ∧ GO x d 184 Q 342 [v0, v1, v2, v3] (.inl ((roA x q).2 a.toNat) :: st) I J) := ge (A := (44, 342, 0, 0, 0)) rfl
set_option maxRecDepth 10000 in
theorem g_184_341 : GO x d 184 Q 341 [v0, v1, v2, v3] (.inl a :: .inr (.inr (.inl r)) :: st) I J = (okA r 20 ∧ 0 ≤ a ∧ a < lnN r ∧ GO x d 184 Q 342 [v0, v1, v2, v3] (.inl (I r a) :: st) I J) := ge (A := (44, 342, 0, 0, 0)) rfl
set_option maxRecDepth 10000 in
theorem g_184_342 : GO x d 184 Q 342 [v0, v1, v2, v3] [.inl i0, .inr (.inr (.inl r))] I J = (okO r 9 ∧ EX x d 78 [.inr (.inr (.inl r)), .inl i0] I J (fun r1 I1 J1 => GO x d 184 Q 345 [v0, v1, v2, v3] (r1.toList ++ []) I1 J1)) := (ge (A := (53, 345, 78, 1, 0)) rfl).trans (gtrue (Nat.le_of_ble_eq_true rfl))
set_option maxRecDepth 10000 in
theorem g_184_345 : GO x d 184 Q 345 [v0, v1, some (.inr (.inr w)), v3] st I J = GO x d 184 Q 346 [v0, v1, some (.inr (.inr w)), v3] (.inr (.inr w) :: st) I J := ge (A := (2, 346, 2, 0, 0)) rfl
set_option maxRecDepth 10000 in
theorem g_184_346 : GO x d 184 Q 346 [some (.inr (.inr w)), v1, v2, v3] st I J = GO x d 184 Q 347 [some (.inr (.inr w)), v1, v2, v3] (.inr (.inr w) :: st) I J := ge (A := (2, 347, 0, 0, 0)) rfl
set_option maxRecDepth 10000 in
theorem g_184_347 : GO x d 184 Q 347 [v0, v1, v2, some (.inl a)] st I J = GO x d 184 Q 348 [v0, v1, v2, some (.inl a)] (.inl a :: st) I J := ge (A := (1, 348, 3, 0, 0)) rfl
set_option maxRecDepth 10000 in
theorem g_184_348 : GO x d 184 Q 348 [v0, v1, v2, v3] st I J = GO x d 184 Q 349 [v0, v1, v2, v3] (.inl (1) :: st) I J := ge (A := (0, 349, 0, 0, 1)) rfl
set_option maxRecDepth 10000 in
theorem g_184_349 : GO x d 184 Q 349 [v0, v1, v2, v3] (.inl b :: .inl a :: st) I J = GO x d 184 Q 350 [v0, v1, v2, v3] (.inl (a + b) :: st) I J := ge (A := (8, 350, 0, 0, 0)) rfl
set_option maxRecDepth 10000 in
theorem h_184_350 : GO x d 184 Q 350 [v0, v1, v2, v3] (.inl a :: .inr (.inr (.inr q)) :: st) I J = (q < 4 ∧ 0 ≤ a ∧ a < (roA x q).1 ∧ GO x d 184 Q 351 [v0, v1, v2, v3] (.inl ((roA x q).2 a.toNat) :: st) I J) := ge (A := (44, 351, 0, 0, 0)) rfl
set_option maxRecDepth 10000 in
theorem g_184_350 : GO x d 184 Q 350 [v0, v1, v2, v3] (.inl a :: .inr (.inr (.inl r)) :: st) I J = (okA r 20 ∧ 0 ≤ a ∧ a < lnN r ∧ GO x d 184 Q 351 [v0, v1, v2, v3] (.inl (I r a) :: st) I J) := ge (A := (44, 351, 0, 0, 0)) rfl
set_option maxRecDepth 10000 in
theorem g_184_351 : GO x d 184 Q 351 [v0, v1, v2, v3] [.inl i0, .inr (.inr (.inl r)), .inl i1] I J = (okO r 10 ∧ EX x d 120 [.inr (.inr (.inl r)), .inl i0] I J (fun r1 I1 J1 => GO x d 184 Q 354 [v0, v1, v2, v3] (r1.toList ++ [.inl i1]) I1 J1)) := (ge (A := (53, 354, 120, 1, 0)) rfl).trans (gtrue (Nat.le_of_ble_eq_true rfl))
set_option maxRecDepth 10000 in
theorem g_184_354 : GO x d 184 Q 354 [v0, v1, v2, v3] (.inl b :: .inl a :: st) I J = (inR a ∧ inR b ∧ if a = b then GO x d 184 Q 961 [v0, v1, v2, v3] st I J else GO x d 184 Q 357 [v0, v1, v2, v3] st I J) := (ge (A := (34, 357, 961, 0, 0)) rfl).trans (gic (p := a = b) inferInstance)
set_option maxRecDepth 10000 in
theorem g_184_357 : GO x d 184 Q 357 [v0, v1, v2, v3] st I J = GO x d 184 Q 358 [v0, v1, v2, v3] (.inl (0) :: st) I J := ge (A := (0, 358, 0, 0, 0)) rfl
set_option maxRecDepth 10000 in
theorem g_184_358 : GO x d 184 Q 358 [v0, v1, v2, v3] [.inl a] I J = (ret01 a ∧ Q (some (.inl a)) I J) := ge (A := (56, 359, 0, 0, 0)) rfl
set_option maxRecDepth 10000 in
theorem g_184_359 : GO x d 184 Q 359 [v0, some (.inr (.inr w)), v2, v3] st I J = GO x d 184 Q 360 [v0, some (.inr (.inr w)), v2, v3] (.inr (.inr w) :: st) I J := ge (A := (2, 360, 1, 0, 0)) rfl
set_option maxRecDepth 10000 in
theorem g_184_360 : GO x d 184 Q 360 [v0, v1, v2, v3] [.inr (.inr (.inl r))] I J = (okO r 9 ∧ EX x d 79 [.inr (.inr (.inl r))] I J (fun r1 I1 J1 => GO x d 184 Q 363 [v0, v1, v2, v3] (r1.toList ++ []) I1 J1)) := (ge (A := (53, 363, 79, 0, 0)) rfl).trans (gtrue (Nat.le_of_ble_eq_true rfl))
set_option maxRecDepth 10000 in
theorem g_184_363 : GO x d 184 Q 363 [v0, v1, some (.inr (.inr w)), v3] st I J = GO x d 184 Q 364 [v0, v1, some (.inr (.inr w)), v3] (.inr (.inr w) :: st) I J := ge (A := (2, 364, 2, 0, 0)) rfl
set_option maxRecDepth 10000 in
theorem g_184_364 : GO x d 184 Q 364 [v0, v1, v2, v3] [.inr (.inr (.inl r)), .inl i0] I J = (okO r 10 ∧ EX x d 131 [.inr (.inr (.inl r))] I J (fun r1 I1 J1 => GO x d 184 Q 367 [v0, v1, v2, v3] (r1.toList ++ [.inl i0]) I1 J1)) := (ge (A := (53, 367, 131, 0, 0)) rfl).trans (gtrue (Nat.le_of_ble_eq_true rfl))
set_option maxRecDepth 10000 in
theorem g_184_367 : GO x d 184 Q 367 [v0, v1, v2, v3] (.inl b :: .inl a :: st) I J = (inR a ∧ inR b ∧ if a = b then GO x d 184 Q 961 [v0, v1, v2, v3] st I J else GO x d 184 Q 370 [v0, v1, v2, v3] st I J) := (ge (A := (34, 370, 961, 0, 0)) rfl).trans (gic (p := a = b) inferInstance)
set_option maxRecDepth 10000 in
theorem g_184_370 : GO x d 184 Q 370 [v0, v1, v2, v3] st I J = GO x d 184 Q 371 [v0, v1, v2, v3] (.inl (0) :: st) I J := ge (A := (0, 371, 0, 0, 0)) rfl
set_option maxRecDepth 10000 in
theorem g_184_371 : GO x d 184 Q 371 [v0, v1, v2, v3] [.inl a] I J = (ret01 a ∧ Q (some (.inl a)) I J) := ge (A := (56, 372, 0, 0, 0)) rfl
set_option maxRecDepth 10000 in
theorem g_184_372 : GO x d 184 Q 372 [v0, some (.inr (.inr w)), v2, v3] st I J = GO x d 184 Q 373 [v0, some (.inr (.inr w)), v2, v3] (.inr (.inr w) :: st) I J := ge (A := (2, 373, 1, 0, 0)) rfl
set_option maxRecDepth 10000 in
theorem g_184_373 : GO x d 184 Q 373 [v0, v1, v2, v3] [.inr (.inr (.inl r))] I J = (okO r 9 ∧ EX x d 80 [.inr (.inr (.inl r))] I J (fun r1 I1 J1 => GO x d 184 Q 376 [v0, v1, v2, v3] (r1.toList ++ []) I1 J1)) := (ge (A := (53, 376, 80, 0, 0)) rfl).trans (gtrue (Nat.le_of_ble_eq_true rfl))
set_option maxRecDepth 10000 in
theorem g_184_376 : GO x d 184 Q 376 [v0, v1, some (.inr (.inr w)), v3] st I J = GO x d 184 Q 377 [v0, v1, some (.inr (.inr w)), v3] (.inr (.inr w) :: st) I J := ge (A := (2, 377, 2, 0, 0)) rfl
set_option maxRecDepth 10000 in
theorem g_184_377 : GO x d 184 Q 377 [v0, v1, v2, v3] [.inr (.inr (.inl r)), .inl i0] I J = (okO r 10 ∧ EX x d 132 [.inr (.inr (.inl r))] I J (fun r1 I1 J1 => GO x d 184 Q 380 [v0, v1, v2, v3] (r1.toList ++ [.inl i0]) I1 J1)) := (ge (A := (53, 380, 132, 0, 0)) rfl).trans (gtrue (Nat.le_of_ble_eq_true rfl))
set_option maxRecDepth 10000 in
theorem g_184_380 : GO x d 184 Q 380 [v0, v1, v2, v3] (.inl b :: .inl a :: st) I J = (inR a ∧ inR b ∧ if a = b then GO x d 184 Q 961 [v0, v1, v2, v3] st I J else GO x d 184 Q 383 [v0, v1, v2, v3] st I J) := (ge (A := (34, 383, 961, 0, 0)) rfl).trans (gic (p := a = b) inferInstance)
set_option maxRecDepth 10000 in
theorem g_184_383 : GO x d 184 Q 383 [v0, v1, v2, v3] st I J = GO x d 184 Q 384 [v0, v1, v2, v3] (.inl (0) :: st) I J := ge (A := (0, 384, 0, 0, 0)) rfl
set_option maxRecDepth 10000 in
theorem g_184_384 : GO x d 184 Q 384 [v0, v1, v2, v3] [.inl a] I J = (ret01 a ∧ Q (some (.inl a)) I J) := ge (A := (56, 385, 0, 0, 0)) rfl
set_option maxRecDepth 10000 in
theorem g_184_385 : GO x d 184 Q 385 [v0, some (.inr (.inr w)), v2, v3] st I J = GO x d 184 Q 386 [v0, some (.inr (.inr w)), v2, v3] (.inr (.inr w) :: st) I J := ge (A := (2, 386, 1, 0, 0)) rfl
set_option maxRecDepth 10000 in
theorem g_184_386 : GO x d 184 Q 386 [some (.inr (.inr w)), v1, v2, v3] st I J = GO x d 184 Q 387 [some (.inr (.inr w)), v1, v2, v3] (.inr (.inr w) :: st) I J := ge (A := (2, 387, 0, 0, 0)) rfl
set_option maxRecDepth 10000 in
theorem g_184_387 : GO x d 184 Q 387 [v0, v1, v2, some (.inl a)] st I J = GO x d 184 Q 388 [v0, v1, v2, some (.inl a)] (.inl a :: st) I J := ge (A := (1, 388, 3, 0, 0)) rfl
set_option maxRecDepth 10000 in
theorem g_184_388 : GO x d 184 Q 388 [v0, v1, v2, v3] st I J = GO x d 184 Q 389 [v0, v1, v2, v3] (.inl (1) :: st) I J := ge (A := (0, 389, 0, 0, 1)) rfl
set_option maxRecDepth 10000 in
theorem g_184_389 : GO x d 184 Q 389 [v0, v1, v2, v3] (.inl b :: .inl a :: st) I J = GO x d 184 Q 390 [v0, v1, v2, v3] (.inl (a + b) :: st) I J := ge (A := (8, 390, 0, 0, 0)) rfl
set_option maxRecDepth 10000 in
theorem h_184_390 : GO x d 184 Q 390 [v0, v1, v2, v3] (.inl a :: .inr (.inr (.inr q)) :: st) I J = (q < 4 ∧ 0 ≤ a ∧ a < (roA x q).1 ∧ GO x d 184 Q 391 [v0, v1, v2, v3] (.inl ((roA x q).2 a.toNat) :: st) I J) := ge (A := (44, 391, 0, 0, 0)) rfl
set_option maxRecDepth 10000 in
theorem g_184_390 : GO x d 184 Q 390 [v0, v1, v2, v3] (.inl a :: .inr (.inr (.inl r)) :: st) I J = (okA r 20 ∧ 0 ≤ a ∧ a < lnN r ∧ GO x d 184 Q 391 [v0, v1, v2, v3] (.inl (I r a) :: st) I J) := ge (A := (44, 391, 0, 0, 0)) rfl
set_option maxRecDepth 10000 in
theorem g_184_391 : GO x d 184 Q 391 [some (.inr (.inr w)), v1, v2, v3] st I J = GO x d 184 Q 392 [some (.inr (.inr w)), v1, v2, v3] (.inr (.inr w) :: st) I J := ge (A := (2, 392, 0, 0, 0)) rfl
set_option maxRecDepth 10000 in
theorem g_184_392 : GO x d 184 Q 392 [v0, v1, v2, some (.inl a)] st I J = GO x d 184 Q 393 [v0, v1, v2, some (.inl a)] (.inl a :: st) I J := ge (A := (1, 393, 3, 0, 0)) rfl
set_option maxRecDepth 10000 in
theorem g_184_393 : GO x d 184 Q 393 [v0, v1, v2, v3] st I J = GO x d 184 Q 394 [v0, v1, v2, v3] (.inl (2) :: st) I J := ge (A := (0, 394, 0, 0, 2)) rfl
set_option maxRecDepth 10000 in
theorem g_184_394 : GO x d 184 Q 394 [v0, v1, v2, v3] (.inl b :: .inl a :: st) I J = GO x d 184 Q 395 [v0, v1, v2, v3] (.inl (a + b) :: st) I J := ge (A := (8, 395, 0, 0, 0)) rfl
set_option maxRecDepth 10000 in
theorem h_184_395 : GO x d 184 Q 395 [v0, v1, v2, v3] (.inl a :: .inr (.inr (.inr q)) :: st) I J = (q < 4 ∧ 0 ≤ a ∧ a < (roA x q).1 ∧ GO x d 184 Q 396 [v0, v1, v2, v3] (.inl ((roA x q).2 a.toNat) :: st) I J) := ge (A := (44, 396, 0, 0, 0)) rfl
set_option maxRecDepth 10000 in
theorem g_184_395 : GO x d 184 Q 395 [v0, v1, v2, v3] (.inl a :: .inr (.inr (.inl r)) :: st) I J = (okA r 20 ∧ 0 ≤ a ∧ a < lnN r ∧ GO x d 184 Q 396 [v0, v1, v2, v3] (.inl (I r a) :: st) I J) := ge (A := (44, 396, 0, 0, 0)) rfl
set_option maxRecDepth 10000 in
theorem g_184_396 : GO x d 184 Q 396 [v0, v1, v2, v3] [.inl i0, .inl i1, .inr (.inr (.inl r))] I J = (okO r 9 ∧ EX x d 81 [.inr (.inr (.inl r)), .inl i1, .inl i0] I J (fun r1 I1 J1 => GO x d 184 Q 399 [v0, v1, v2, v3] (r1.toList ++ []) I1 J1)) := (ge (A := (53, 399, 81, 2, 0)) rfl).trans (gtrue (Nat.le_of_ble_eq_true rfl))
set_option maxRecDepth 10000 in
theorem g_184_399 : GO x d 184 Q 399 [v0, v1, some (.inr (.inr w)), v3] st I J = GO x d 184 Q 400 [v0, v1, some (.inr (.inr w)), v3] (.inr (.inr w) :: st) I J := ge (A := (2, 400, 2, 0, 0)) rfl
set_option maxRecDepth 10000 in
theorem g_184_400 : GO x d 184 Q 400 [some (.inr (.inr w)), v1, v2, v3] st I J = GO x d 184 Q 401 [some (.inr (.inr w)), v1, v2, v3] (.inr (.inr w) :: st) I J := ge (A := (2, 401, 0, 0, 0)) rfl
set_option maxRecDepth 10000 in
theorem g_184_401 : GO x d 184 Q 401 [v0, v1, v2, some (.inl a)] st I J = GO x d 184 Q 402 [v0, v1, v2, some (.inl a)] (.inl a :: st) I J := ge (A := (1, 402, 3, 0, 0)) rfl
set_option maxRecDepth 10000 in
theorem g_184_402 : GO x d 184 Q 402 [v0, v1, v2, v3] st I J = GO x d 184 Q 403 [v0, v1, v2, v3] (.inl (1) :: st) I J := ge (A := (0, 403, 0, 0, 1)) rfl
set_option maxRecDepth 10000 in
theorem g_184_403 : GO x d 184 Q 403 [v0, v1, v2, v3] (.inl b :: .inl a :: st) I J = GO x d 184 Q 404 [v0, v1, v2, v3] (.inl (a + b) :: st) I J := ge (A := (8, 404, 0, 0, 0)) rfl
set_option maxRecDepth 10000 in
theorem h_184_404 : GO x d 184 Q 404 [v0, v1, v2, v3] (.inl a :: .inr (.inr (.inr q)) :: st) I J = (q < 4 ∧ 0 ≤ a ∧ a < (roA x q).1 ∧ GO x d 184 Q 405 [v0, v1, v2, v3] (.inl ((roA x q).2 a.toNat) :: st) I J) := ge (A := (44, 405, 0, 0, 0)) rfl
set_option maxRecDepth 10000 in
theorem g_184_404 : GO x d 184 Q 404 [v0, v1, v2, v3] (.inl a :: .inr (.inr (.inl r)) :: st) I J = (okA r 20 ∧ 0 ≤ a ∧ a < lnN r ∧ GO x d 184 Q 405 [v0, v1, v2, v3] (.inl (I r a) :: st) I J) := ge (A := (44, 405, 0, 0, 0)) rfl
set_option maxRecDepth 10000 in
theorem g_184_405 : GO x d 184 Q 405 [some (.inr (.inr w)), v1, v2, v3] st I J = GO x d 184 Q 406 [some (.inr (.inr w)), v1, v2, v3] (.inr (.inr w) :: st) I J := ge (A := (2, 406, 0, 0, 0)) rfl
set_option maxRecDepth 10000 in
theorem g_184_406 : GO x d 184 Q 406 [v0, v1, v2, some (.inl a)] st I J = GO x d 184 Q 407 [v0, v1, v2, some (.inl a)] (.inl a :: st) I J := ge (A := (1, 407, 3, 0, 0)) rfl
set_option maxRecDepth 10000 in
theorem g_184_407 : GO x d 184 Q 407 [v0, v1, v2, v3] st I J = GO x d 184 Q 408 [v0, v1, v2, v3] (.inl (2) :: st) I J := ge (A := (0, 408, 0, 0, 2)) rfl
set_option maxRecDepth 10000 in
theorem g_184_408 : GO x d 184 Q 408 [v0, v1, v2, v3] (.inl b :: .inl a :: st) I J = GO x d 184 Q 409 [v0, v1, v2, v3] (.inl (a + b) :: st) I J := ge (A := (8, 409, 0, 0, 0)) rfl
set_option maxRecDepth 10000 in
theorem h_184_409 : GO x d 184 Q 409 [v0, v1, v2, v3] (.inl a :: .inr (.inr (.inr q)) :: st) I J = (q < 4 ∧ 0 ≤ a ∧ a < (roA x q).1 ∧ GO x d 184 Q 410 [v0, v1, v2, v3] (.inl ((roA x q).2 a.toNat) :: st) I J) := ge (A := (44, 410, 0, 0, 0)) rfl
set_option maxRecDepth 10000 in
theorem g_184_409 : GO x d 184 Q 409 [v0, v1, v2, v3] (.inl a :: .inr (.inr (.inl r)) :: st) I J = (okA r 20 ∧ 0 ≤ a ∧ a < lnN r ∧ GO x d 184 Q 410 [v0, v1, v2, v3] (.inl (I r a) :: st) I J) := ge (A := (44, 410, 0, 0, 0)) rfl
set_option maxRecDepth 10000 in
theorem g_184_410 : GO x d 184 Q 410 [v0, v1, v2, v3] [.inl i0, .inl i1, .inr (.inr (.inl r)), .inl i2] I J = (okO r 10 ∧ EX x d 141 [.inr (.inr (.inl r)), .inl i1, .inl i0] I J (fun r1 I1 J1 => GO x d 184 Q 413 [v0, v1, v2, v3] (r1.toList ++ [.inl i2]) I1 J1)) := (ge (A := (53, 413, 141, 2, 0)) rfl).trans (gtrue (Nat.le_of_ble_eq_true rfl))
set_option maxRecDepth 10000 in
theorem g_184_413 : GO x d 184 Q 413 [v0, v1, v2, v3] (.inl b :: .inl a :: st) I J = (inR a ∧ inR b ∧ if a = b then GO x d 184 Q 961 [v0, v1, v2, v3] st I J else GO x d 184 Q 416 [v0, v1, v2, v3] st I J) := (ge (A := (34, 416, 961, 0, 0)) rfl).trans (gic (p := a = b) inferInstance)
set_option maxRecDepth 10000 in
theorem g_184_416 : GO x d 184 Q 416 [v0, v1, v2, v3] st I J = GO x d 184 Q 417 [v0, v1, v2, v3] (.inl (0) :: st) I J := ge (A := (0, 417, 0, 0, 0)) rfl
set_option maxRecDepth 10000 in
theorem g_184_417 : GO x d 184 Q 417 [v0, v1, v2, v3] [.inl a] I J = (ret01 a ∧ Q (some (.inl a)) I J) := ge (A := (56, 418, 0, 0, 0)) rfl
set_option maxRecDepth 10000 in
theorem g_184_418 : GO x d 184 Q 418 [v0, some (.inr (.inr w)), v2, v3] st I J = GO x d 184 Q 419 [v0, some (.inr (.inr w)), v2, v3] (.inr (.inr w) :: st) I J := ge (A := (2, 419, 1, 0, 0)) rfl
set_option maxRecDepth 10000 in
theorem g_184_419 : GO x d 184 Q 419 [some (.inr (.inr w)), v1, v2, v3] st I J = GO x d 184 Q 420 [some (.inr (.inr w)), v1, v2, v3] (.inr (.inr w) :: st) I J := ge (A := (2, 420, 0, 0, 0)) rfl
set_option maxRecDepth 10000 in
theorem g_184_420 : GO x d 184 Q 420 [v0, v1, v2, some (.inl a)] st I J = GO x d 184 Q 421 [v0, v1, v2, some (.inl a)] (.inl a :: st) I J := ge (A := (1, 421, 3, 0, 0)) rfl
set_option maxRecDepth 10000 in
theorem g_184_421 : GO x d 184 Q 421 [v0, v1, v2, v3] st I J = GO x d 184 Q 422 [v0, v1, v2, v3] (.inl (1) :: st) I J := ge (A := (0, 422, 0, 0, 1)) rfl
set_option maxRecDepth 10000 in
theorem g_184_422 : GO x d 184 Q 422 [v0, v1, v2, v3] (.inl b :: .inl a :: st) I J = GO x d 184 Q 423 [v0, v1, v2, v3] (.inl (a + b) :: st) I J := ge (A := (8, 423, 0, 0, 0)) rfl
set_option maxRecDepth 10000 in
theorem h_184_423 : GO x d 184 Q 423 [v0, v1, v2, v3] (.inl a :: .inr (.inr (.inr q)) :: st) I J = (q < 4 ∧ 0 ≤ a ∧ a < (roA x q).1 ∧ GO x d 184 Q 424 [v0, v1, v2, v3] (.inl ((roA x q).2 a.toNat) :: st) I J) := ge (A := (44, 424, 0, 0, 0)) rfl
set_option maxRecDepth 10000 in
theorem g_184_423 : GO x d 184 Q 423 [v0, v1, v2, v3] (.inl a :: .inr (.inr (.inl r)) :: st) I J = (okA r 20 ∧ 0 ≤ a ∧ a < lnN r ∧ GO x d 184 Q 424 [v0, v1, v2, v3] (.inl (I r a) :: st) I J) := ge (A := (44, 424, 0, 0, 0)) rfl
set_option maxRecDepth 10000 in
theorem g_184_424 : GO x d 184 Q 424 [v0, v1, v2, v3] [.inl i0, .inr (.inr (.inl r))] I J = (okO r 9 ∧ EX x d 82 [.inr (.inr (.inl r)), .inl i0] I J (fun r1 I1 J1 => GO x d 184 Q 427 [v0, v1, v2, v3] (r1.toList ++ []) I1 J1)) := (ge (A := (53, 427, 82, 1, 0)) rfl).trans (gtrue (Nat.le_of_ble_eq_true rfl))
set_option maxRecDepth 10000 in
theorem g_184_427 : GO x d 184 Q 427 [v0, v1, some (.inr (.inr w)), v3] st I J = GO x d 184 Q 428 [v0, v1, some (.inr (.inr w)), v3] (.inr (.inr w) :: st) I J := ge (A := (2, 428, 2, 0, 0)) rfl
set_option maxRecDepth 10000 in
theorem g_184_428 : GO x d 184 Q 428 [some (.inr (.inr w)), v1, v2, v3] st I J = GO x d 184 Q 429 [some (.inr (.inr w)), v1, v2, v3] (.inr (.inr w) :: st) I J := ge (A := (2, 429, 0, 0, 0)) rfl
set_option maxRecDepth 10000 in
theorem g_184_429 : GO x d 184 Q 429 [v0, v1, v2, some (.inl a)] st I J = GO x d 184 Q 430 [v0, v1, v2, some (.inl a)] (.inl a :: st) I J := ge (A := (1, 430, 3, 0, 0)) rfl
set_option maxRecDepth 10000 in
theorem g_184_430 : GO x d 184 Q 430 [v0, v1, v2, v3] st I J = GO x d 184 Q 431 [v0, v1, v2, v3] (.inl (1) :: st) I J := ge (A := (0, 431, 0, 0, 1)) rfl
set_option maxRecDepth 10000 in
theorem g_184_431 : GO x d 184 Q 431 [v0, v1, v2, v3] (.inl b :: .inl a :: st) I J = GO x d 184 Q 432 [v0, v1, v2, v3] (.inl (a + b) :: st) I J := ge (A := (8, 432, 0, 0, 0)) rfl
set_option maxRecDepth 10000 in
theorem h_184_432 : GO x d 184 Q 432 [v0, v1, v2, v3] (.inl a :: .inr (.inr (.inr q)) :: st) I J = (q < 4 ∧ 0 ≤ a ∧ a < (roA x q).1 ∧ GO x d 184 Q 433 [v0, v1, v2, v3] (.inl ((roA x q).2 a.toNat) :: st) I J) := ge (A := (44, 433, 0, 0, 0)) rfl
set_option maxRecDepth 10000 in
theorem g_184_432 : GO x d 184 Q 432 [v0, v1, v2, v3] (.inl a :: .inr (.inr (.inl r)) :: st) I J = (okA r 20 ∧ 0 ≤ a ∧ a < lnN r ∧ GO x d 184 Q 433 [v0, v1, v2, v3] (.inl (I r a) :: st) I J) := ge (A := (44, 433, 0, 0, 0)) rfl
set_option maxRecDepth 10000 in
theorem g_184_433 : GO x d 184 Q 433 [v0, v1, v2, v3] [.inl i0, .inr (.inr (.inl r)), .inl i1] I J = (okO r 10 ∧ EX x d 142 [.inr (.inr (.inl r)), .inl i0] I J (fun r1 I1 J1 => GO x d 184 Q 436 [v0, v1, v2, v3] (r1.toList ++ [.inl i1]) I1 J1)) := (ge (A := (53, 436, 142, 1, 0)) rfl).trans (gtrue (Nat.le_of_ble_eq_true rfl))
set_option maxRecDepth 10000 in
theorem g_184_436 : GO x d 184 Q 436 [v0, v1, v2, v3] (.inl b :: .inl a :: st) I J = (inR a ∧ inR b ∧ if a = b then GO x d 184 Q 961 [v0, v1, v2, v3] st I J else GO x d 184 Q 439 [v0, v1, v2, v3] st I J) := (ge (A := (34, 439, 961, 0, 0)) rfl).trans (gic (p := a = b) inferInstance)
set_option maxRecDepth 10000 in
theorem g_184_439 : GO x d 184 Q 439 [v0, v1, v2, v3] st I J = GO x d 184 Q 440 [v0, v1, v2, v3] (.inl (0) :: st) I J := ge (A := (0, 440, 0, 0, 0)) rfl
set_option maxRecDepth 10000 in
theorem g_184_440 : GO x d 184 Q 440 [v0, v1, v2, v3] [.inl a] I J = (ret01 a ∧ Q (some (.inl a)) I J) := ge (A := (56, 441, 0, 0, 0)) rfl
set_option maxRecDepth 10000 in
theorem g_184_441 : GO x d 184 Q 441 [v0, some (.inr (.inr w)), v2, v3] st I J = GO x d 184 Q 442 [v0, some (.inr (.inr w)), v2, v3] (.inr (.inr w) :: st) I J := ge (A := (2, 442, 1, 0, 0)) rfl
set_option maxRecDepth 10000 in
theorem g_184_442 : GO x d 184 Q 442 [some (.inr (.inr w)), v1, v2, v3] st I J = GO x d 184 Q 443 [some (.inr (.inr w)), v1, v2, v3] (.inr (.inr w) :: st) I J := ge (A := (2, 443, 0, 0, 0)) rfl
set_option maxRecDepth 10000 in
theorem g_184_443 : GO x d 184 Q 443 [v0, v1, v2, some (.inl a)] st I J = GO x d 184 Q 444 [v0, v1, v2, some (.inl a)] (.inl a :: st) I J := ge (A := (1, 444, 3, 0, 0)) rfl
set_option maxRecDepth 10000 in
theorem g_184_444 : GO x d 184 Q 444 [v0, v1, v2, v3] st I J = GO x d 184 Q 445 [v0, v1, v2, v3] (.inl (1) :: st) I J := ge (A := (0, 445, 0, 0, 1)) rfl
set_option maxRecDepth 10000 in
theorem g_184_445 : GO x d 184 Q 445 [v0, v1, v2, v3] (.inl b :: .inl a :: st) I J = GO x d 184 Q 446 [v0, v1, v2, v3] (.inl (a + b) :: st) I J := ge (A := (8, 446, 0, 0, 0)) rfl
set_option maxRecDepth 10000 in
theorem h_184_446 : GO x d 184 Q 446 [v0, v1, v2, v3] (.inl a :: .inr (.inr (.inr q)) :: st) I J = (q < 4 ∧ 0 ≤ a ∧ a < (roA x q).1 ∧ GO x d 184 Q 447 [v0, v1, v2, v3] (.inl ((roA x q).2 a.toNat) :: st) I J) := ge (A := (44, 447, 0, 0, 0)) rfl
set_option maxRecDepth 10000 in
theorem g_184_446 : GO x d 184 Q 446 [v0, v1, v2, v3] (.inl a :: .inr (.inr (.inl r)) :: st) I J = (okA r 20 ∧ 0 ≤ a ∧ a < lnN r ∧ GO x d 184 Q 447 [v0, v1, v2, v3] (.inl (I r a) :: st) I J) := ge (A := (44, 447, 0, 0, 0)) rfl
set_option maxRecDepth 10000 in
theorem g_184_447 : GO x d 184 Q 447 [v0, v1, v2, v3] [.inl i0, .inr (.inr (.inl r))] I J = (okO r 9 ∧ EX x d 83 [.inr (.inr (.inl r)), .inl i0] I J (fun r1 I1 J1 => GO x d 184 Q 450 [v0, v1, v2, v3] (r1.toList ++ []) I1 J1)) := (ge (A := (53, 450, 83, 1, 0)) rfl).trans (gtrue (Nat.le_of_ble_eq_true rfl))
set_option maxRecDepth 10000 in
theorem g_184_450 : GO x d 184 Q 450 [v0, v1, some (.inr (.inr w)), v3] st I J = GO x d 184 Q 451 [v0, v1, some (.inr (.inr w)), v3] (.inr (.inr w) :: st) I J := ge (A := (2, 451, 2, 0, 0)) rfl
set_option maxRecDepth 10000 in
theorem g_184_451 : GO x d 184 Q 451 [some (.inr (.inr w)), v1, v2, v3] st I J = GO x d 184 Q 452 [some (.inr (.inr w)), v1, v2, v3] (.inr (.inr w) :: st) I J := ge (A := (2, 452, 0, 0, 0)) rfl
set_option maxRecDepth 10000 in
theorem g_184_452 : GO x d 184 Q 452 [v0, v1, v2, some (.inl a)] st I J = GO x d 184 Q 453 [v0, v1, v2, some (.inl a)] (.inl a :: st) I J := ge (A := (1, 453, 3, 0, 0)) rfl
set_option maxRecDepth 10000 in
theorem g_184_453 : GO x d 184 Q 453 [v0, v1, v2, v3] st I J = GO x d 184 Q 454 [v0, v1, v2, v3] (.inl (1) :: st) I J := ge (A := (0, 454, 0, 0, 1)) rfl
set_option maxRecDepth 10000 in
theorem g_184_454 : GO x d 184 Q 454 [v0, v1, v2, v3] (.inl b :: .inl a :: st) I J = GO x d 184 Q 455 [v0, v1, v2, v3] (.inl (a + b) :: st) I J := ge (A := (8, 455, 0, 0, 0)) rfl
set_option maxRecDepth 10000 in
theorem h_184_455 : GO x d 184 Q 455 [v0, v1, v2, v3] (.inl a :: .inr (.inr (.inr q)) :: st) I J = (q < 4 ∧ 0 ≤ a ∧ a < (roA x q).1 ∧ GO x d 184 Q 456 [v0, v1, v2, v3] (.inl ((roA x q).2 a.toNat) :: st) I J) := ge (A := (44, 456, 0, 0, 0)) rfl
set_option maxRecDepth 10000 in
theorem g_184_455 : GO x d 184 Q 455 [v0, v1, v2, v3] (.inl a :: .inr (.inr (.inl r)) :: st) I J = (okA r 20 ∧ 0 ≤ a ∧ a < lnN r ∧ GO x d 184 Q 456 [v0, v1, v2, v3] (.inl (I r a) :: st) I J) := ge (A := (44, 456, 0, 0, 0)) rfl
set_option maxRecDepth 10000 in
theorem g_184_456 : GO x d 184 Q 456 [v0, v1, v2, v3] [.inl i0, .inr (.inr (.inl r)), .inl i1] I J = (okO r 10 ∧ EX x d 143 [.inr (.inr (.inl r)), .inl i0] I J (fun r1 I1 J1 => GO x d 184 Q 459 [v0, v1, v2, v3] (r1.toList ++ [.inl i1]) I1 J1)) := (ge (A := (53, 459, 143, 1, 0)) rfl).trans (gtrue (Nat.le_of_ble_eq_true rfl))
set_option maxRecDepth 10000 in
theorem g_184_459 : GO x d 184 Q 459 [v0, v1, v2, v3] (.inl b :: .inl a :: st) I J = (inR a ∧ inR b ∧ if a = b then GO x d 184 Q 961 [v0, v1, v2, v3] st I J else GO x d 184 Q 462 [v0, v1, v2, v3] st I J) := (ge (A := (34, 462, 961, 0, 0)) rfl).trans (gic (p := a = b) inferInstance)
set_option maxRecDepth 10000 in
theorem g_184_462 : GO x d 184 Q 462 [v0, v1, v2, v3] st I J = GO x d 184 Q 463 [v0, v1, v2, v3] (.inl (0) :: st) I J := ge (A := (0, 463, 0, 0, 0)) rfl
set_option maxRecDepth 10000 in
theorem g_184_463 : GO x d 184 Q 463 [v0, v1, v2, v3] [.inl a] I J = (ret01 a ∧ Q (some (.inl a)) I J) := ge (A := (56, 464, 0, 0, 0)) rfl
set_option maxRecDepth 10000 in
theorem g_184_464 : GO x d 184 Q 464 [v0, some (.inr (.inr w)), v2, v3] st I J = GO x d 184 Q 465 [v0, some (.inr (.inr w)), v2, v3] (.inr (.inr w) :: st) I J := ge (A := (2, 465, 1, 0, 0)) rfl
set_option maxRecDepth 10000 in
theorem g_184_465 : GO x d 184 Q 465 [v0, v1, v2, v3] [.inr (.inr (.inl r))] I J = (okO r 9 ∧ EX x d 84 [.inr (.inr (.inl r))] I J (fun r1 I1 J1 => GO x d 184 Q 468 [v0, v1, v2, v3] (r1.toList ++ []) I1 J1)) := (ge (A := (53, 468, 84, 0, 0)) rfl).trans (gtrue (Nat.le_of_ble_eq_true rfl))
set_option maxRecDepth 10000 in
theorem g_184_468 : GO x d 184 Q 468 [v0, v1, some (.inr (.inr w)), v3] st I J = GO x d 184 Q 469 [v0, v1, some (.inr (.inr w)), v3] (.inr (.inr w) :: st) I J := ge (A := (2, 469, 2, 0, 0)) rfl
set_option maxRecDepth 10000 in
theorem g_184_469 : GO x d 184 Q 469 [v0, v1, v2, v3] [.inr (.inr (.inl r)), .inl i0] I J = (okO r 10 ∧ EX x d 144 [.inr (.inr (.inl r))] I J (fun r1 I1 J1 => GO x d 184 Q 472 [v0, v1, v2, v3] (r1.toList ++ [.inl i0]) I1 J1)) := (ge (A := (53, 472, 144, 0, 0)) rfl).trans (gtrue (Nat.le_of_ble_eq_true rfl))
set_option maxRecDepth 10000 in
theorem g_184_472 : GO x d 184 Q 472 [v0, v1, v2, v3] (.inl b :: .inl a :: st) I J = (inR a ∧ inR b ∧ if a = b then GO x d 184 Q 961 [v0, v1, v2, v3] st I J else GO x d 184 Q 475 [v0, v1, v2, v3] st I J) := (ge (A := (34, 475, 961, 0, 0)) rfl).trans (gic (p := a = b) inferInstance)
set_option maxRecDepth 10000 in
theorem g_184_475 : GO x d 184 Q 475 [v0, v1, v2, v3] st I J = GO x d 184 Q 476 [v0, v1, v2, v3] (.inl (0) :: st) I J := ge (A := (0, 476, 0, 0, 0)) rfl
set_option maxRecDepth 10000 in
theorem g_184_476 : GO x d 184 Q 476 [v0, v1, v2, v3] [.inl a] I J = (ret01 a ∧ Q (some (.inl a)) I J) := ge (A := (56, 477, 0, 0, 0)) rfl
set_option maxRecDepth 10000 in
theorem g_184_477 : GO x d 184 Q 477 [v0, some (.inr (.inr w)), v2, v3] st I J = GO x d 184 Q 478 [v0, some (.inr (.inr w)), v2, v3] (.inr (.inr w) :: st) I J := ge (A := (2, 478, 1, 0, 0)) rfl
set_option maxRecDepth 10000 in
theorem g_184_478 : GO x d 184 Q 478 [some (.inr (.inr w)), v1, v2, v3] st I J = GO x d 184 Q 479 [some (.inr (.inr w)), v1, v2, v3] (.inr (.inr w) :: st) I J := ge (A := (2, 479, 0, 0, 0)) rfl
set_option maxRecDepth 10000 in
theorem g_184_479 : GO x d 184 Q 479 [v0, v1, v2, some (.inl a)] st I J = GO x d 184 Q 480 [v0, v1, v2, some (.inl a)] (.inl a :: st) I J := ge (A := (1, 480, 3, 0, 0)) rfl
set_option maxRecDepth 10000 in
theorem g_184_480 : GO x d 184 Q 480 [v0, v1, v2, v3] st I J = GO x d 184 Q 481 [v0, v1, v2, v3] (.inl (1) :: st) I J := ge (A := (0, 481, 0, 0, 1)) rfl
set_option maxRecDepth 10000 in
theorem g_184_481 : GO x d 184 Q 481 [v0, v1, v2, v3] (.inl b :: .inl a :: st) I J = GO x d 184 Q 482 [v0, v1, v2, v3] (.inl (a + b) :: st) I J := ge (A := (8, 482, 0, 0, 0)) rfl
set_option maxRecDepth 10000 in
theorem h_184_482 : GO x d 184 Q 482 [v0, v1, v2, v3] (.inl a :: .inr (.inr (.inr q)) :: st) I J = (q < 4 ∧ 0 ≤ a ∧ a < (roA x q).1 ∧ GO x d 184 Q 483 [v0, v1, v2, v3] (.inl ((roA x q).2 a.toNat) :: st) I J) := ge (A := (44, 483, 0, 0, 0)) rfl
set_option maxRecDepth 10000 in
theorem g_184_482 : GO x d 184 Q 482 [v0, v1, v2, v3] (.inl a :: .inr (.inr (.inl r)) :: st) I J = (okA r 20 ∧ 0 ≤ a ∧ a < lnN r ∧ GO x d 184 Q 483 [v0, v1, v2, v3] (.inl (I r a) :: st) I J) := ge (A := (44, 483, 0, 0, 0)) rfl
set_option maxRecDepth 10000 in
theorem g_184_483 : GO x d 184 Q 483 [some (.inr (.inr w)), v1, v2, v3] st I J = GO x d 184 Q 484 [some (.inr (.inr w)), v1, v2, v3] (.inr (.inr w) :: st) I J := ge (A := (2, 484, 0, 0, 0)) rfl
set_option maxRecDepth 10000 in
theorem g_184_484 : GO x d 184 Q 484 [v0, v1, v2, some (.inl a)] st I J = GO x d 184 Q 485 [v0, v1, v2, some (.inl a)] (.inl a :: st) I J := ge (A := (1, 485, 3, 0, 0)) rfl
set_option maxRecDepth 10000 in
theorem g_184_485 : GO x d 184 Q 485 [v0, v1, v2, v3] st I J = GO x d 184 Q 486 [v0, v1, v2, v3] (.inl (2) :: st) I J := ge (A := (0, 486, 0, 0, 2)) rfl
set_option maxRecDepth 10000 in
theorem g_184_486 : GO x d 184 Q 486 [v0, v1, v2, v3] (.inl b :: .inl a :: st) I J = GO x d 184 Q 487 [v0, v1, v2, v3] (.inl (a + b) :: st) I J := ge (A := (8, 487, 0, 0, 0)) rfl
set_option maxRecDepth 10000 in
theorem h_184_487 : GO x d 184 Q 487 [v0, v1, v2, v3] (.inl a :: .inr (.inr (.inr q)) :: st) I J = (q < 4 ∧ 0 ≤ a ∧ a < (roA x q).1 ∧ GO x d 184 Q 488 [v0, v1, v2, v3] (.inl ((roA x q).2 a.toNat) :: st) I J) := ge (A := (44, 488, 0, 0, 0)) rfl
set_option maxRecDepth 10000 in
theorem g_184_487 : GO x d 184 Q 487 [v0, v1, v2, v3] (.inl a :: .inr (.inr (.inl r)) :: st) I J = (okA r 20 ∧ 0 ≤ a ∧ a < lnN r ∧ GO x d 184 Q 488 [v0, v1, v2, v3] (.inl (I r a) :: st) I J) := ge (A := (44, 488, 0, 0, 0)) rfl
set_option maxRecDepth 10000 in
theorem g_184_488 : GO x d 184 Q 488 [v0, v1, v2, v3] [.inl i0, .inl i1, .inr (.inr (.inl r))] I J = (okO r 9 ∧ EX x d 85 [.inr (.inr (.inl r)), .inl i1, .inl i0] I J (fun r1 I1 J1 => GO x d 184 Q 491 [v0, v1, v2, v3] (r1.toList ++ []) I1 J1)) := (ge (A := (53, 491, 85, 2, 0)) rfl).trans (gtrue (Nat.le_of_ble_eq_true rfl))
set_option maxRecDepth 10000 in
theorem g_184_491 : GO x d 184 Q 491 [v0, v1, some (.inr (.inr w)), v3] st I J = GO x d 184 Q 492 [v0, v1, some (.inr (.inr w)), v3] (.inr (.inr w) :: st) I J := ge (A := (2, 492, 2, 0, 0)) rfl
set_option maxRecDepth 10000 in
theorem g_184_492 : GO x d 184 Q 492 [some (.inr (.inr w)), v1, v2, v3] st I J = GO x d 184 Q 493 [some (.inr (.inr w)), v1, v2, v3] (.inr (.inr w) :: st) I J := ge (A := (2, 493, 0, 0, 0)) rfl
set_option maxRecDepth 10000 in
theorem g_184_493 : GO x d 184 Q 493 [v0, v1, v2, some (.inl a)] st I J = GO x d 184 Q 494 [v0, v1, v2, some (.inl a)] (.inl a :: st) I J := ge (A := (1, 494, 3, 0, 0)) rfl
set_option maxRecDepth 10000 in
theorem g_184_494 : GO x d 184 Q 494 [v0, v1, v2, v3] st I J = GO x d 184 Q 495 [v0, v1, v2, v3] (.inl (1) :: st) I J := ge (A := (0, 495, 0, 0, 1)) rfl
set_option maxRecDepth 10000 in
theorem g_184_495 : GO x d 184 Q 495 [v0, v1, v2, v3] (.inl b :: .inl a :: st) I J = GO x d 184 Q 496 [v0, v1, v2, v3] (.inl (a + b) :: st) I J := ge (A := (8, 496, 0, 0, 0)) rfl
set_option maxRecDepth 10000 in
theorem h_184_496 : GO x d 184 Q 496 [v0, v1, v2, v3] (.inl a :: .inr (.inr (.inr q)) :: st) I J = (q < 4 ∧ 0 ≤ a ∧ a < (roA x q).1 ∧ GO x d 184 Q 497 [v0, v1, v2, v3] (.inl ((roA x q).2 a.toNat) :: st) I J) := ge (A := (44, 497, 0, 0, 0)) rfl
set_option maxRecDepth 10000 in
theorem g_184_496 : GO x d 184 Q 496 [v0, v1, v2, v3] (.inl a :: .inr (.inr (.inl r)) :: st) I J = (okA r 20 ∧ 0 ≤ a ∧ a < lnN r ∧ GO x d 184 Q 497 [v0, v1, v2, v3] (.inl (I r a) :: st) I J) := ge (A := (44, 497, 0, 0, 0)) rfl
set_option maxRecDepth 10000 in
theorem g_184_497 : GO x d 184 Q 497 [some (.inr (.inr w)), v1, v2, v3] st I J = GO x d 184 Q 498 [some (.inr (.inr w)), v1, v2, v3] (.inr (.inr w) :: st) I J := ge (A := (2, 498, 0, 0, 0)) rfl
set_option maxRecDepth 10000 in
theorem g_184_498 : GO x d 184 Q 498 [v0, v1, v2, some (.inl a)] st I J = GO x d 184 Q 499 [v0, v1, v2, some (.inl a)] (.inl a :: st) I J := ge (A := (1, 499, 3, 0, 0)) rfl
set_option maxRecDepth 10000 in
theorem g_184_499 : GO x d 184 Q 499 [v0, v1, v2, v3] st I J = GO x d 184 Q 500 [v0, v1, v2, v3] (.inl (2) :: st) I J := ge (A := (0, 500, 0, 0, 2)) rfl
set_option maxRecDepth 10000 in
theorem g_184_500 : GO x d 184 Q 500 [v0, v1, v2, v3] (.inl b :: .inl a :: st) I J = GO x d 184 Q 501 [v0, v1, v2, v3] (.inl (a + b) :: st) I J := ge (A := (8, 501, 0, 0, 0)) rfl
set_option maxRecDepth 10000 in
theorem h_184_501 : GO x d 184 Q 501 [v0, v1, v2, v3] (.inl a :: .inr (.inr (.inr q)) :: st) I J = (q < 4 ∧ 0 ≤ a ∧ a < (roA x q).1 ∧ GO x d 184 Q 502 [v0, v1, v2, v3] (.inl ((roA x q).2 a.toNat) :: st) I J) := ge (A := (44, 502, 0, 0, 0)) rfl
set_option maxRecDepth 10000 in
theorem g_184_501 : GO x d 184 Q 501 [v0, v1, v2, v3] (.inl a :: .inr (.inr (.inl r)) :: st) I J = (okA r 20 ∧ 0 ≤ a ∧ a < lnN r ∧ GO x d 184 Q 502 [v0, v1, v2, v3] (.inl (I r a) :: st) I J) := ge (A := (44, 502, 0, 0, 0)) rfl
set_option maxRecDepth 10000 in
theorem g_184_502 : GO x d 184 Q 502 [v0, v1, v2, v3] [.inl i0, .inl i1, .inr (.inr (.inl r)), .inl i2] I J = (okO r 10 ∧ EX x d 145 [.inr (.inr (.inl r)), .inl i1, .inl i0] I J (fun r1 I1 J1 => GO x d 184 Q 505 [v0, v1, v2, v3] (r1.toList ++ [.inl i2]) I1 J1)) := (ge (A := (53, 505, 145, 2, 0)) rfl).trans (gtrue (Nat.le_of_ble_eq_true rfl))
set_option maxRecDepth 10000 in
theorem g_184_505 : GO x d 184 Q 505 [v0, v1, v2, v3] (.inl b :: .inl a :: st) I J = (inR a ∧ inR b ∧ if a = b then GO x d 184 Q 961 [v0, v1, v2, v3] st I J else GO x d 184 Q 508 [v0, v1, v2, v3] st I J) := (ge (A := (34, 508, 961, 0, 0)) rfl).trans (gic (p := a = b) inferInstance)
set_option maxRecDepth 10000 in
theorem g_184_508 : GO x d 184 Q 508 [v0, v1, v2, v3] st I J = GO x d 184 Q 509 [v0, v1, v2, v3] (.inl (0) :: st) I J := ge (A := (0, 509, 0, 0, 0)) rfl
set_option maxRecDepth 10000 in
theorem g_184_509 : GO x d 184 Q 509 [v0, v1, v2, v3] [.inl a] I J = (ret01 a ∧ Q (some (.inl a)) I J) := ge (A := (56, 510, 0, 0, 0)) rfl
set_option maxRecDepth 10000 in
theorem g_184_510 : GO x d 184 Q 510 [v0, some (.inr (.inr w)), v2, v3] st I J = GO x d 184 Q 511 [v0, some (.inr (.inr w)), v2, v3] (.inr (.inr w) :: st) I J := ge (A := (2, 511, 1, 0, 0)) rfl
set_option maxRecDepth 10000 in
theorem g_184_511 : GO x d 184 Q 511 [some (.inr (.inr w)), v1, v2, v3] st I J = GO x d 184 Q 512 [some (.inr (.inr w)), v1, v2, v3] (.inr (.inr w) :: st) I J := ge (A := (2, 512, 0, 0, 0)) rfl
set_option maxRecDepth 10000 in
theorem g_184_512 : GO x d 184 Q 512 [v0, v1, v2, some (.inl a)] st I J = GO x d 184 Q 513 [v0, v1, v2, some (.inl a)] (.inl a :: st) I J := ge (A := (1, 513, 3, 0, 0)) rfl
set_option maxRecDepth 10000 in
theorem g_184_513 : GO x d 184 Q 513 [v0, v1, v2, v3] st I J = GO x d 184 Q 514 [v0, v1, v2, v3] (.inl (1) :: st) I J := ge (A := (0, 514, 0, 0, 1)) rfl
set_option maxRecDepth 10000 in
theorem g_184_514 : GO x d 184 Q 514 [v0, v1, v2, v3] (.inl b :: .inl a :: st) I J = GO x d 184 Q 515 [v0, v1, v2, v3] (.inl (a + b) :: st) I J := ge (A := (8, 515, 0, 0, 0)) rfl
set_option maxRecDepth 10000 in
theorem h_184_515 : GO x d 184 Q 515 [v0, v1, v2, v3] (.inl a :: .inr (.inr (.inr q)) :: st) I J = (q < 4 ∧ 0 ≤ a ∧ a < (roA x q).1 ∧ GO x d 184 Q 516 [v0, v1, v2, v3] (.inl ((roA x q).2 a.toNat) :: st) I J) := ge (A := (44, 516, 0, 0, 0)) rfl
set_option maxRecDepth 10000 in
theorem g_184_515 : GO x d 184 Q 515 [v0, v1, v2, v3] (.inl a :: .inr (.inr (.inl r)) :: st) I J = (okA r 20 ∧ 0 ≤ a ∧ a < lnN r ∧ GO x d 184 Q 516 [v0, v1, v2, v3] (.inl (I r a) :: st) I J) := ge (A := (44, 516, 0, 0, 0)) rfl
set_option maxRecDepth 10000 in
theorem g_184_516 : GO x d 184 Q 516 [some (.inr (.inr w)), v1, v2, v3] st I J = GO x d 184 Q 517 [some (.inr (.inr w)), v1, v2, v3] (.inr (.inr w) :: st) I J := ge (A := (2, 517, 0, 0, 0)) rfl
set_option maxRecDepth 10000 in
theorem g_184_517 : GO x d 184 Q 517 [v0, v1, v2, some (.inl a)] st I J = GO x d 184 Q 518 [v0, v1, v2, some (.inl a)] (.inl a :: st) I J := ge (A := (1, 518, 3, 0, 0)) rfl
set_option maxRecDepth 10000 in
theorem g_184_518 : GO x d 184 Q 518 [v0, v1, v2, v3] st I J = GO x d 184 Q 519 [v0, v1, v2, v3] (.inl (2) :: st) I J := ge (A := (0, 519, 0, 0, 2)) rfl
set_option maxRecDepth 10000 in
theorem g_184_519 : GO x d 184 Q 519 [v0, v1, v2, v3] (.inl b :: .inl a :: st) I J = GO x d 184 Q 520 [v0, v1, v2, v3] (.inl (a + b) :: st) I J := ge (A := (8, 520, 0, 0, 0)) rfl
set_option maxRecDepth 10000 in
theorem h_184_520 : GO x d 184 Q 520 [v0, v1, v2, v3] (.inl a :: .inr (.inr (.inr q)) :: st) I J = (q < 4 ∧ 0 ≤ a ∧ a < (roA x q).1 ∧ GO x d 184 Q 521 [v0, v1, v2, v3] (.inl ((roA x q).2 a.toNat) :: st) I J) := ge (A := (44, 521, 0, 0, 0)) rfl
set_option maxRecDepth 10000 in
theorem g_184_520 : GO x d 184 Q 520 [v0, v1, v2, v3] (.inl a :: .inr (.inr (.inl r)) :: st) I J = (okA r 20 ∧ 0 ≤ a ∧ a < lnN r ∧ GO x d 184 Q 521 [v0, v1, v2, v3] (.inl (I r a) :: st) I J) := ge (A := (44, 521, 0, 0, 0)) rfl
set_option maxRecDepth 10000 in
theorem g_184_521 : GO x d 184 Q 521 [v0, v1, v2, v3] [.inl i0, .inl i1, .inr (.inr (.inl r))] I J = (okO r 9 ∧ EX x d 86 [.inr (.inr (.inl r)), .inl i1, .inl i0] I J (fun r1 I1 J1 => GO x d 184 Q 524 [v0, v1, v2, v3] (r1.toList ++ []) I1 J1)) := (ge (A := (53, 524, 86, 2, 0)) rfl).trans (gtrue (Nat.le_of_ble_eq_true rfl))
set_option maxRecDepth 10000 in
theorem g_184_524 : GO x d 184 Q 524 [v0, v1, some (.inr (.inr w)), v3] st I J = GO x d 184 Q 525 [v0, v1, some (.inr (.inr w)), v3] (.inr (.inr w) :: st) I J := ge (A := (2, 525, 2, 0, 0)) rfl
set_option maxRecDepth 10000 in
theorem g_184_525 : GO x d 184 Q 525 [some (.inr (.inr w)), v1, v2, v3] st I J = GO x d 184 Q 526 [some (.inr (.inr w)), v1, v2, v3] (.inr (.inr w) :: st) I J := ge (A := (2, 526, 0, 0, 0)) rfl
set_option maxRecDepth 10000 in
theorem g_184_526 : GO x d 184 Q 526 [v0, v1, v2, some (.inl a)] st I J = GO x d 184 Q 527 [v0, v1, v2, some (.inl a)] (.inl a :: st) I J := ge (A := (1, 527, 3, 0, 0)) rfl
set_option maxRecDepth 10000 in
theorem g_184_527 : GO x d 184 Q 527 [v0, v1, v2, v3] st I J = GO x d 184 Q 528 [v0, v1, v2, v3] (.inl (1) :: st) I J := ge (A := (0, 528, 0, 0, 1)) rfl
set_option maxRecDepth 10000 in
theorem g_184_528 : GO x d 184 Q 528 [v0, v1, v2, v3] (.inl b :: .inl a :: st) I J = GO x d 184 Q 529 [v0, v1, v2, v3] (.inl (a + b) :: st) I J := ge (A := (8, 529, 0, 0, 0)) rfl
set_option maxRecDepth 10000 in
theorem h_184_529 : GO x d 184 Q 529 [v0, v1, v2, v3] (.inl a :: .inr (.inr (.inr q)) :: st) I J = (q < 4 ∧ 0 ≤ a ∧ a < (roA x q).1 ∧ GO x d 184 Q 530 [v0, v1, v2, v3] (.inl ((roA x q).2 a.toNat) :: st) I J) := ge (A := (44, 530, 0, 0, 0)) rfl
set_option maxRecDepth 10000 in
theorem g_184_529 : GO x d 184 Q 529 [v0, v1, v2, v3] (.inl a :: .inr (.inr (.inl r)) :: st) I J = (okA r 20 ∧ 0 ≤ a ∧ a < lnN r ∧ GO x d 184 Q 530 [v0, v1, v2, v3] (.inl (I r a) :: st) I J) := ge (A := (44, 530, 0, 0, 0)) rfl
set_option maxRecDepth 10000 in
theorem g_184_530 : GO x d 184 Q 530 [some (.inr (.inr w)), v1, v2, v3] st I J = GO x d 184 Q 531 [some (.inr (.inr w)), v1, v2, v3] (.inr (.inr w) :: st) I J := ge (A := (2, 531, 0, 0, 0)) rfl
set_option maxRecDepth 10000 in
theorem g_184_531 : GO x d 184 Q 531 [v0, v1, v2, some (.inl a)] st I J = GO x d 184 Q 532 [v0, v1, v2, some (.inl a)] (.inl a :: st) I J := ge (A := (1, 532, 3, 0, 0)) rfl
set_option maxRecDepth 10000 in
theorem g_184_532 : GO x d 184 Q 532 [v0, v1, v2, v3] st I J = GO x d 184 Q 533 [v0, v1, v2, v3] (.inl (2) :: st) I J := ge (A := (0, 533, 0, 0, 2)) rfl
set_option maxRecDepth 10000 in
theorem g_184_533 : GO x d 184 Q 533 [v0, v1, v2, v3] (.inl b :: .inl a :: st) I J = GO x d 184 Q 534 [v0, v1, v2, v3] (.inl (a + b) :: st) I J := ge (A := (8, 534, 0, 0, 0)) rfl
set_option maxRecDepth 10000 in
theorem h_184_534 : GO x d 184 Q 534 [v0, v1, v2, v3] (.inl a :: .inr (.inr (.inr q)) :: st) I J = (q < 4 ∧ 0 ≤ a ∧ a < (roA x q).1 ∧ GO x d 184 Q 535 [v0, v1, v2, v3] (.inl ((roA x q).2 a.toNat) :: st) I J) := ge (A := (44, 535, 0, 0, 0)) rfl
set_option maxRecDepth 10000 in
theorem g_184_534 : GO x d 184 Q 534 [v0, v1, v2, v3] (.inl a :: .inr (.inr (.inl r)) :: st) I J = (okA r 20 ∧ 0 ≤ a ∧ a < lnN r ∧ GO x d 184 Q 535 [v0, v1, v2, v3] (.inl (I r a) :: st) I J) := ge (A := (44, 535, 0, 0, 0)) rfl
set_option maxRecDepth 10000 in
theorem g_184_535 : GO x d 184 Q 535 [v0, v1, v2, v3] [.inl i0, .inl i1, .inr (.inr (.inl r)), .inl i2] I J = (okO r 10 ∧ EX x d 146 [.inr (.inr (.inl r)), .inl i1, .inl i0] I J (fun r1 I1 J1 => GO x d 184 Q 538 [v0, v1, v2, v3] (r1.toList ++ [.inl i2]) I1 J1)) := (ge (A := (53, 538, 146, 2, 0)) rfl).trans (gtrue (Nat.le_of_ble_eq_true rfl))
set_option maxRecDepth 10000 in
theorem g_184_538 : GO x d 184 Q 538 [v0, v1, v2, v3] (.inl b :: .inl a :: st) I J = (inR a ∧ inR b ∧ if a = b then GO x d 184 Q 961 [v0, v1, v2, v3] st I J else GO x d 184 Q 541 [v0, v1, v2, v3] st I J) := (ge (A := (34, 541, 961, 0, 0)) rfl).trans (gic (p := a = b) inferInstance)
set_option maxRecDepth 10000 in
theorem g_184_541 : GO x d 184 Q 541 [v0, v1, v2, v3] st I J = GO x d 184 Q 542 [v0, v1, v2, v3] (.inl (0) :: st) I J := ge (A := (0, 542, 0, 0, 0)) rfl
set_option maxRecDepth 10000 in
theorem g_184_542 : GO x d 184 Q 542 [v0, v1, v2, v3] [.inl a] I J = (ret01 a ∧ Q (some (.inl a)) I J) := ge (A := (56, 543, 0, 0, 0)) rfl
set_option maxRecDepth 10000 in
theorem g_184_543 : GO x d 184 Q 543 [v0, some (.inr (.inr w)), v2, v3] st I J = GO x d 184 Q 544 [v0, some (.inr (.inr w)), v2, v3] (.inr (.inr w) :: st) I J := ge (A := (2, 544, 1, 0, 0)) rfl
set_option maxRecDepth 10000 in
theorem g_184_544 : GO x d 184 Q 544 [some (.inr (.inr w)), v1, v2, v3] st I J = GO x d 184 Q 545 [some (.inr (.inr w)), v1, v2, v3] (.inr (.inr w) :: st) I J := ge (A := (2, 545, 0, 0, 0)) rfl
set_option maxRecDepth 10000 in
theorem g_184_545 : GO x d 184 Q 545 [v0, v1, v2, some (.inl a)] st I J = GO x d 184 Q 546 [v0, v1, v2, some (.inl a)] (.inl a :: st) I J := ge (A := (1, 546, 3, 0, 0)) rfl
set_option maxRecDepth 10000 in
theorem g_184_546 : GO x d 184 Q 546 [v0, v1, v2, v3] st I J = GO x d 184 Q 547 [v0, v1, v2, v3] (.inl (1) :: st) I J := ge (A := (0, 547, 0, 0, 1)) rfl
set_option maxRecDepth 10000 in
theorem g_184_547 : GO x d 184 Q 547 [v0, v1, v2, v3] (.inl b :: .inl a :: st) I J = GO x d 184 Q 548 [v0, v1, v2, v3] (.inl (a + b) :: st) I J := ge (A := (8, 548, 0, 0, 0)) rfl
set_option maxRecDepth 10000 in
theorem h_184_548 : GO x d 184 Q 548 [v0, v1, v2, v3] (.inl a :: .inr (.inr (.inr q)) :: st) I J = (q < 4 ∧ 0 ≤ a ∧ a < (roA x q).1 ∧ GO x d 184 Q 549 [v0, v1, v2, v3] (.inl ((roA x q).2 a.toNat) :: st) I J) := ge (A := (44, 549, 0, 0, 0)) rfl
set_option maxRecDepth 10000 in
theorem g_184_548 : GO x d 184 Q 548 [v0, v1, v2, v3] (.inl a :: .inr (.inr (.inl r)) :: st) I J = (okA r 20 ∧ 0 ≤ a ∧ a < lnN r ∧ GO x d 184 Q 549 [v0, v1, v2, v3] (.inl (I r a) :: st) I J) := ge (A := (44, 549, 0, 0, 0)) rfl
set_option maxRecDepth 10000 in
theorem g_184_549 : GO x d 184 Q 549 [v0, v1, v2, v3] [.inl i0, .inr (.inr (.inl r))] I J = (okO r 9 ∧ EX x d 87 [.inr (.inr (.inl r)), .inl i0] I J (fun r1 I1 J1 => GO x d 184 Q 552 [v0, v1, v2, v3] (r1.toList ++ []) I1 J1)) := (ge (A := (53, 552, 87, 1, 0)) rfl).trans (gtrue (Nat.le_of_ble_eq_true rfl))
set_option maxRecDepth 10000 in
theorem g_184_552 : GO x d 184 Q 552 [v0, v1, some (.inr (.inr w)), v3] st I J = GO x d 184 Q 553 [v0, v1, some (.inr (.inr w)), v3] (.inr (.inr w) :: st) I J := ge (A := (2, 553, 2, 0, 0)) rfl
set_option maxRecDepth 10000 in
theorem g_184_553 : GO x d 184 Q 553 [some (.inr (.inr w)), v1, v2, v3] st I J = GO x d 184 Q 554 [some (.inr (.inr w)), v1, v2, v3] (.inr (.inr w) :: st) I J := ge (A := (2, 554, 0, 0, 0)) rfl
set_option maxRecDepth 10000 in
theorem g_184_554 : GO x d 184 Q 554 [v0, v1, v2, some (.inl a)] st I J = GO x d 184 Q 555 [v0, v1, v2, some (.inl a)] (.inl a :: st) I J := ge (A := (1, 555, 3, 0, 0)) rfl
set_option maxRecDepth 10000 in
theorem g_184_555 : GO x d 184 Q 555 [v0, v1, v2, v3] st I J = GO x d 184 Q 556 [v0, v1, v2, v3] (.inl (1) :: st) I J := ge (A := (0, 556, 0, 0, 1)) rfl
set_option maxRecDepth 10000 in
theorem g_184_556 : GO x d 184 Q 556 [v0, v1, v2, v3] (.inl b :: .inl a :: st) I J = GO x d 184 Q 557 [v0, v1, v2, v3] (.inl (a + b) :: st) I J := ge (A := (8, 557, 0, 0, 0)) rfl
set_option maxRecDepth 10000 in
theorem h_184_557 : GO x d 184 Q 557 [v0, v1, v2, v3] (.inl a :: .inr (.inr (.inr q)) :: st) I J = (q < 4 ∧ 0 ≤ a ∧ a < (roA x q).1 ∧ GO x d 184 Q 558 [v0, v1, v2, v3] (.inl ((roA x q).2 a.toNat) :: st) I J) := ge (A := (44, 558, 0, 0, 0)) rfl
set_option maxRecDepth 10000 in
theorem g_184_557 : GO x d 184 Q 557 [v0, v1, v2, v3] (.inl a :: .inr (.inr (.inl r)) :: st) I J = (okA r 20 ∧ 0 ≤ a ∧ a < lnN r ∧ GO x d 184 Q 558 [v0, v1, v2, v3] (.inl (I r a) :: st) I J) := ge (A := (44, 558, 0, 0, 0)) rfl
set_option maxRecDepth 10000 in
theorem g_184_558 : GO x d 184 Q 558 [v0, v1, v2, v3] [.inl i0, .inr (.inr (.inl r)), .inl i1] I J = (okO r 10 ∧ EX x d 148 [.inr (.inr (.inl r)), .inl i0] I J (fun r1 I1 J1 => GO x d 184 Q 561 [v0, v1, v2, v3] (r1.toList ++ [.inl i1]) I1 J1)) := (ge (A := (53, 561, 148, 1, 0)) rfl).trans (gtrue (Nat.le_of_ble_eq_true rfl))
set_option maxRecDepth 10000 in
theorem g_184_561 : GO x d 184 Q 561 [v0, v1, v2, v3] (.inl b :: .inl a :: st) I J = (inR a ∧ inR b ∧ if a = b then GO x d 184 Q 961 [v0, v1, v2, v3] st I J else GO x d 184 Q 564 [v0, v1, v2, v3] st I J) := (ge (A := (34, 564, 961, 0, 0)) rfl).trans (gic (p := a = b) inferInstance)
set_option maxRecDepth 10000 in
theorem g_184_564 : GO x d 184 Q 564 [v0, v1, v2, v3] st I J = GO x d 184 Q 565 [v0, v1, v2, v3] (.inl (0) :: st) I J := ge (A := (0, 565, 0, 0, 0)) rfl
set_option maxRecDepth 10000 in
theorem g_184_565 : GO x d 184 Q 565 [v0, v1, v2, v3] [.inl a] I J = (ret01 a ∧ Q (some (.inl a)) I J) := ge (A := (56, 566, 0, 0, 0)) rfl
set_option maxRecDepth 10000 in
theorem g_184_566 : GO x d 184 Q 566 [v0, some (.inr (.inr w)), v2, v3] st I J = GO x d 184 Q 567 [v0, some (.inr (.inr w)), v2, v3] (.inr (.inr w) :: st) I J := ge (A := (2, 567, 1, 0, 0)) rfl
set_option maxRecDepth 10000 in
theorem g_184_567 : GO x d 184 Q 567 [some (.inr (.inr w)), v1, v2, v3] st I J = GO x d 184 Q 568 [some (.inr (.inr w)), v1, v2, v3] (.inr (.inr w) :: st) I J := ge (A := (2, 568, 0, 0, 0)) rfl
set_option maxRecDepth 10000 in
theorem g_184_568 : GO x d 184 Q 568 [v0, v1, v2, some (.inl a)] st I J = GO x d 184 Q 569 [v0, v1, v2, some (.inl a)] (.inl a :: st) I J := ge (A := (1, 569, 3, 0, 0)) rfl
set_option maxRecDepth 10000 in
theorem g_184_569 : GO x d 184 Q 569 [v0, v1, v2, v3] st I J = GO x d 184 Q 570 [v0, v1, v2, v3] (.inl (1) :: st) I J := ge (A := (0, 570, 0, 0, 1)) rfl
set_option maxRecDepth 10000 in
theorem g_184_570 : GO x d 184 Q 570 [v0, v1, v2, v3] (.inl b :: .inl a :: st) I J = GO x d 184 Q 571 [v0, v1, v2, v3] (.inl (a + b) :: st) I J := ge (A := (8, 571, 0, 0, 0)) rfl
set_option maxRecDepth 10000 in
theorem h_184_571 : GO x d 184 Q 571 [v0, v1, v2, v3] (.inl a :: .inr (.inr (.inr q)) :: st) I J = (q < 4 ∧ 0 ≤ a ∧ a < (roA x q).1 ∧ GO x d 184 Q 572 [v0, v1, v2, v3] (.inl ((roA x q).2 a.toNat) :: st) I J) := ge (A := (44, 572, 0, 0, 0)) rfl
set_option maxRecDepth 10000 in
theorem g_184_571 : GO x d 184 Q 571 [v0, v1, v2, v3] (.inl a :: .inr (.inr (.inl r)) :: st) I J = (okA r 20 ∧ 0 ≤ a ∧ a < lnN r ∧ GO x d 184 Q 572 [v0, v1, v2, v3] (.inl (I r a) :: st) I J) := ge (A := (44, 572, 0, 0, 0)) rfl
set_option maxRecDepth 10000 in
theorem g_184_572 : GO x d 184 Q 572 [v0, v1, v2, v3] [.inl i0, .inr (.inr (.inl r))] I J = (okO r 9 ∧ EX x d 88 [.inr (.inr (.inl r)), .inl i0] I J (fun r1 I1 J1 => GO x d 184 Q 575 [v0, v1, v2, v3] (r1.toList ++ []) I1 J1)) := (ge (A := (53, 575, 88, 1, 0)) rfl).trans (gtrue (Nat.le_of_ble_eq_true rfl))
set_option maxRecDepth 10000 in
theorem g_184_575 : GO x d 184 Q 575 [v0, v1, some (.inr (.inr w)), v3] st I J = GO x d 184 Q 576 [v0, v1, some (.inr (.inr w)), v3] (.inr (.inr w) :: st) I J := ge (A := (2, 576, 2, 0, 0)) rfl
set_option maxRecDepth 10000 in
theorem g_184_576 : GO x d 184 Q 576 [some (.inr (.inr w)), v1, v2, v3] st I J = GO x d 184 Q 577 [some (.inr (.inr w)), v1, v2, v3] (.inr (.inr w) :: st) I J := ge (A := (2, 577, 0, 0, 0)) rfl
set_option maxRecDepth 10000 in
theorem g_184_577 : GO x d 184 Q 577 [v0, v1, v2, some (.inl a)] st I J = GO x d 184 Q 578 [v0, v1, v2, some (.inl a)] (.inl a :: st) I J := ge (A := (1, 578, 3, 0, 0)) rfl
set_option maxRecDepth 10000 in
theorem g_184_578 : GO x d 184 Q 578 [v0, v1, v2, v3] st I J = GO x d 184 Q 579 [v0, v1, v2, v3] (.inl (1) :: st) I J := ge (A := (0, 579, 0, 0, 1)) rfl
set_option maxRecDepth 10000 in
theorem g_184_579 : GO x d 184 Q 579 [v0, v1, v2, v3] (.inl b :: .inl a :: st) I J = GO x d 184 Q 580 [v0, v1, v2, v3] (.inl (a + b) :: st) I J := ge (A := (8, 580, 0, 0, 0)) rfl
set_option maxRecDepth 10000 in
theorem h_184_580 : GO x d 184 Q 580 [v0, v1, v2, v3] (.inl a :: .inr (.inr (.inr q)) :: st) I J = (q < 4 ∧ 0 ≤ a ∧ a < (roA x q).1 ∧ GO x d 184 Q 581 [v0, v1, v2, v3] (.inl ((roA x q).2 a.toNat) :: st) I J) := ge (A := (44, 581, 0, 0, 0)) rfl
set_option maxRecDepth 10000 in
theorem g_184_580 : GO x d 184 Q 580 [v0, v1, v2, v3] (.inl a :: .inr (.inr (.inl r)) :: st) I J = (okA r 20 ∧ 0 ≤ a ∧ a < lnN r ∧ GO x d 184 Q 581 [v0, v1, v2, v3] (.inl (I r a) :: st) I J) := ge (A := (44, 581, 0, 0, 0)) rfl
set_option maxRecDepth 10000 in
theorem g_184_581 : GO x d 184 Q 581 [v0, v1, v2, v3] [.inl i0, .inr (.inr (.inl r)), .inl i1] I J = (okO r 10 ∧ EX x d 149 [.inr (.inr (.inl r)), .inl i0] I J (fun r1 I1 J1 => GO x d 184 Q 584 [v0, v1, v2, v3] (r1.toList ++ [.inl i1]) I1 J1)) := (ge (A := (53, 584, 149, 1, 0)) rfl).trans (gtrue (Nat.le_of_ble_eq_true rfl))
set_option maxRecDepth 10000 in
theorem g_184_584 : GO x d 184 Q 584 [v0, v1, v2, v3] (.inl b :: .inl a :: st) I J = (inR a ∧ inR b ∧ if a = b then GO x d 184 Q 961 [v0, v1, v2, v3] st I J else GO x d 184 Q 587 [v0, v1, v2, v3] st I J) := (ge (A := (34, 587, 961, 0, 0)) rfl).trans (gic (p := a = b) inferInstance)
set_option maxRecDepth 10000 in
theorem g_184_587 : GO x d 184 Q 587 [v0, v1, v2, v3] st I J = GO x d 184 Q 588 [v0, v1, v2, v3] (.inl (0) :: st) I J := ge (A := (0, 588, 0, 0, 0)) rfl
set_option maxRecDepth 10000 in
theorem g_184_588 : GO x d 184 Q 588 [v0, v1, v2, v3] [.inl a] I J = (ret01 a ∧ Q (some (.inl a)) I J) := ge (A := (56, 589, 0, 0, 0)) rfl
set_option maxRecDepth 10000 in
theorem g_184_589 : GO x d 184 Q 589 [v0, some (.inr (.inr w)), v2, v3] st I J = GO x d 184 Q 590 [v0, some (.inr (.inr w)), v2, v3] (.inr (.inr w) :: st) I J := ge (A := (2, 590, 1, 0, 0)) rfl
set_option maxRecDepth 10000 in
theorem g_184_590 : GO x d 184 Q 590 [some (.inr (.inr w)), v1, v2, v3] st I J = GO x d 184 Q 591 [some (.inr (.inr w)), v1, v2, v3] (.inr (.inr w) :: st) I J := ge (A := (2, 591, 0, 0, 0)) rfl
set_option maxRecDepth 10000 in
theorem g_184_591 : GO x d 184 Q 591 [v0, v1, v2, some (.inl a)] st I J = GO x d 184 Q 592 [v0, v1, v2, some (.inl a)] (.inl a :: st) I J := ge (A := (1, 592, 3, 0, 0)) rfl
set_option maxRecDepth 10000 in
theorem g_184_592 : GO x d 184 Q 592 [v0, v1, v2, v3] st I J = GO x d 184 Q 593 [v0, v1, v2, v3] (.inl (1) :: st) I J := ge (A := (0, 593, 0, 0, 1)) rfl
set_option maxRecDepth 10000 in
theorem g_184_593 : GO x d 184 Q 593 [v0, v1, v2, v3] (.inl b :: .inl a :: st) I J = GO x d 184 Q 594 [v0, v1, v2, v3] (.inl (a + b) :: st) I J := ge (A := (8, 594, 0, 0, 0)) rfl
set_option maxRecDepth 10000 in
theorem h_184_594 : GO x d 184 Q 594 [v0, v1, v2, v3] (.inl a :: .inr (.inr (.inr q)) :: st) I J = (q < 4 ∧ 0 ≤ a ∧ a < (roA x q).1 ∧ GO x d 184 Q 595 [v0, v1, v2, v3] (.inl ((roA x q).2 a.toNat) :: st) I J) := ge (A := (44, 595, 0, 0, 0)) rfl
set_option maxRecDepth 10000 in
theorem g_184_594 : GO x d 184 Q 594 [v0, v1, v2, v3] (.inl a :: .inr (.inr (.inl r)) :: st) I J = (okA r 20 ∧ 0 ≤ a ∧ a < lnN r ∧ GO x d 184 Q 595 [v0, v1, v2, v3] (.inl (I r a) :: st) I J) := ge (A := (44, 595, 0, 0, 0)) rfl
set_option maxRecDepth 10000 in
theorem g_184_595 : GO x d 184 Q 595 [v0, v1, v2, v3] [.inl i0, .inr (.inr (.inl r))] I J = (okO r 9 ∧ EX x d 89 [.inr (.inr (.inl r)), .inl i0] I J (fun r1 I1 J1 => GO x d 184 Q 598 [v0, v1, v2, v3] (r1.toList ++ []) I1 J1)) := (ge (A := (53, 598, 89, 1, 0)) rfl).trans (gtrue (Nat.le_of_ble_eq_true rfl))
set_option maxRecDepth 10000 in
theorem g_184_598 : GO x d 184 Q 598 [v0, v1, some (.inr (.inr w)), v3] st I J = GO x d 184 Q 599 [v0, v1, some (.inr (.inr w)), v3] (.inr (.inr w) :: st) I J := ge (A := (2, 599, 2, 0, 0)) rfl
set_option maxRecDepth 10000 in
theorem g_184_599 : GO x d 184 Q 599 [some (.inr (.inr w)), v1, v2, v3] st I J = GO x d 184 Q 600 [some (.inr (.inr w)), v1, v2, v3] (.inr (.inr w) :: st) I J := ge (A := (2, 600, 0, 0, 0)) rfl
set_option maxRecDepth 10000 in
theorem g_184_600 : GO x d 184 Q 600 [v0, v1, v2, some (.inl a)] st I J = GO x d 184 Q 601 [v0, v1, v2, some (.inl a)] (.inl a :: st) I J := ge (A := (1, 601, 3, 0, 0)) rfl
set_option maxRecDepth 10000 in
theorem g_184_601 : GO x d 184 Q 601 [v0, v1, v2, v3] st I J = GO x d 184 Q 602 [v0, v1, v2, v3] (.inl (1) :: st) I J := ge (A := (0, 602, 0, 0, 1)) rfl
set_option maxRecDepth 10000 in
theorem g_184_602 : GO x d 184 Q 602 [v0, v1, v2, v3] (.inl b :: .inl a :: st) I J = GO x d 184 Q 603 [v0, v1, v2, v3] (.inl (a + b) :: st) I J := ge (A := (8, 603, 0, 0, 0)) rfl
set_option maxRecDepth 10000 in
theorem h_184_603 : GO x d 184 Q 603 [v0, v1, v2, v3] (.inl a :: .inr (.inr (.inr q)) :: st) I J = (q < 4 ∧ 0 ≤ a ∧ a < (roA x q).1 ∧ GO x d 184 Q 604 [v0, v1, v2, v3] (.inl ((roA x q).2 a.toNat) :: st) I J) := ge (A := (44, 604, 0, 0, 0)) rfl
set_option maxRecDepth 10000 in
theorem g_184_603 : GO x d 184 Q 603 [v0, v1, v2, v3] (.inl a :: .inr (.inr (.inl r)) :: st) I J = (okA r 20 ∧ 0 ≤ a ∧ a < lnN r ∧ GO x d 184 Q 604 [v0, v1, v2, v3] (.inl (I r a) :: st) I J) := ge (A := (44, 604, 0, 0, 0)) rfl
set_option maxRecDepth 10000 in
theorem g_184_604 : GO x d 184 Q 604 [v0, v1, v2, v3] [.inl i0, .inr (.inr (.inl r)), .inl i1] I J = (okO r 10 ∧ EX x d 155 [.inr (.inr (.inl r)), .inl i0] I J (fun r1 I1 J1 => GO x d 184 Q 607 [v0, v1, v2, v3] (r1.toList ++ [.inl i1]) I1 J1)) := (ge (A := (53, 607, 155, 1, 0)) rfl).trans (gtrue (Nat.le_of_ble_eq_true rfl))
set_option maxRecDepth 10000 in
theorem g_184_607 : GO x d 184 Q 607 [v0, v1, v2, v3] (.inl b :: .inl a :: st) I J = (inR a ∧ inR b ∧ if a = b then GO x d 184 Q 961 [v0, v1, v2, v3] st I J else GO x d 184 Q 610 [v0, v1, v2, v3] st I J) := (ge (A := (34, 610, 961, 0, 0)) rfl).trans (gic (p := a = b) inferInstance)
set_option maxRecDepth 10000 in
theorem g_184_610 : GO x d 184 Q 610 [v0, v1, v2, v3] st I J = GO x d 184 Q 611 [v0, v1, v2, v3] (.inl (0) :: st) I J := ge (A := (0, 611, 0, 0, 0)) rfl
set_option maxRecDepth 10000 in
theorem g_184_611 : GO x d 184 Q 611 [v0, v1, v2, v3] [.inl a] I J = (ret01 a ∧ Q (some (.inl a)) I J) := ge (A := (56, 612, 0, 0, 0)) rfl
set_option maxRecDepth 10000 in
theorem g_184_612 : GO x d 184 Q 612 [v0, some (.inr (.inr w)), v2, v3] st I J = GO x d 184 Q 613 [v0, some (.inr (.inr w)), v2, v3] (.inr (.inr w) :: st) I J := ge (A := (2, 613, 1, 0, 0)) rfl
set_option maxRecDepth 10000 in
theorem g_184_613 : GO x d 184 Q 613 [some (.inr (.inr w)), v1, v2, v3] st I J = GO x d 184 Q 614 [some (.inr (.inr w)), v1, v2, v3] (.inr (.inr w) :: st) I J := ge (A := (2, 614, 0, 0, 0)) rfl
set_option maxRecDepth 10000 in
theorem g_184_614 : GO x d 184 Q 614 [v0, v1, v2, some (.inl a)] st I J = GO x d 184 Q 615 [v0, v1, v2, some (.inl a)] (.inl a :: st) I J := ge (A := (1, 615, 3, 0, 0)) rfl
set_option maxRecDepth 10000 in
theorem g_184_615 : GO x d 184 Q 615 [v0, v1, v2, v3] st I J = GO x d 184 Q 616 [v0, v1, v2, v3] (.inl (1) :: st) I J := ge (A := (0, 616, 0, 0, 1)) rfl
set_option maxRecDepth 10000 in
theorem g_184_616 : GO x d 184 Q 616 [v0, v1, v2, v3] (.inl b :: .inl a :: st) I J = GO x d 184 Q 617 [v0, v1, v2, v3] (.inl (a + b) :: st) I J := ge (A := (8, 617, 0, 0, 0)) rfl
set_option maxRecDepth 10000 in
theorem h_184_617 : GO x d 184 Q 617 [v0, v1, v2, v3] (.inl a :: .inr (.inr (.inr q)) :: st) I J = (q < 4 ∧ 0 ≤ a ∧ a < (roA x q).1 ∧ GO x d 184 Q 618 [v0, v1, v2, v3] (.inl ((roA x q).2 a.toNat) :: st) I J) := ge (A := (44, 618, 0, 0, 0)) rfl
set_option maxRecDepth 10000 in
theorem g_184_617 : GO x d 184 Q 617 [v0, v1, v2, v3] (.inl a :: .inr (.inr (.inl r)) :: st) I J = (okA r 20 ∧ 0 ≤ a ∧ a < lnN r ∧ GO x d 184 Q 618 [v0, v1, v2, v3] (.inl (I r a) :: st) I J) := ge (A := (44, 618, 0, 0, 0)) rfl
set_option maxRecDepth 10000 in
theorem g_184_618 : GO x d 184 Q 618 [v0, v1, v2, v3] [.inl i0, .inr (.inr (.inl r))] I J = (okO r 9 ∧ EX x d 90 [.inr (.inr (.inl r)), .inl i0] I J (fun r1 I1 J1 => GO x d 184 Q 621 [v0, v1, v2, v3] (r1.toList ++ []) I1 J1)) := (ge (A := (53, 621, 90, 1, 0)) rfl).trans (gtrue (Nat.le_of_ble_eq_true rfl))
set_option maxRecDepth 10000 in
theorem g_184_621 : GO x d 184 Q 621 [v0, v1, some (.inr (.inr w)), v3] st I J = GO x d 184 Q 622 [v0, v1, some (.inr (.inr w)), v3] (.inr (.inr w) :: st) I J := ge (A := (2, 622, 2, 0, 0)) rfl
set_option maxRecDepth 10000 in
theorem g_184_622 : GO x d 184 Q 622 [some (.inr (.inr w)), v1, v2, v3] st I J = GO x d 184 Q 623 [some (.inr (.inr w)), v1, v2, v3] (.inr (.inr w) :: st) I J := ge (A := (2, 623, 0, 0, 0)) rfl
set_option maxRecDepth 10000 in
theorem g_184_623 : GO x d 184 Q 623 [v0, v1, v2, some (.inl a)] st I J = GO x d 184 Q 624 [v0, v1, v2, some (.inl a)] (.inl a :: st) I J := ge (A := (1, 624, 3, 0, 0)) rfl
set_option maxRecDepth 10000 in
theorem g_184_624 : GO x d 184 Q 624 [v0, v1, v2, v3] st I J = GO x d 184 Q 625 [v0, v1, v2, v3] (.inl (1) :: st) I J := ge (A := (0, 625, 0, 0, 1)) rfl
set_option maxRecDepth 10000 in
theorem g_184_625 : GO x d 184 Q 625 [v0, v1, v2, v3] (.inl b :: .inl a :: st) I J = GO x d 184 Q 626 [v0, v1, v2, v3] (.inl (a + b) :: st) I J := ge (A := (8, 626, 0, 0, 0)) rfl
set_option maxRecDepth 10000 in
theorem h_184_626 : GO x d 184 Q 626 [v0, v1, v2, v3] (.inl a :: .inr (.inr (.inr q)) :: st) I J = (q < 4 ∧ 0 ≤ a ∧ a < (roA x q).1 ∧ GO x d 184 Q 627 [v0, v1, v2, v3] (.inl ((roA x q).2 a.toNat) :: st) I J) := ge (A := (44, 627, 0, 0, 0)) rfl
set_option maxRecDepth 10000 in
theorem g_184_626 : GO x d 184 Q 626 [v0, v1, v2, v3] (.inl a :: .inr (.inr (.inl r)) :: st) I J = (okA r 20 ∧ 0 ≤ a ∧ a < lnN r ∧ GO x d 184 Q 627 [v0, v1, v2, v3] (.inl (I r a) :: st) I J) := ge (A := (44, 627, 0, 0, 0)) rfl
set_option maxRecDepth 10000 in
theorem g_184_627 : GO x d 184 Q 627 [v0, v1, v2, v3] [.inl i0, .inr (.inr (.inl r)), .inl i1] I J = (okO r 10 ∧ EX x d 157 [.inr (.inr (.inl r)), .inl i0] I J (fun r1 I1 J1 => GO x d 184 Q 630 [v0, v1, v2, v3] (r1.toList ++ [.inl i1]) I1 J1)) := (ge (A := (53, 630, 157, 1, 0)) rfl).trans (gtrue (Nat.le_of_ble_eq_true rfl))
set_option maxRecDepth 10000 in
theorem g_184_630 : GO x d 184 Q 630 [v0, v1, v2, v3] (.inl b :: .inl a :: st) I J = (inR a ∧ inR b ∧ if a = b then GO x d 184 Q 961 [v0, v1, v2, v3] st I J else GO x d 184 Q 633 [v0, v1, v2, v3] st I J) := (ge (A := (34, 633, 961, 0, 0)) rfl).trans (gic (p := a = b) inferInstance)
set_option maxRecDepth 10000 in
theorem g_184_633 : GO x d 184 Q 633 [v0, v1, v2, v3] st I J = GO x d 184 Q 634 [v0, v1, v2, v3] (.inl (0) :: st) I J := ge (A := (0, 634, 0, 0, 0)) rfl
set_option maxRecDepth 10000 in
theorem g_184_634 : GO x d 184 Q 634 [v0, v1, v2, v3] [.inl a] I J = (ret01 a ∧ Q (some (.inl a)) I J) := ge (A := (56, 635, 0, 0, 0)) rfl
set_option maxRecDepth 10000 in
theorem g_184_635 : GO x d 184 Q 635 [v0, some (.inr (.inr w)), v2, v3] st I J = GO x d 184 Q 636 [v0, some (.inr (.inr w)), v2, v3] (.inr (.inr w) :: st) I J := ge (A := (2, 636, 1, 0, 0)) rfl
set_option maxRecDepth 10000 in
theorem g_184_636 : GO x d 184 Q 636 [some (.inr (.inr w)), v1, v2, v3] st I J = GO x d 184 Q 637 [some (.inr (.inr w)), v1, v2, v3] (.inr (.inr w) :: st) I J := ge (A := (2, 637, 0, 0, 0)) rfl
set_option maxRecDepth 10000 in
theorem g_184_637 : GO x d 184 Q 637 [v0, v1, v2, some (.inl a)] st I J = GO x d 184 Q 638 [v0, v1, v2, some (.inl a)] (.inl a :: st) I J := ge (A := (1, 638, 3, 0, 0)) rfl
set_option maxRecDepth 10000 in
theorem g_184_638 : GO x d 184 Q 638 [v0, v1, v2, v3] st I J = GO x d 184 Q 639 [v0, v1, v2, v3] (.inl (1) :: st) I J := ge (A := (0, 639, 0, 0, 1)) rfl
set_option maxRecDepth 10000 in
theorem g_184_639 : GO x d 184 Q 639 [v0, v1, v2, v3] (.inl b :: .inl a :: st) I J = GO x d 184 Q 640 [v0, v1, v2, v3] (.inl (a + b) :: st) I J := ge (A := (8, 640, 0, 0, 0)) rfl
set_option maxRecDepth 10000 in
theorem h_184_640 : GO x d 184 Q 640 [v0, v1, v2, v3] (.inl a :: .inr (.inr (.inr q)) :: st) I J = (q < 4 ∧ 0 ≤ a ∧ a < (roA x q).1 ∧ GO x d 184 Q 641 [v0, v1, v2, v3] (.inl ((roA x q).2 a.toNat) :: st) I J) := ge (A := (44, 641, 0, 0, 0)) rfl
set_option maxRecDepth 10000 in
theorem g_184_640 : GO x d 184 Q 640 [v0, v1, v2, v3] (.inl a :: .inr (.inr (.inl r)) :: st) I J = (okA r 20 ∧ 0 ≤ a ∧ a < lnN r ∧ GO x d 184 Q 641 [v0, v1, v2, v3] (.inl (I r a) :: st) I J) := ge (A := (44, 641, 0, 0, 0)) rfl
set_option maxRecDepth 10000 in
theorem g_184_641 : GO x d 184 Q 641 [some (.inr (.inr w)), v1, v2, v3] st I J = GO x d 184 Q 642 [some (.inr (.inr w)), v1, v2, v3] (.inr (.inr w) :: st) I J := ge (A := (2, 642, 0, 0, 0)) rfl
set_option maxRecDepth 10000 in
theorem g_184_642 : GO x d 184 Q 642 [v0, v1, v2, some (.inl a)] st I J = GO x d 184 Q 643 [v0, v1, v2, some (.inl a)] (.inl a :: st) I J := ge (A := (1, 643, 3, 0, 0)) rfl
set_option maxRecDepth 10000 in
theorem g_184_643 : GO x d 184 Q 643 [v0, v1, v2, v3] st I J = GO x d 184 Q 644 [v0, v1, v2, v3] (.inl (2) :: st) I J := ge (A := (0, 644, 0, 0, 2)) rfl
set_option maxRecDepth 10000 in
theorem g_184_644 : GO x d 184 Q 644 [v0, v1, v2, v3] (.inl b :: .inl a :: st) I J = GO x d 184 Q 645 [v0, v1, v2, v3] (.inl (a + b) :: st) I J := ge (A := (8, 645, 0, 0, 0)) rfl
set_option maxRecDepth 10000 in
theorem h_184_645 : GO x d 184 Q 645 [v0, v1, v2, v3] (.inl a :: .inr (.inr (.inr q)) :: st) I J = (q < 4 ∧ 0 ≤ a ∧ a < (roA x q).1 ∧ GO x d 184 Q 646 [v0, v1, v2, v3] (.inl ((roA x q).2 a.toNat) :: st) I J) := ge (A := (44, 646, 0, 0, 0)) rfl
set_option maxRecDepth 10000 in
theorem g_184_645 : GO x d 184 Q 645 [v0, v1, v2, v3] (.inl a :: .inr (.inr (.inl r)) :: st) I J = (okA r 20 ∧ 0 ≤ a ∧ a < lnN r ∧ GO x d 184 Q 646 [v0, v1, v2, v3] (.inl (I r a) :: st) I J) := ge (A := (44, 646, 0, 0, 0)) rfl
set_option maxRecDepth 10000 in
theorem g_184_646 : GO x d 184 Q 646 [v0, v1, v2, v3] [.inl i0, .inl i1, .inr (.inr (.inl r))] I J = (okO r 9 ∧ EX x d 91 [.inr (.inr (.inl r)), .inl i1, .inl i0] I J (fun r1 I1 J1 => GO x d 184 Q 649 [v0, v1, v2, v3] (r1.toList ++ []) I1 J1)) := (ge (A := (53, 649, 91, 2, 0)) rfl).trans (gtrue (Nat.le_of_ble_eq_true rfl))
set_option maxRecDepth 10000 in
theorem g_184_649 : GO x d 184 Q 649 [v0, v1, some (.inr (.inr w)), v3] st I J = GO x d 184 Q 650 [v0, v1, some (.inr (.inr w)), v3] (.inr (.inr w) :: st) I J := ge (A := (2, 650, 2, 0, 0)) rfl
set_option maxRecDepth 10000 in
theorem g_184_650 : GO x d 184 Q 650 [some (.inr (.inr w)), v1, v2, v3] st I J = GO x d 184 Q 651 [some (.inr (.inr w)), v1, v2, v3] (.inr (.inr w) :: st) I J := ge (A := (2, 651, 0, 0, 0)) rfl
set_option maxRecDepth 10000 in
theorem g_184_651 : GO x d 184 Q 651 [v0, v1, v2, some (.inl a)] st I J = GO x d 184 Q 652 [v0, v1, v2, some (.inl a)] (.inl a :: st) I J := ge (A := (1, 652, 3, 0, 0)) rfl
set_option maxRecDepth 10000 in
theorem g_184_652 : GO x d 184 Q 652 [v0, v1, v2, v3] st I J = GO x d 184 Q 653 [v0, v1, v2, v3] (.inl (1) :: st) I J := ge (A := (0, 653, 0, 0, 1)) rfl
set_option maxRecDepth 10000 in
theorem g_184_653 : GO x d 184 Q 653 [v0, v1, v2, v3] (.inl b :: .inl a :: st) I J = GO x d 184 Q 654 [v0, v1, v2, v3] (.inl (a + b) :: st) I J := ge (A := (8, 654, 0, 0, 0)) rfl
set_option maxRecDepth 10000 in
theorem h_184_654 : GO x d 184 Q 654 [v0, v1, v2, v3] (.inl a :: .inr (.inr (.inr q)) :: st) I J = (q < 4 ∧ 0 ≤ a ∧ a < (roA x q).1 ∧ GO x d 184 Q 655 [v0, v1, v2, v3] (.inl ((roA x q).2 a.toNat) :: st) I J) := ge (A := (44, 655, 0, 0, 0)) rfl
set_option maxRecDepth 10000 in
theorem g_184_654 : GO x d 184 Q 654 [v0, v1, v2, v3] (.inl a :: .inr (.inr (.inl r)) :: st) I J = (okA r 20 ∧ 0 ≤ a ∧ a < lnN r ∧ GO x d 184 Q 655 [v0, v1, v2, v3] (.inl (I r a) :: st) I J) := ge (A := (44, 655, 0, 0, 0)) rfl
set_option maxRecDepth 10000 in
theorem g_184_655 : GO x d 184 Q 655 [some (.inr (.inr w)), v1, v2, v3] st I J = GO x d 184 Q 656 [some (.inr (.inr w)), v1, v2, v3] (.inr (.inr w) :: st) I J := ge (A := (2, 656, 0, 0, 0)) rfl
set_option maxRecDepth 10000 in
theorem g_184_656 : GO x d 184 Q 656 [v0, v1, v2, some (.inl a)] st I J = GO x d 184 Q 657 [v0, v1, v2, some (.inl a)] (.inl a :: st) I J := ge (A := (1, 657, 3, 0, 0)) rfl
set_option maxRecDepth 10000 in
theorem g_184_657 : GO x d 184 Q 657 [v0, v1, v2, v3] st I J = GO x d 184 Q 658 [v0, v1, v2, v3] (.inl (2) :: st) I J := ge (A := (0, 658, 0, 0, 2)) rfl
set_option maxRecDepth 10000 in
theorem g_184_658 : GO x d 184 Q 658 [v0, v1, v2, v3] (.inl b :: .inl a :: st) I J = GO x d 184 Q 659 [v0, v1, v2, v3] (.inl (a + b) :: st) I J := ge (A := (8, 659, 0, 0, 0)) rfl
set_option maxRecDepth 10000 in
theorem h_184_659 : GO x d 184 Q 659 [v0, v1, v2, v3] (.inl a :: .inr (.inr (.inr q)) :: st) I J = (q < 4 ∧ 0 ≤ a ∧ a < (roA x q).1 ∧ GO x d 184 Q 660 [v0, v1, v2, v3] (.inl ((roA x q).2 a.toNat) :: st) I J) := ge (A := (44, 660, 0, 0, 0)) rfl
set_option maxRecDepth 10000 in
theorem g_184_659 : GO x d 184 Q 659 [v0, v1, v2, v3] (.inl a :: .inr (.inr (.inl r)) :: st) I J = (okA r 20 ∧ 0 ≤ a ∧ a < lnN r ∧ GO x d 184 Q 660 [v0, v1, v2, v3] (.inl (I r a) :: st) I J) := ge (A := (44, 660, 0, 0, 0)) rfl
set_option maxRecDepth 10000 in
theorem g_184_660 : GO x d 184 Q 660 [v0, v1, v2, v3] [.inl i0, .inl i1, .inr (.inr (.inl r)), .inl i2] I J = (okO r 10 ∧ EX x d 159 [.inr (.inr (.inl r)), .inl i1, .inl i0] I J (fun r1 I1 J1 => GO x d 184 Q 663 [v0, v1, v2, v3] (r1.toList ++ [.inl i2]) I1 J1)) := (ge (A := (53, 663, 159, 2, 0)) rfl).trans (gtrue (Nat.le_of_ble_eq_true rfl))
set_option maxRecDepth 10000 in
theorem g_184_663 : GO x d 184 Q 663 [v0, v1, v2, v3] (.inl b :: .inl a :: st) I J = (inR a ∧ inR b ∧ if a = b then GO x d 184 Q 961 [v0, v1, v2, v3] st I J else GO x d 184 Q 666 [v0, v1, v2, v3] st I J) := (ge (A := (34, 666, 961, 0, 0)) rfl).trans (gic (p := a = b) inferInstance)
set_option maxRecDepth 10000 in
theorem g_184_666 : GO x d 184 Q 666 [v0, v1, v2, v3] st I J = GO x d 184 Q 667 [v0, v1, v2, v3] (.inl (0) :: st) I J := ge (A := (0, 667, 0, 0, 0)) rfl
set_option maxRecDepth 10000 in
theorem g_184_667 : GO x d 184 Q 667 [v0, v1, v2, v3] [.inl a] I J = (ret01 a ∧ Q (some (.inl a)) I J) := ge (A := (56, 668, 0, 0, 0)) rfl
set_option maxRecDepth 10000 in
theorem g_184_668 : GO x d 184 Q 668 [v0, some (.inr (.inr w)), v2, v3] st I J = GO x d 184 Q 669 [v0, some (.inr (.inr w)), v2, v3] (.inr (.inr w) :: st) I J := ge (A := (2, 669, 1, 0, 0)) rfl
set_option maxRecDepth 10000 in
theorem g_184_669 : GO x d 184 Q 669 [some (.inr (.inr w)), v1, v2, v3] st I J = GO x d 184 Q 670 [some (.inr (.inr w)), v1, v2, v3] (.inr (.inr w) :: st) I J := ge (A := (2, 670, 0, 0, 0)) rfl
set_option maxRecDepth 10000 in
theorem g_184_670 : GO x d 184 Q 670 [v0, v1, v2, some (.inl a)] st I J = GO x d 184 Q 671 [v0, v1, v2, some (.inl a)] (.inl a :: st) I J := ge (A := (1, 671, 3, 0, 0)) rfl
set_option maxRecDepth 10000 in
theorem g_184_671 : GO x d 184 Q 671 [v0, v1, v2, v3] st I J = GO x d 184 Q 672 [v0, v1, v2, v3] (.inl (1) :: st) I J := ge (A := (0, 672, 0, 0, 1)) rfl
set_option maxRecDepth 10000 in
theorem g_184_672 : GO x d 184 Q 672 [v0, v1, v2, v3] (.inl b :: .inl a :: st) I J = GO x d 184 Q 673 [v0, v1, v2, v3] (.inl (a + b) :: st) I J := ge (A := (8, 673, 0, 0, 0)) rfl
set_option maxRecDepth 10000 in
theorem h_184_673 : GO x d 184 Q 673 [v0, v1, v2, v3] (.inl a :: .inr (.inr (.inr q)) :: st) I J = (q < 4 ∧ 0 ≤ a ∧ a < (roA x q).1 ∧ GO x d 184 Q 674 [v0, v1, v2, v3] (.inl ((roA x q).2 a.toNat) :: st) I J) := ge (A := (44, 674, 0, 0, 0)) rfl
set_option maxRecDepth 10000 in
theorem g_184_673 : GO x d 184 Q 673 [v0, v1, v2, v3] (.inl a :: .inr (.inr (.inl r)) :: st) I J = (okA r 20 ∧ 0 ≤ a ∧ a < lnN r ∧ GO x d 184 Q 674 [v0, v1, v2, v3] (.inl (I r a) :: st) I J) := ge (A := (44, 674, 0, 0, 0)) rfl
set_option maxRecDepth 10000 in
theorem g_184_674 : GO x d 184 Q 674 [v0, v1, v2, v3] [.inl i0, .inr (.inr (.inl r))] I J = (okO r 9 ∧ EX x d 92 [.inr (.inr (.inl r)), .inl i0] I J (fun r1 I1 J1 => GO x d 184 Q 677 [v0, v1, v2, v3] (r1.toList ++ []) I1 J1)) := (ge (A := (53, 677, 92, 1, 0)) rfl).trans (gtrue (Nat.le_of_ble_eq_true rfl))
set_option maxRecDepth 10000 in
theorem g_184_677 : GO x d 184 Q 677 [v0, v1, some (.inr (.inr w)), v3] st I J = GO x d 184 Q 678 [v0, v1, some (.inr (.inr w)), v3] (.inr (.inr w) :: st) I J := ge (A := (2, 678, 2, 0, 0)) rfl
set_option maxRecDepth 10000 in
theorem g_184_678 : GO x d 184 Q 678 [some (.inr (.inr w)), v1, v2, v3] st I J = GO x d 184 Q 679 [some (.inr (.inr w)), v1, v2, v3] (.inr (.inr w) :: st) I J := ge (A := (2, 679, 0, 0, 0)) rfl
set_option maxRecDepth 10000 in
theorem g_184_679 : GO x d 184 Q 679 [v0, v1, v2, some (.inl a)] st I J = GO x d 184 Q 680 [v0, v1, v2, some (.inl a)] (.inl a :: st) I J := ge (A := (1, 680, 3, 0, 0)) rfl
set_option maxRecDepth 10000 in
theorem g_184_680 : GO x d 184 Q 680 [v0, v1, v2, v3] st I J = GO x d 184 Q 681 [v0, v1, v2, v3] (.inl (1) :: st) I J := ge (A := (0, 681, 0, 0, 1)) rfl
set_option maxRecDepth 10000 in
theorem g_184_681 : GO x d 184 Q 681 [v0, v1, v2, v3] (.inl b :: .inl a :: st) I J = GO x d 184 Q 682 [v0, v1, v2, v3] (.inl (a + b) :: st) I J := ge (A := (8, 682, 0, 0, 0)) rfl
set_option maxRecDepth 10000 in
theorem h_184_682 : GO x d 184 Q 682 [v0, v1, v2, v3] (.inl a :: .inr (.inr (.inr q)) :: st) I J = (q < 4 ∧ 0 ≤ a ∧ a < (roA x q).1 ∧ GO x d 184 Q 683 [v0, v1, v2, v3] (.inl ((roA x q).2 a.toNat) :: st) I J) := ge (A := (44, 683, 0, 0, 0)) rfl
set_option maxRecDepth 10000 in
theorem g_184_682 : GO x d 184 Q 682 [v0, v1, v2, v3] (.inl a :: .inr (.inr (.inl r)) :: st) I J = (okA r 20 ∧ 0 ≤ a ∧ a < lnN r ∧ GO x d 184 Q 683 [v0, v1, v2, v3] (.inl (I r a) :: st) I J) := ge (A := (44, 683, 0, 0, 0)) rfl
set_option maxRecDepth 10000 in
theorem g_184_683 : GO x d 184 Q 683 [v0, v1, v2, v3] [.inl i0, .inr (.inr (.inl r)), .inl i1] I J = (okO r 10 ∧ EX x d 160 [.inr (.inr (.inl r)), .inl i0] I J (fun r1 I1 J1 => GO x d 184 Q 686 [v0, v1, v2, v3] (r1.toList ++ [.inl i1]) I1 J1)) := (ge (A := (53, 686, 160, 1, 0)) rfl).trans (gtrue (Nat.le_of_ble_eq_true rfl))
set_option maxRecDepth 10000 in
theorem g_184_686 : GO x d 184 Q 686 [v0, v1, v2, v3] (.inl b :: .inl a :: st) I J = (inR a ∧ inR b ∧ if a = b then GO x d 184 Q 961 [v0, v1, v2, v3] st I J else GO x d 184 Q 689 [v0, v1, v2, v3] st I J) := (ge (A := (34, 689, 961, 0, 0)) rfl).trans (gic (p := a = b) inferInstance)
set_option maxRecDepth 10000 in
theorem g_184_689 : GO x d 184 Q 689 [v0, v1, v2, v3] st I J = GO x d 184 Q 690 [v0, v1, v2, v3] (.inl (0) :: st) I J := ge (A := (0, 690, 0, 0, 0)) rfl
set_option maxRecDepth 10000 in
theorem g_184_690 : GO x d 184 Q 690 [v0, v1, v2, v3] [.inl a] I J = (ret01 a ∧ Q (some (.inl a)) I J) := ge (A := (56, 691, 0, 0, 0)) rfl
set_option maxRecDepth 10000 in
theorem g_184_691 : GO x d 184 Q 691 [v0, some (.inr (.inr w)), v2, v3] st I J = GO x d 184 Q 692 [v0, some (.inr (.inr w)), v2, v3] (.inr (.inr w) :: st) I J := ge (A := (2, 692, 1, 0, 0)) rfl
set_option maxRecDepth 10000 in
theorem g_184_692 : GO x d 184 Q 692 [some (.inr (.inr w)), v1, v2, v3] st I J = GO x d 184 Q 693 [some (.inr (.inr w)), v1, v2, v3] (.inr (.inr w) :: st) I J := ge (A := (2, 693, 0, 0, 0)) rfl
set_option maxRecDepth 10000 in
theorem g_184_693 : GO x d 184 Q 693 [v0, v1, v2, some (.inl a)] st I J = GO x d 184 Q 694 [v0, v1, v2, some (.inl a)] (.inl a :: st) I J := ge (A := (1, 694, 3, 0, 0)) rfl
set_option maxRecDepth 10000 in
theorem g_184_694 : GO x d 184 Q 694 [v0, v1, v2, v3] st I J = GO x d 184 Q 695 [v0, v1, v2, v3] (.inl (1) :: st) I J := ge (A := (0, 695, 0, 0, 1)) rfl
set_option maxRecDepth 10000 in
theorem g_184_695 : GO x d 184 Q 695 [v0, v1, v2, v3] (.inl b :: .inl a :: st) I J = GO x d 184 Q 696 [v0, v1, v2, v3] (.inl (a + b) :: st) I J := ge (A := (8, 696, 0, 0, 0)) rfl
set_option maxRecDepth 10000 in
theorem h_184_696 : GO x d 184 Q 696 [v0, v1, v2, v3] (.inl a :: .inr (.inr (.inr q)) :: st) I J = (q < 4 ∧ 0 ≤ a ∧ a < (roA x q).1 ∧ GO x d 184 Q 697 [v0, v1, v2, v3] (.inl ((roA x q).2 a.toNat) :: st) I J) := ge (A := (44, 697, 0, 0, 0)) rfl
set_option maxRecDepth 10000 in
theorem g_184_696 : GO x d 184 Q 696 [v0, v1, v2, v3] (.inl a :: .inr (.inr (.inl r)) :: st) I J = (okA r 20 ∧ 0 ≤ a ∧ a < lnN r ∧ GO x d 184 Q 697 [v0, v1, v2, v3] (.inl (I r a) :: st) I J) := ge (A := (44, 697, 0, 0, 0)) rfl
set_option maxRecDepth 10000 in
theorem g_184_697 : GO x d 184 Q 697 [some (.inr (.inr w)), v1, v2, v3] st I J = GO x d 184 Q 698 [some (.inr (.inr w)), v1, v2, v3] (.inr (.inr w) :: st) I J := ge (A := (2, 698, 0, 0, 0)) rfl
set_option maxRecDepth 10000 in
theorem g_184_698 : GO x d 184 Q 698 [v0, v1, v2, some (.inl a)] st I J = GO x d 184 Q 699 [v0, v1, v2, some (.inl a)] (.inl a :: st) I J := ge (A := (1, 699, 3, 0, 0)) rfl
set_option maxRecDepth 10000 in
theorem g_184_699 : GO x d 184 Q 699 [v0, v1, v2, v3] st I J = GO x d 184 Q 700 [v0, v1, v2, v3] (.inl (2) :: st) I J := ge (A := (0, 700, 0, 0, 2)) rfl
set_option maxRecDepth 10000 in
theorem g_184_700 : GO x d 184 Q 700 [v0, v1, v2, v3] (.inl b :: .inl a :: st) I J = GO x d 184 Q 701 [v0, v1, v2, v3] (.inl (a + b) :: st) I J := ge (A := (8, 701, 0, 0, 0)) rfl
set_option maxRecDepth 10000 in
theorem h_184_701 : GO x d 184 Q 701 [v0, v1, v2, v3] (.inl a :: .inr (.inr (.inr q)) :: st) I J = (q < 4 ∧ 0 ≤ a ∧ a < (roA x q).1 ∧ GO x d 184 Q 702 [v0, v1, v2, v3] (.inl ((roA x q).2 a.toNat) :: st) I J) := ge (A := (44, 702, 0, 0, 0)) rfl
set_option maxRecDepth 10000 in
theorem g_184_701 : GO x d 184 Q 701 [v0, v1, v2, v3] (.inl a :: .inr (.inr (.inl r)) :: st) I J = (okA r 20 ∧ 0 ≤ a ∧ a < lnN r ∧ GO x d 184 Q 702 [v0, v1, v2, v3] (.inl (I r a) :: st) I J) := ge (A := (44, 702, 0, 0, 0)) rfl
set_option maxRecDepth 10000 in
theorem g_184_702 : GO x d 184 Q 702 [v0, v1, v2, v3] [.inl i0, .inl i1, .inr (.inr (.inl r))] I J = (okO r 9 ∧ EX x d 93 [.inr (.inr (.inl r)), .inl i1, .inl i0] I J (fun r1 I1 J1 => GO x d 184 Q 705 [v0, v1, v2, v3] (r1.toList ++ []) I1 J1)) := (ge (A := (53, 705, 93, 2, 0)) rfl).trans (gtrue (Nat.le_of_ble_eq_true rfl))
set_option maxRecDepth 10000 in
theorem g_184_705 : GO x d 184 Q 705 [v0, v1, some (.inr (.inr w)), v3] st I J = GO x d 184 Q 706 [v0, v1, some (.inr (.inr w)), v3] (.inr (.inr w) :: st) I J := ge (A := (2, 706, 2, 0, 0)) rfl
set_option maxRecDepth 10000 in
theorem g_184_706 : GO x d 184 Q 706 [some (.inr (.inr w)), v1, v2, v3] st I J = GO x d 184 Q 707 [some (.inr (.inr w)), v1, v2, v3] (.inr (.inr w) :: st) I J := ge (A := (2, 707, 0, 0, 0)) rfl
set_option maxRecDepth 10000 in
theorem g_184_707 : GO x d 184 Q 707 [v0, v1, v2, some (.inl a)] st I J = GO x d 184 Q 708 [v0, v1, v2, some (.inl a)] (.inl a :: st) I J := ge (A := (1, 708, 3, 0, 0)) rfl
set_option maxRecDepth 10000 in
theorem g_184_708 : GO x d 184 Q 708 [v0, v1, v2, v3] st I J = GO x d 184 Q 709 [v0, v1, v2, v3] (.inl (1) :: st) I J := ge (A := (0, 709, 0, 0, 1)) rfl
set_option maxRecDepth 10000 in
theorem g_184_709 : GO x d 184 Q 709 [v0, v1, v2, v3] (.inl b :: .inl a :: st) I J = GO x d 184 Q 710 [v0, v1, v2, v3] (.inl (a + b) :: st) I J := ge (A := (8, 710, 0, 0, 0)) rfl
set_option maxRecDepth 10000 in
theorem h_184_710 : GO x d 184 Q 710 [v0, v1, v2, v3] (.inl a :: .inr (.inr (.inr q)) :: st) I J = (q < 4 ∧ 0 ≤ a ∧ a < (roA x q).1 ∧ GO x d 184 Q 711 [v0, v1, v2, v3] (.inl ((roA x q).2 a.toNat) :: st) I J) := ge (A := (44, 711, 0, 0, 0)) rfl
set_option maxRecDepth 10000 in
theorem g_184_710 : GO x d 184 Q 710 [v0, v1, v2, v3] (.inl a :: .inr (.inr (.inl r)) :: st) I J = (okA r 20 ∧ 0 ≤ a ∧ a < lnN r ∧ GO x d 184 Q 711 [v0, v1, v2, v3] (.inl (I r a) :: st) I J) := ge (A := (44, 711, 0, 0, 0)) rfl
set_option maxRecDepth 10000 in
theorem g_184_711 : GO x d 184 Q 711 [some (.inr (.inr w)), v1, v2, v3] st I J = GO x d 184 Q 712 [some (.inr (.inr w)), v1, v2, v3] (.inr (.inr w) :: st) I J := ge (A := (2, 712, 0, 0, 0)) rfl
set_option maxRecDepth 10000 in
theorem g_184_712 : GO x d 184 Q 712 [v0, v1, v2, some (.inl a)] st I J = GO x d 184 Q 713 [v0, v1, v2, some (.inl a)] (.inl a :: st) I J := ge (A := (1, 713, 3, 0, 0)) rfl
set_option maxRecDepth 10000 in
theorem g_184_713 : GO x d 184 Q 713 [v0, v1, v2, v3] st I J = GO x d 184 Q 714 [v0, v1, v2, v3] (.inl (2) :: st) I J := ge (A := (0, 714, 0, 0, 2)) rfl
set_option maxRecDepth 10000 in
theorem g_184_714 : GO x d 184 Q 714 [v0, v1, v2, v3] (.inl b :: .inl a :: st) I J = GO x d 184 Q 715 [v0, v1, v2, v3] (.inl (a + b) :: st) I J := ge (A := (8, 715, 0, 0, 0)) rfl
set_option maxRecDepth 10000 in
theorem h_184_715 : GO x d 184 Q 715 [v0, v1, v2, v3] (.inl a :: .inr (.inr (.inr q)) :: st) I J = (q < 4 ∧ 0 ≤ a ∧ a < (roA x q).1 ∧ GO x d 184 Q 716 [v0, v1, v2, v3] (.inl ((roA x q).2 a.toNat) :: st) I J) := ge (A := (44, 716, 0, 0, 0)) rfl
set_option maxRecDepth 10000 in
theorem g_184_715 : GO x d 184 Q 715 [v0, v1, v2, v3] (.inl a :: .inr (.inr (.inl r)) :: st) I J = (okA r 20 ∧ 0 ≤ a ∧ a < lnN r ∧ GO x d 184 Q 716 [v0, v1, v2, v3] (.inl (I r a) :: st) I J) := ge (A := (44, 716, 0, 0, 0)) rfl
set_option maxRecDepth 10000 in
theorem g_184_716 : GO x d 184 Q 716 [v0, v1, v2, v3] [.inl i0, .inl i1, .inr (.inr (.inl r)), .inl i2] I J = (okO r 10 ∧ EX x d 161 [.inr (.inr (.inl r)), .inl i1, .inl i0] I J (fun r1 I1 J1 => GO x d 184 Q 719 [v0, v1, v2, v3] (r1.toList ++ [.inl i2]) I1 J1)) := (ge (A := (53, 719, 161, 2, 0)) rfl).trans (gtrue (Nat.le_of_ble_eq_true rfl))
set_option maxRecDepth 10000 in
theorem g_184_719 : GO x d 184 Q 719 [v0, v1, v2, v3] (.inl b :: .inl a :: st) I J = (inR a ∧ inR b ∧ if a = b then GO x d 184 Q 961 [v0, v1, v2, v3] st I J else GO x d 184 Q 722 [v0, v1, v2, v3] st I J) := (ge (A := (34, 722, 961, 0, 0)) rfl).trans (gic (p := a = b) inferInstance)
set_option maxRecDepth 10000 in
theorem g_184_722 : GO x d 184 Q 722 [v0, v1, v2, v3] st I J = GO x d 184 Q 723 [v0, v1, v2, v3] (.inl (0) :: st) I J := ge (A := (0, 723, 0, 0, 0)) rfl
set_option maxRecDepth 10000 in
theorem g_184_723 : GO x d 184 Q 723 [v0, v1, v2, v3] [.inl a] I J = (ret01 a ∧ Q (some (.inl a)) I J) := ge (A := (56, 724, 0, 0, 0)) rfl
set_option maxRecDepth 10000 in
theorem g_184_724 : GO x d 184 Q 724 [v0, some (.inr (.inr w)), v2, v3] st I J = GO x d 184 Q 725 [v0, some (.inr (.inr w)), v2, v3] (.inr (.inr w) :: st) I J := ge (A := (2, 725, 1, 0, 0)) rfl
set_option maxRecDepth 10000 in
theorem g_184_725 : GO x d 184 Q 725 [some (.inr (.inr w)), v1, v2, v3] st I J = GO x d 184 Q 726 [some (.inr (.inr w)), v1, v2, v3] (.inr (.inr w) :: st) I J := ge (A := (2, 726, 0, 0, 0)) rfl
set_option maxRecDepth 10000 in
theorem g_184_726 : GO x d 184 Q 726 [v0, v1, v2, some (.inl a)] st I J = GO x d 184 Q 727 [v0, v1, v2, some (.inl a)] (.inl a :: st) I J := ge (A := (1, 727, 3, 0, 0)) rfl
set_option maxRecDepth 10000 in
theorem g_184_727 : GO x d 184 Q 727 [v0, v1, v2, v3] st I J = GO x d 184 Q 728 [v0, v1, v2, v3] (.inl (1) :: st) I J := ge (A := (0, 728, 0, 0, 1)) rfl
set_option maxRecDepth 10000 in
theorem g_184_728 : GO x d 184 Q 728 [v0, v1, v2, v3] (.inl b :: .inl a :: st) I J = GO x d 184 Q 729 [v0, v1, v2, v3] (.inl (a + b) :: st) I J := ge (A := (8, 729, 0, 0, 0)) rfl
set_option maxRecDepth 10000 in
theorem h_184_729 : GO x d 184 Q 729 [v0, v1, v2, v3] (.inl a :: .inr (.inr (.inr q)) :: st) I J = (q < 4 ∧ 0 ≤ a ∧ a < (roA x q).1 ∧ GO x d 184 Q 730 [v0, v1, v2, v3] (.inl ((roA x q).2 a.toNat) :: st) I J) := ge (A := (44, 730, 0, 0, 0)) rfl
set_option maxRecDepth 10000 in
theorem g_184_729 : GO x d 184 Q 729 [v0, v1, v2, v3] (.inl a :: .inr (.inr (.inl r)) :: st) I J = (okA r 20 ∧ 0 ≤ a ∧ a < lnN r ∧ GO x d 184 Q 730 [v0, v1, v2, v3] (.inl (I r a) :: st) I J) := ge (A := (44, 730, 0, 0, 0)) rfl
set_option maxRecDepth 10000 in
theorem g_184_730 : GO x d 184 Q 730 [some (.inr (.inr w)), v1, v2, v3] st I J = GO x d 184 Q 731 [some (.inr (.inr w)), v1, v2, v3] (.inr (.inr w) :: st) I J := ge (A := (2, 731, 0, 0, 0)) rfl
set_option maxRecDepth 10000 in
theorem g_184_731 : GO x d 184 Q 731 [v0, v1, v2, some (.inl a)] st I J = GO x d 184 Q 732 [v0, v1, v2, some (.inl a)] (.inl a :: st) I J := ge (A := (1, 732, 3, 0, 0)) rfl
set_option maxRecDepth 10000 in
theorem g_184_732 : GO x d 184 Q 732 [v0, v1, v2, v3] st I J = GO x d 184 Q 733 [v0, v1, v2, v3] (.inl (2) :: st) I J := ge (A := (0, 733, 0, 0, 2)) rfl
set_option maxRecDepth 10000 in
theorem g_184_733 : GO x d 184 Q 733 [v0, v1, v2, v3] (.inl b :: .inl a :: st) I J = GO x d 184 Q 734 [v0, v1, v2, v3] (.inl (a + b) :: st) I J := ge (A := (8, 734, 0, 0, 0)) rfl
set_option maxRecDepth 10000 in
theorem h_184_734 : GO x d 184 Q 734 [v0, v1, v2, v3] (.inl a :: .inr (.inr (.inr q)) :: st) I J = (q < 4 ∧ 0 ≤ a ∧ a < (roA x q).1 ∧ GO x d 184 Q 735 [v0, v1, v2, v3] (.inl ((roA x q).2 a.toNat) :: st) I J) := ge (A := (44, 735, 0, 0, 0)) rfl
set_option maxRecDepth 10000 in
theorem g_184_734 : GO x d 184 Q 734 [v0, v1, v2, v3] (.inl a :: .inr (.inr (.inl r)) :: st) I J = (okA r 20 ∧ 0 ≤ a ∧ a < lnN r ∧ GO x d 184 Q 735 [v0, v1, v2, v3] (.inl (I r a) :: st) I J) := ge (A := (44, 735, 0, 0, 0)) rfl
set_option maxRecDepth 10000 in
theorem g_184_735 : GO x d 184 Q 735 [some (.inr (.inr w)), v1, v2, v3] st I J = GO x d 184 Q 736 [some (.inr (.inr w)), v1, v2, v3] (.inr (.inr w) :: st) I J := ge (A := (2, 736, 0, 0, 0)) rfl
set_option maxRecDepth 10000 in
theorem g_184_736 : GO x d 184 Q 736 [v0, v1, v2, some (.inl a)] st I J = GO x d 184 Q 737 [v0, v1, v2, some (.inl a)] (.inl a :: st) I J := ge (A := (1, 737, 3, 0, 0)) rfl
set_option maxRecDepth 10000 in
theorem g_184_737 : GO x d 184 Q 737 [v0, v1, v2, v3] st I J = GO x d 184 Q 738 [v0, v1, v2, v3] (.inl (3) :: st) I J := ge (A := (0, 738, 0, 0, 3)) rfl
set_option maxRecDepth 10000 in
theorem g_184_738 : GO x d 184 Q 738 [v0, v1, v2, v3] (.inl b :: .inl a :: st) I J = GO x d 184 Q 739 [v0, v1, v2, v3] (.inl (a + b) :: st) I J := ge (A := (8, 739, 0, 0, 0)) rfl
set_option maxRecDepth 10000 in
theorem h_184_739 : GO x d 184 Q 739 [v0, v1, v2, v3] (.inl a :: .inr (.inr (.inr q)) :: st) I J = (q < 4 ∧ 0 ≤ a ∧ a < (roA x q).1 ∧ GO x d 184 Q 740 [v0, v1, v2, v3] (.inl ((roA x q).2 a.toNat) :: st) I J) := ge (A := (44, 740, 0, 0, 0)) rfl
set_option maxRecDepth 10000 in
theorem g_184_739 : GO x d 184 Q 739 [v0, v1, v2, v3] (.inl a :: .inr (.inr (.inl r)) :: st) I J = (okA r 20 ∧ 0 ≤ a ∧ a < lnN r ∧ GO x d 184 Q 740 [v0, v1, v2, v3] (.inl (I r a) :: st) I J) := ge (A := (44, 740, 0, 0, 0)) rfl
set_option maxRecDepth 10000 in
theorem g_184_740 : GO x d 184 Q 740 [v0, v1, v2, v3] [.inl i0, .inl i1, .inl i2, .inr (.inr (.inl r))] I J = (okO r 9 ∧ EX x d 94 [.inr (.inr (.inl r)), .inl i2, .inl i1, .inl i0] I J (fun r1 I1 J1 => GO x d 184 Q 743 [v0, v1, v2, v3] (r1.toList ++ []) I1 J1)) := (ge (A := (53, 743, 94, 3, 0)) rfl).trans (gtrue (Nat.le_of_ble_eq_true rfl))
set_option maxRecDepth 10000 in
theorem g_184_743 : GO x d 184 Q 743 [v0, v1, some (.inr (.inr w)), v3] st I J = GO x d 184 Q 744 [v0, v1, some (.inr (.inr w)), v3] (.inr (.inr w) :: st) I J := ge (A := (2, 744, 2, 0, 0)) rfl
set_option maxRecDepth 10000 in
theorem g_184_744 : GO x d 184 Q 744 [some (.inr (.inr w)), v1, v2, v3] st I J = GO x d 184 Q 745 [some (.inr (.inr w)), v1, v2, v3] (.inr (.inr w) :: st) I J := ge (A := (2, 745, 0, 0, 0)) rfl
set_option maxRecDepth 10000 in
theorem g_184_745 : GO x d 184 Q 745 [v0, v1, v2, some (.inl a)] st I J = GO x d 184 Q 746 [v0, v1, v2, some (.inl a)] (.inl a :: st) I J := ge (A := (1, 746, 3, 0, 0)) rfl
set_option maxRecDepth 10000 in
theorem g_184_746 : GO x d 184 Q 746 [v0, v1, v2, v3] st I J = GO x d 184 Q 747 [v0, v1, v2, v3] (.inl (1) :: st) I J := ge (A := (0, 747, 0, 0, 1)) rfl
set_option maxRecDepth 10000 in
theorem g_184_747 : GO x d 184 Q 747 [v0, v1, v2, v3] (.inl b :: .inl a :: st) I J = GO x d 184 Q 748 [v0, v1, v2, v3] (.inl (a + b) :: st) I J := ge (A := (8, 748, 0, 0, 0)) rfl
set_option maxRecDepth 10000 in
theorem h_184_748 : GO x d 184 Q 748 [v0, v1, v2, v3] (.inl a :: .inr (.inr (.inr q)) :: st) I J = (q < 4 ∧ 0 ≤ a ∧ a < (roA x q).1 ∧ GO x d 184 Q 749 [v0, v1, v2, v3] (.inl ((roA x q).2 a.toNat) :: st) I J) := ge (A := (44, 749, 0, 0, 0)) rfl
set_option maxRecDepth 10000 in
theorem g_184_748 : GO x d 184 Q 748 [v0, v1, v2, v3] (.inl a :: .inr (.inr (.inl r)) :: st) I J = (okA r 20 ∧ 0 ≤ a ∧ a < lnN r ∧ GO x d 184 Q 749 [v0, v1, v2, v3] (.inl (I r a) :: st) I J) := ge (A := (44, 749, 0, 0, 0)) rfl
set_option maxRecDepth 10000 in
theorem g_184_749 : GO x d 184 Q 749 [some (.inr (.inr w)), v1, v2, v3] st I J = GO x d 184 Q 750 [some (.inr (.inr w)), v1, v2, v3] (.inr (.inr w) :: st) I J := ge (A := (2, 750, 0, 0, 0)) rfl
set_option maxRecDepth 10000 in
theorem g_184_750 : GO x d 184 Q 750 [v0, v1, v2, some (.inl a)] st I J = GO x d 184 Q 751 [v0, v1, v2, some (.inl a)] (.inl a :: st) I J := ge (A := (1, 751, 3, 0, 0)) rfl
set_option maxRecDepth 10000 in
theorem g_184_751 : GO x d 184 Q 751 [v0, v1, v2, v3] st I J = GO x d 184 Q 752 [v0, v1, v2, v3] (.inl (2) :: st) I J := ge (A := (0, 752, 0, 0, 2)) rfl
set_option maxRecDepth 10000 in
theorem g_184_752 : GO x d 184 Q 752 [v0, v1, v2, v3] (.inl b :: .inl a :: st) I J = GO x d 184 Q 753 [v0, v1, v2, v3] (.inl (a + b) :: st) I J := ge (A := (8, 753, 0, 0, 0)) rfl
set_option maxRecDepth 10000 in
theorem h_184_753 : GO x d 184 Q 753 [v0, v1, v2, v3] (.inl a :: .inr (.inr (.inr q)) :: st) I J = (q < 4 ∧ 0 ≤ a ∧ a < (roA x q).1 ∧ GO x d 184 Q 754 [v0, v1, v2, v3] (.inl ((roA x q).2 a.toNat) :: st) I J) := ge (A := (44, 754, 0, 0, 0)) rfl
set_option maxRecDepth 10000 in
theorem g_184_753 : GO x d 184 Q 753 [v0, v1, v2, v3] (.inl a :: .inr (.inr (.inl r)) :: st) I J = (okA r 20 ∧ 0 ≤ a ∧ a < lnN r ∧ GO x d 184 Q 754 [v0, v1, v2, v3] (.inl (I r a) :: st) I J) := ge (A := (44, 754, 0, 0, 0)) rfl
set_option maxRecDepth 10000 in
theorem g_184_754 : GO x d 184 Q 754 [some (.inr (.inr w)), v1, v2, v3] st I J = GO x d 184 Q 755 [some (.inr (.inr w)), v1, v2, v3] (.inr (.inr w) :: st) I J := ge (A := (2, 755, 0, 0, 0)) rfl
set_option maxRecDepth 10000 in
theorem g_184_755 : GO x d 184 Q 755 [v0, v1, v2, some (.inl a)] st I J = GO x d 184 Q 756 [v0, v1, v2, some (.inl a)] (.inl a :: st) I J := ge (A := (1, 756, 3, 0, 0)) rfl
set_option maxRecDepth 10000 in
theorem g_184_756 : GO x d 184 Q 756 [v0, v1, v2, v3] st I J = GO x d 184 Q 757 [v0, v1, v2, v3] (.inl (3) :: st) I J := ge (A := (0, 757, 0, 0, 3)) rfl
set_option maxRecDepth 10000 in
theorem g_184_757 : GO x d 184 Q 757 [v0, v1, v2, v3] (.inl b :: .inl a :: st) I J = GO x d 184 Q 758 [v0, v1, v2, v3] (.inl (a + b) :: st) I J := ge (A := (8, 758, 0, 0, 0)) rfl
set_option maxRecDepth 10000 in
theorem h_184_758 : GO x d 184 Q 758 [v0, v1, v2, v3] (.inl a :: .inr (.inr (.inr q)) :: st) I J = (q < 4 ∧ 0 ≤ a ∧ a < (roA x q).1 ∧ GO x d 184 Q 759 [v0, v1, v2, v3] (.inl ((roA x q).2 a.toNat) :: st) I J) := ge (A := (44, 759, 0, 0, 0)) rfl
set_option maxRecDepth 10000 in
theorem g_184_758 : GO x d 184 Q 758 [v0, v1, v2, v3] (.inl a :: .inr (.inr (.inl r)) :: st) I J = (okA r 20 ∧ 0 ≤ a ∧ a < lnN r ∧ GO x d 184 Q 759 [v0, v1, v2, v3] (.inl (I r a) :: st) I J) := ge (A := (44, 759, 0, 0, 0)) rfl
set_option maxRecDepth 10000 in
theorem g_184_759 : GO x d 184 Q 759 [v0, v1, v2, v3] [.inl i0, .inl i1, .inl i2, .inr (.inr (.inl r)), .inl i3] I J = (okO r 10 ∧ EX x d 163 [.inr (.inr (.inl r)), .inl i2, .inl i1, .inl i0] I J (fun r1 I1 J1 => GO x d 184 Q 762 [v0, v1, v2, v3] (r1.toList ++ [.inl i3]) I1 J1)) := (ge (A := (53, 762, 163, 3, 0)) rfl).trans (gtrue (Nat.le_of_ble_eq_true rfl))
set_option maxRecDepth 10000 in
theorem g_184_762 : GO x d 184 Q 762 [v0, v1, v2, v3] (.inl b :: .inl a :: st) I J = (inR a ∧ inR b ∧ if a = b then GO x d 184 Q 961 [v0, v1, v2, v3] st I J else GO x d 184 Q 765 [v0, v1, v2, v3] st I J) := (ge (A := (34, 765, 961, 0, 0)) rfl).trans (gic (p := a = b) inferInstance)
set_option maxRecDepth 10000 in
theorem g_184_765 : GO x d 184 Q 765 [v0, v1, v2, v3] st I J = GO x d 184 Q 766 [v0, v1, v2, v3] (.inl (0) :: st) I J := ge (A := (0, 766, 0, 0, 0)) rfl
set_option maxRecDepth 10000 in
theorem g_184_766 : GO x d 184 Q 766 [v0, v1, v2, v3] [.inl a] I J = (ret01 a ∧ Q (some (.inl a)) I J) := ge (A := (56, 767, 0, 0, 0)) rfl
set_option maxRecDepth 10000 in
theorem g_184_767 : GO x d 184 Q 767 [v0, some (.inr (.inr w)), v2, v3] st I J = GO x d 184 Q 768 [v0, some (.inr (.inr w)), v2, v3] (.inr (.inr w) :: st) I J := ge (A := (2, 768, 1, 0, 0)) rfl
set_option maxRecDepth 10000 in
theorem g_184_768 : GO x d 184 Q 768 [some (.inr (.inr w)), v1, v2, v3] st I J = GO x d 184 Q 769 [some (.inr (.inr w)), v1, v2, v3] (.inr (.inr w) :: st) I J := ge (A := (2, 769, 0, 0, 0)) rfl
set_option maxRecDepth 10000 in
theorem g_184_769 : GO x d 184 Q 769 [v0, v1, v2, some (.inl a)] st I J = GO x d 184 Q 770 [v0, v1, v2, some (.inl a)] (.inl a :: st) I J := ge (A := (1, 770, 3, 0, 0)) rfl
set_option maxRecDepth 10000 in
theorem g_184_770 : GO x d 184 Q 770 [v0, v1, v2, v3] st I J = GO x d 184 Q 771 [v0, v1, v2, v3] (.inl (1) :: st) I J := ge (A := (0, 771, 0, 0, 1)) rfl
set_option maxRecDepth 10000 in
theorem g_184_771 : GO x d 184 Q 771 [v0, v1, v2, v3] (.inl b :: .inl a :: st) I J = GO x d 184 Q 772 [v0, v1, v2, v3] (.inl (a + b) :: st) I J := ge (A := (8, 772, 0, 0, 0)) rfl
set_option maxRecDepth 10000 in
theorem h_184_772 : GO x d 184 Q 772 [v0, v1, v2, v3] (.inl a :: .inr (.inr (.inr q)) :: st) I J = (q < 4 ∧ 0 ≤ a ∧ a < (roA x q).1 ∧ GO x d 184 Q 773 [v0, v1, v2, v3] (.inl ((roA x q).2 a.toNat) :: st) I J) := ge (A := (44, 773, 0, 0, 0)) rfl
set_option maxRecDepth 10000 in
theorem g_184_772 : GO x d 184 Q 772 [v0, v1, v2, v3] (.inl a :: .inr (.inr (.inl r)) :: st) I J = (okA r 20 ∧ 0 ≤ a ∧ a < lnN r ∧ GO x d 184 Q 773 [v0, v1, v2, v3] (.inl (I r a) :: st) I J) := ge (A := (44, 773, 0, 0, 0)) rfl
set_option maxRecDepth 10000 in
theorem g_184_773 : GO x d 184 Q 773 [v0, v1, v2, v3] [.inl i0, .inr (.inr (.inl r))] I J = (okO r 9 ∧ EX x d 95 [.inr (.inr (.inl r)), .inl i0] I J (fun r1 I1 J1 => GO x d 184 Q 776 [v0, v1, v2, v3] (r1.toList ++ []) I1 J1)) := (ge (A := (53, 776, 95, 1, 0)) rfl).trans (gtrue (Nat.le_of_ble_eq_true rfl))
set_option maxRecDepth 10000 in
theorem g_184_776 : GO x d 184 Q 776 [v0, v1, some (.inr (.inr w)), v3] st I J = GO x d 184 Q 777 [v0, v1, some (.inr (.inr w)), v3] (.inr (.inr w) :: st) I J := ge (A := (2, 777, 2, 0, 0)) rfl
set_option maxRecDepth 10000 in
theorem g_184_777 : GO x d 184 Q 777 [some (.inr (.inr w)), v1, v2, v3] st I J = GO x d 184 Q 778 [some (.inr (.inr w)), v1, v2, v3] (.inr (.inr w) :: st) I J := ge (A := (2, 778, 0, 0, 0)) rfl
set_option maxRecDepth 10000 in
theorem g_184_778 : GO x d 184 Q 778 [v0, v1, v2, some (.inl a)] st I J = GO x d 184 Q 779 [v0, v1, v2, some (.inl a)] (.inl a :: st) I J := ge (A := (1, 779, 3, 0, 0)) rfl
set_option maxRecDepth 10000 in
theorem g_184_779 : GO x d 184 Q 779 [v0, v1, v2, v3] st I J = GO x d 184 Q 780 [v0, v1, v2, v3] (.inl (1) :: st) I J := ge (A := (0, 780, 0, 0, 1)) rfl
set_option maxRecDepth 10000 in
theorem g_184_780 : GO x d 184 Q 780 [v0, v1, v2, v3] (.inl b :: .inl a :: st) I J = GO x d 184 Q 781 [v0, v1, v2, v3] (.inl (a + b) :: st) I J := ge (A := (8, 781, 0, 0, 0)) rfl
set_option maxRecDepth 10000 in
theorem h_184_781 : GO x d 184 Q 781 [v0, v1, v2, v3] (.inl a :: .inr (.inr (.inr q)) :: st) I J = (q < 4 ∧ 0 ≤ a ∧ a < (roA x q).1 ∧ GO x d 184 Q 782 [v0, v1, v2, v3] (.inl ((roA x q).2 a.toNat) :: st) I J) := ge (A := (44, 782, 0, 0, 0)) rfl
set_option maxRecDepth 10000 in
theorem g_184_781 : GO x d 184 Q 781 [v0, v1, v2, v3] (.inl a :: .inr (.inr (.inl r)) :: st) I J = (okA r 20 ∧ 0 ≤ a ∧ a < lnN r ∧ GO x d 184 Q 782 [v0, v1, v2, v3] (.inl (I r a) :: st) I J) := ge (A := (44, 782, 0, 0, 0)) rfl
set_option maxRecDepth 10000 in
theorem g_184_782 : GO x d 184 Q 782 [v0, v1, v2, v3] [.inl i0, .inr (.inr (.inl r)), .inl i1] I J = (okO r 10 ∧ EX x d 164 [.inr (.inr (.inl r)), .inl i0] I J (fun r1 I1 J1 => GO x d 184 Q 785 [v0, v1, v2, v3] (r1.toList ++ [.inl i1]) I1 J1)) := (ge (A := (53, 785, 164, 1, 0)) rfl).trans (gtrue (Nat.le_of_ble_eq_true rfl))
set_option maxRecDepth 10000 in
theorem g_184_785 : GO x d 184 Q 785 [v0, v1, v2, v3] (.inl b :: .inl a :: st) I J = (inR a ∧ inR b ∧ if a = b then GO x d 184 Q 961 [v0, v1, v2, v3] st I J else GO x d 184 Q 788 [v0, v1, v2, v3] st I J) := (ge (A := (34, 788, 961, 0, 0)) rfl).trans (gic (p := a = b) inferInstance)
set_option maxRecDepth 10000 in
theorem g_184_788 : GO x d 184 Q 788 [v0, v1, v2, v3] st I J = GO x d 184 Q 789 [v0, v1, v2, v3] (.inl (0) :: st) I J := ge (A := (0, 789, 0, 0, 0)) rfl
set_option maxRecDepth 10000 in
theorem g_184_789 : GO x d 184 Q 789 [v0, v1, v2, v3] [.inl a] I J = (ret01 a ∧ Q (some (.inl a)) I J) := ge (A := (56, 790, 0, 0, 0)) rfl
set_option maxRecDepth 10000 in
theorem g_184_790 : GO x d 184 Q 790 [v0, some (.inr (.inr w)), v2, v3] st I J = GO x d 184 Q 791 [v0, some (.inr (.inr w)), v2, v3] (.inr (.inr w) :: st) I J := ge (A := (2, 791, 1, 0, 0)) rfl
set_option maxRecDepth 10000 in
theorem g_184_791 : GO x d 184 Q 791 [some (.inr (.inr w)), v1, v2, v3] st I J = GO x d 184 Q 792 [some (.inr (.inr w)), v1, v2, v3] (.inr (.inr w) :: st) I J := ge (A := (2, 792, 0, 0, 0)) rfl
set_option maxRecDepth 10000 in
theorem g_184_792 : GO x d 184 Q 792 [v0, v1, v2, some (.inl a)] st I J = GO x d 184 Q 793 [v0, v1, v2, some (.inl a)] (.inl a :: st) I J := ge (A := (1, 793, 3, 0, 0)) rfl
set_option maxRecDepth 10000 in
theorem g_184_793 : GO x d 184 Q 793 [v0, v1, v2, v3] st I J = GO x d 184 Q 794 [v0, v1, v2, v3] (.inl (1) :: st) I J := ge (A := (0, 794, 0, 0, 1)) rfl
set_option maxRecDepth 10000 in
theorem g_184_794 : GO x d 184 Q 794 [v0, v1, v2, v3] (.inl b :: .inl a :: st) I J = GO x d 184 Q 795 [v0, v1, v2, v3] (.inl (a + b) :: st) I J := ge (A := (8, 795, 0, 0, 0)) rfl
set_option maxRecDepth 10000 in
theorem h_184_795 : GO x d 184 Q 795 [v0, v1, v2, v3] (.inl a :: .inr (.inr (.inr q)) :: st) I J = (q < 4 ∧ 0 ≤ a ∧ a < (roA x q).1 ∧ GO x d 184 Q 796 [v0, v1, v2, v3] (.inl ((roA x q).2 a.toNat) :: st) I J) := ge (A := (44, 796, 0, 0, 0)) rfl
set_option maxRecDepth 10000 in
theorem g_184_795 : GO x d 184 Q 795 [v0, v1, v2, v3] (.inl a :: .inr (.inr (.inl r)) :: st) I J = (okA r 20 ∧ 0 ≤ a ∧ a < lnN r ∧ GO x d 184 Q 796 [v0, v1, v2, v3] (.inl (I r a) :: st) I J) := ge (A := (44, 796, 0, 0, 0)) rfl
set_option maxRecDepth 10000 in
theorem g_184_796 : GO x d 184 Q 796 [v0, v1, v2, v3] [.inl i0, .inr (.inr (.inl r))] I J = (okO r 9 ∧ EX x d 96 [.inr (.inr (.inl r)), .inl i0] I J (fun r1 I1 J1 => GO x d 184 Q 799 [v0, v1, v2, v3] (r1.toList ++ []) I1 J1)) := (ge (A := (53, 799, 96, 1, 0)) rfl).trans (gtrue (Nat.le_of_ble_eq_true rfl))
set_option maxRecDepth 10000 in
theorem g_184_799 : GO x d 184 Q 799 [v0, v1, some (.inr (.inr w)), v3] st I J = GO x d 184 Q 800 [v0, v1, some (.inr (.inr w)), v3] (.inr (.inr w) :: st) I J := ge (A := (2, 800, 2, 0, 0)) rfl
set_option maxRecDepth 10000 in
theorem g_184_800 : GO x d 184 Q 800 [some (.inr (.inr w)), v1, v2, v3] st I J = GO x d 184 Q 801 [some (.inr (.inr w)), v1, v2, v3] (.inr (.inr w) :: st) I J := ge (A := (2, 801, 0, 0, 0)) rfl
set_option maxRecDepth 10000 in
theorem g_184_801 : GO x d 184 Q 801 [v0, v1, v2, some (.inl a)] st I J = GO x d 184 Q 802 [v0, v1, v2, some (.inl a)] (.inl a :: st) I J := ge (A := (1, 802, 3, 0, 0)) rfl
set_option maxRecDepth 10000 in
theorem g_184_802 : GO x d 184 Q 802 [v0, v1, v2, v3] st I J = GO x d 184 Q 803 [v0, v1, v2, v3] (.inl (1) :: st) I J := ge (A := (0, 803, 0, 0, 1)) rfl
set_option maxRecDepth 10000 in
theorem g_184_803 : GO x d 184 Q 803 [v0, v1, v2, v3] (.inl b :: .inl a :: st) I J = GO x d 184 Q 804 [v0, v1, v2, v3] (.inl (a + b) :: st) I J := ge (A := (8, 804, 0, 0, 0)) rfl
set_option maxRecDepth 10000 in
theorem h_184_804 : GO x d 184 Q 804 [v0, v1, v2, v3] (.inl a :: .inr (.inr (.inr q)) :: st) I J = (q < 4 ∧ 0 ≤ a ∧ a < (roA x q).1 ∧ GO x d 184 Q 805 [v0, v1, v2, v3] (.inl ((roA x q).2 a.toNat) :: st) I J) := ge (A := (44, 805, 0, 0, 0)) rfl
set_option maxRecDepth 10000 in
theorem g_184_804 : GO x d 184 Q 804 [v0, v1, v2, v3] (.inl a :: .inr (.inr (.inl r)) :: st) I J = (okA r 20 ∧ 0 ≤ a ∧ a < lnN r ∧ GO x d 184 Q 805 [v0, v1, v2, v3] (.inl (I r a) :: st) I J) := ge (A := (44, 805, 0, 0, 0)) rfl
set_option maxRecDepth 10000 in
theorem g_184_805 : GO x d 184 Q 805 [v0, v1, v2, v3] [.inl i0, .inr (.inr (.inl r)), .inl i1] I J = (okO r 10 ∧ EX x d 165 [.inr (.inr (.inl r)), .inl i0] I J (fun r1 I1 J1 => GO x d 184 Q 808 [v0, v1, v2, v3] (r1.toList ++ [.inl i1]) I1 J1)) := (ge (A := (53, 808, 165, 1, 0)) rfl).trans (gtrue (Nat.le_of_ble_eq_true rfl))
set_option maxRecDepth 10000 in
theorem g_184_808 : GO x d 184 Q 808 [v0, v1, v2, v3] (.inl b :: .inl a :: st) I J = (inR a ∧ inR b ∧ if a = b then GO x d 184 Q 961 [v0, v1, v2, v3] st I J else GO x d 184 Q 811 [v0, v1, v2, v3] st I J) := (ge (A := (34, 811, 961, 0, 0)) rfl).trans (gic (p := a = b) inferInstance)
set_option maxRecDepth 10000 in
theorem g_184_811 : GO x d 184 Q 811 [v0, v1, v2, v3] st I J = GO x d 184 Q 812 [v0, v1, v2, v3] (.inl (0) :: st) I J := ge (A := (0, 812, 0, 0, 0)) rfl
set_option maxRecDepth 10000 in
theorem g_184_812 : GO x d 184 Q 812 [v0, v1, v2, v3] [.inl a] I J = (ret01 a ∧ Q (some (.inl a)) I J) := ge (A := (56, 813, 0, 0, 0)) rfl
set_option maxRecDepth 10000 in
theorem g_184_813 : GO x d 184 Q 813 [v0, some (.inr (.inr w)), v2, v3] st I J = GO x d 184 Q 814 [v0, some (.inr (.inr w)), v2, v3] (.inr (.inr w) :: st) I J := ge (A := (2, 814, 1, 0, 0)) rfl
set_option maxRecDepth 10000 in
theorem g_184_814 : GO x d 184 Q 814 [some (.inr (.inr w)), v1, v2, v3] st I J = GO x d 184 Q 815 [some (.inr (.inr w)), v1, v2, v3] (.inr (.inr w) :: st) I J := ge (A := (2, 815, 0, 0, 0)) rfl
set_option maxRecDepth 10000 in
theorem g_184_815 : GO x d 184 Q 815 [v0, v1, v2, some (.inl a)] st I J = GO x d 184 Q 816 [v0, v1, v2, some (.inl a)] (.inl a :: st) I J := ge (A := (1, 816, 3, 0, 0)) rfl
set_option maxRecDepth 10000 in
theorem g_184_816 : GO x d 184 Q 816 [v0, v1, v2, v3] st I J = GO x d 184 Q 817 [v0, v1, v2, v3] (.inl (1) :: st) I J := ge (A := (0, 817, 0, 0, 1)) rfl
set_option maxRecDepth 10000 in
theorem g_184_817 : GO x d 184 Q 817 [v0, v1, v2, v3] (.inl b :: .inl a :: st) I J = GO x d 184 Q 818 [v0, v1, v2, v3] (.inl (a + b) :: st) I J := ge (A := (8, 818, 0, 0, 0)) rfl
set_option maxRecDepth 10000 in
theorem h_184_818 : GO x d 184 Q 818 [v0, v1, v2, v3] (.inl a :: .inr (.inr (.inr q)) :: st) I J = (q < 4 ∧ 0 ≤ a ∧ a < (roA x q).1 ∧ GO x d 184 Q 819 [v0, v1, v2, v3] (.inl ((roA x q).2 a.toNat) :: st) I J) := ge (A := (44, 819, 0, 0, 0)) rfl
set_option maxRecDepth 10000 in
theorem g_184_818 : GO x d 184 Q 818 [v0, v1, v2, v3] (.inl a :: .inr (.inr (.inl r)) :: st) I J = (okA r 20 ∧ 0 ≤ a ∧ a < lnN r ∧ GO x d 184 Q 819 [v0, v1, v2, v3] (.inl (I r a) :: st) I J) := ge (A := (44, 819, 0, 0, 0)) rfl
set_option maxRecDepth 10000 in
theorem g_184_819 : GO x d 184 Q 819 [v0, v1, v2, v3] [.inl i0, .inr (.inr (.inl r))] I J = (okO r 9 ∧ EX x d 97 [.inr (.inr (.inl r)), .inl i0] I J (fun r1 I1 J1 => GO x d 184 Q 822 [v0, v1, v2, v3] (r1.toList ++ []) I1 J1)) := (ge (A := (53, 822, 97, 1, 0)) rfl).trans (gtrue (Nat.le_of_ble_eq_true rfl))
set_option maxRecDepth 10000 in
theorem g_184_822 : GO x d 184 Q 822 [v0, v1, some (.inr (.inr w)), v3] st I J = GO x d 184 Q 823 [v0, v1, some (.inr (.inr w)), v3] (.inr (.inr w) :: st) I J := ge (A := (2, 823, 2, 0, 0)) rfl
set_option maxRecDepth 10000 in
theorem g_184_823 : GO x d 184 Q 823 [some (.inr (.inr w)), v1, v2, v3] st I J = GO x d 184 Q 824 [some (.inr (.inr w)), v1, v2, v3] (.inr (.inr w) :: st) I J := ge (A := (2, 824, 0, 0, 0)) rfl
set_option maxRecDepth 10000 in
theorem g_184_824 : GO x d 184 Q 824 [v0, v1, v2, some (.inl a)] st I J = GO x d 184 Q 825 [v0, v1, v2, some (.inl a)] (.inl a :: st) I J := ge (A := (1, 825, 3, 0, 0)) rfl
set_option maxRecDepth 10000 in
theorem g_184_825 : GO x d 184 Q 825 [v0, v1, v2, v3] st I J = GO x d 184 Q 826 [v0, v1, v2, v3] (.inl (1) :: st) I J := ge (A := (0, 826, 0, 0, 1)) rfl
set_option maxRecDepth 10000 in
theorem g_184_826 : GO x d 184 Q 826 [v0, v1, v2, v3] (.inl b :: .inl a :: st) I J = GO x d 184 Q 827 [v0, v1, v2, v3] (.inl (a + b) :: st) I J := ge (A := (8, 827, 0, 0, 0)) rfl
set_option maxRecDepth 10000 in
theorem h_184_827 : GO x d 184 Q 827 [v0, v1, v2, v3] (.inl a :: .inr (.inr (.inr q)) :: st) I J = (q < 4 ∧ 0 ≤ a ∧ a < (roA x q).1 ∧ GO x d 184 Q 828 [v0, v1, v2, v3] (.inl ((roA x q).2 a.toNat) :: st) I J) := ge (A := (44, 828, 0, 0, 0)) rfl
set_option maxRecDepth 10000 in
theorem g_184_827 : GO x d 184 Q 827 [v0, v1, v2, v3] (.inl a :: .inr (.inr (.inl r)) :: st) I J = (okA r 20 ∧ 0 ≤ a ∧ a < lnN r ∧ GO x d 184 Q 828 [v0, v1, v2, v3] (.inl (I r a) :: st) I J) := ge (A := (44, 828, 0, 0, 0)) rfl
set_option maxRecDepth 10000 in
theorem g_184_828 : GO x d 184 Q 828 [v0, v1, v2, v3] [.inl i0, .inr (.inr (.inl r)), .inl i1] I J = (okO r 10 ∧ EX x d 166 [.inr (.inr (.inl r)), .inl i0] I J (fun r1 I1 J1 => GO x d 184 Q 831 [v0, v1, v2, v3] (r1.toList ++ [.inl i1]) I1 J1)) := (ge (A := (53, 831, 166, 1, 0)) rfl).trans (gtrue (Nat.le_of_ble_eq_true rfl))
set_option maxRecDepth 10000 in
theorem g_184_831 : GO x d 184 Q 831 [v0, v1, v2, v3] (.inl b :: .inl a :: st) I J = (inR a ∧ inR b ∧ if a = b then GO x d 184 Q 961 [v0, v1, v2, v3] st I J else GO x d 184 Q 834 [v0, v1, v2, v3] st I J) := (ge (A := (34, 834, 961, 0, 0)) rfl).trans (gic (p := a = b) inferInstance)
set_option maxRecDepth 10000 in
theorem g_184_834 : GO x d 184 Q 834 [v0, v1, v2, v3] st I J = GO x d 184 Q 835 [v0, v1, v2, v3] (.inl (0) :: st) I J := ge (A := (0, 835, 0, 0, 0)) rfl
set_option maxRecDepth 10000 in
theorem g_184_835 : GO x d 184 Q 835 [v0, v1, v2, v3] [.inl a] I J = (ret01 a ∧ Q (some (.inl a)) I J) := ge (A := (56, 836, 0, 0, 0)) rfl
set_option maxRecDepth 10000 in
theorem g_184_836 : GO x d 184 Q 836 [v0, some (.inr (.inr w)), v2, v3] st I J = GO x d 184 Q 837 [v0, some (.inr (.inr w)), v2, v3] (.inr (.inr w) :: st) I J := ge (A := (2, 837, 1, 0, 0)) rfl
set_option maxRecDepth 10000 in
theorem g_184_837 : GO x d 184 Q 837 [some (.inr (.inr w)), v1, v2, v3] st I J = GO x d 184 Q 838 [some (.inr (.inr w)), v1, v2, v3] (.inr (.inr w) :: st) I J := ge (A := (2, 838, 0, 0, 0)) rfl
set_option maxRecDepth 10000 in
theorem g_184_838 : GO x d 184 Q 838 [v0, v1, v2, some (.inl a)] st I J = GO x d 184 Q 839 [v0, v1, v2, some (.inl a)] (.inl a :: st) I J := ge (A := (1, 839, 3, 0, 0)) rfl
set_option maxRecDepth 10000 in
theorem g_184_839 : GO x d 184 Q 839 [v0, v1, v2, v3] st I J = GO x d 184 Q 840 [v0, v1, v2, v3] (.inl (1) :: st) I J := ge (A := (0, 840, 0, 0, 1)) rfl
set_option maxRecDepth 10000 in
theorem g_184_840 : GO x d 184 Q 840 [v0, v1, v2, v3] (.inl b :: .inl a :: st) I J = GO x d 184 Q 841 [v0, v1, v2, v3] (.inl (a + b) :: st) I J := ge (A := (8, 841, 0, 0, 0)) rfl
set_option maxRecDepth 10000 in
theorem h_184_841 : GO x d 184 Q 841 [v0, v1, v2, v3] (.inl a :: .inr (.inr (.inr q)) :: st) I J = (q < 4 ∧ 0 ≤ a ∧ a < (roA x q).1 ∧ GO x d 184 Q 842 [v0, v1, v2, v3] (.inl ((roA x q).2 a.toNat) :: st) I J) := ge (A := (44, 842, 0, 0, 0)) rfl
set_option maxRecDepth 10000 in
theorem g_184_841 : GO x d 184 Q 841 [v0, v1, v2, v3] (.inl a :: .inr (.inr (.inl r)) :: st) I J = (okA r 20 ∧ 0 ≤ a ∧ a < lnN r ∧ GO x d 184 Q 842 [v0, v1, v2, v3] (.inl (I r a) :: st) I J) := ge (A := (44, 842, 0, 0, 0)) rfl
set_option maxRecDepth 10000 in
theorem g_184_842 : GO x d 184 Q 842 [some (.inr (.inr w)), v1, v2, v3] st I J = GO x d 184 Q 843 [some (.inr (.inr w)), v1, v2, v3] (.inr (.inr w) :: st) I J := ge (A := (2, 843, 0, 0, 0)) rfl
set_option maxRecDepth 10000 in
theorem g_184_843 : GO x d 184 Q 843 [v0, v1, v2, some (.inl a)] st I J = GO x d 184 Q 844 [v0, v1, v2, some (.inl a)] (.inl a :: st) I J := ge (A := (1, 844, 3, 0, 0)) rfl
set_option maxRecDepth 10000 in
theorem g_184_844 : GO x d 184 Q 844 [v0, v1, v2, v3] st I J = GO x d 184 Q 845 [v0, v1, v2, v3] (.inl (2) :: st) I J := ge (A := (0, 845, 0, 0, 2)) rfl
set_option maxRecDepth 10000 in
theorem g_184_845 : GO x d 184 Q 845 [v0, v1, v2, v3] (.inl b :: .inl a :: st) I J = GO x d 184 Q 846 [v0, v1, v2, v3] (.inl (a + b) :: st) I J := ge (A := (8, 846, 0, 0, 0)) rfl
set_option maxRecDepth 10000 in
theorem h_184_846 : GO x d 184 Q 846 [v0, v1, v2, v3] (.inl a :: .inr (.inr (.inr q)) :: st) I J = (q < 4 ∧ 0 ≤ a ∧ a < (roA x q).1 ∧ GO x d 184 Q 847 [v0, v1, v2, v3] (.inl ((roA x q).2 a.toNat) :: st) I J) := ge (A := (44, 847, 0, 0, 0)) rfl
set_option maxRecDepth 10000 in
theorem g_184_846 : GO x d 184 Q 846 [v0, v1, v2, v3] (.inl a :: .inr (.inr (.inl r)) :: st) I J = (okA r 20 ∧ 0 ≤ a ∧ a < lnN r ∧ GO x d 184 Q 847 [v0, v1, v2, v3] (.inl (I r a) :: st) I J) := ge (A := (44, 847, 0, 0, 0)) rfl
set_option maxRecDepth 10000 in
theorem g_184_847 : GO x d 184 Q 847 [v0, v1, v2, v3] [.inl i0, .inl i1, .inr (.inr (.inl r))] I J = (okO r 9 ∧ EX x d 98 [.inr (.inr (.inl r)), .inl i1, .inl i0] I J (fun r1 I1 J1 => GO x d 184 Q 850 [v0, v1, v2, v3] (r1.toList ++ []) I1 J1)) := (ge (A := (53, 850, 98, 2, 0)) rfl).trans (gtrue (Nat.le_of_ble_eq_true rfl))
set_option maxRecDepth 10000 in
theorem g_184_850 : GO x d 184 Q 850 [v0, v1, some (.inr (.inr w)), v3] st I J = GO x d 184 Q 851 [v0, v1, some (.inr (.inr w)), v3] (.inr (.inr w) :: st) I J := ge (A := (2, 851, 2, 0, 0)) rfl
set_option maxRecDepth 10000 in
theorem g_184_851 : GO x d 184 Q 851 [some (.inr (.inr w)), v1, v2, v3] st I J = GO x d 184 Q 852 [some (.inr (.inr w)), v1, v2, v3] (.inr (.inr w) :: st) I J := ge (A := (2, 852, 0, 0, 0)) rfl
set_option maxRecDepth 10000 in
theorem g_184_852 : GO x d 184 Q 852 [v0, v1, v2, some (.inl a)] st I J = GO x d 184 Q 853 [v0, v1, v2, some (.inl a)] (.inl a :: st) I J := ge (A := (1, 853, 3, 0, 0)) rfl
set_option maxRecDepth 10000 in
theorem g_184_853 : GO x d 184 Q 853 [v0, v1, v2, v3] st I J = GO x d 184 Q 854 [v0, v1, v2, v3] (.inl (1) :: st) I J := ge (A := (0, 854, 0, 0, 1)) rfl
set_option maxRecDepth 10000 in
theorem g_184_854 : GO x d 184 Q 854 [v0, v1, v2, v3] (.inl b :: .inl a :: st) I J = GO x d 184 Q 855 [v0, v1, v2, v3] (.inl (a + b) :: st) I J := ge (A := (8, 855, 0, 0, 0)) rfl
set_option maxRecDepth 10000 in
theorem h_184_855 : GO x d 184 Q 855 [v0, v1, v2, v3] (.inl a :: .inr (.inr (.inr q)) :: st) I J = (q < 4 ∧ 0 ≤ a ∧ a < (roA x q).1 ∧ GO x d 184 Q 856 [v0, v1, v2, v3] (.inl ((roA x q).2 a.toNat) :: st) I J) := ge (A := (44, 856, 0, 0, 0)) rfl
set_option maxRecDepth 10000 in
theorem g_184_855 : GO x d 184 Q 855 [v0, v1, v2, v3] (.inl a :: .inr (.inr (.inl r)) :: st) I J = (okA r 20 ∧ 0 ≤ a ∧ a < lnN r ∧ GO x d 184 Q 856 [v0, v1, v2, v3] (.inl (I r a) :: st) I J) := ge (A := (44, 856, 0, 0, 0)) rfl
set_option maxRecDepth 10000 in
theorem g_184_856 : GO x d 184 Q 856 [some (.inr (.inr w)), v1, v2, v3] st I J = GO x d 184 Q 857 [some (.inr (.inr w)), v1, v2, v3] (.inr (.inr w) :: st) I J := ge (A := (2, 857, 0, 0, 0)) rfl
set_option maxRecDepth 10000 in
theorem g_184_857 : GO x d 184 Q 857 [v0, v1, v2, some (.inl a)] st I J = GO x d 184 Q 858 [v0, v1, v2, some (.inl a)] (.inl a :: st) I J := ge (A := (1, 858, 3, 0, 0)) rfl
set_option maxRecDepth 10000 in
theorem g_184_858 : GO x d 184 Q 858 [v0, v1, v2, v3] st I J = GO x d 184 Q 859 [v0, v1, v2, v3] (.inl (2) :: st) I J := ge (A := (0, 859, 0, 0, 2)) rfl
set_option maxRecDepth 10000 in
theorem g_184_859 : GO x d 184 Q 859 [v0, v1, v2, v3] (.inl b :: .inl a :: st) I J = GO x d 184 Q 860 [v0, v1, v2, v3] (.inl (a + b) :: st) I J := ge (A := (8, 860, 0, 0, 0)) rfl
set_option maxRecDepth 10000 in
theorem h_184_860 : GO x d 184 Q 860 [v0, v1, v2, v3] (.inl a :: .inr (.inr (.inr q)) :: st) I J = (q < 4 ∧ 0 ≤ a ∧ a < (roA x q).1 ∧ GO x d 184 Q 861 [v0, v1, v2, v3] (.inl ((roA x q).2 a.toNat) :: st) I J) := ge (A := (44, 861, 0, 0, 0)) rfl
set_option maxRecDepth 10000 in
theorem g_184_860 : GO x d 184 Q 860 [v0, v1, v2, v3] (.inl a :: .inr (.inr (.inl r)) :: st) I J = (okA r 20 ∧ 0 ≤ a ∧ a < lnN r ∧ GO x d 184 Q 861 [v0, v1, v2, v3] (.inl (I r a) :: st) I J) := ge (A := (44, 861, 0, 0, 0)) rfl
set_option maxRecDepth 10000 in
theorem g_184_861 : GO x d 184 Q 861 [v0, v1, v2, v3] [.inl i0, .inl i1, .inr (.inr (.inl r)), .inl i2] I J = (okO r 10 ∧ EX x d 167 [.inr (.inr (.inl r)), .inl i1, .inl i0] I J (fun r1 I1 J1 => GO x d 184 Q 864 [v0, v1, v2, v3] (r1.toList ++ [.inl i2]) I1 J1)) := (ge (A := (53, 864, 167, 2, 0)) rfl).trans (gtrue (Nat.le_of_ble_eq_true rfl))
set_option maxRecDepth 10000 in
theorem g_184_864 : GO x d 184 Q 864 [v0, v1, v2, v3] (.inl b :: .inl a :: st) I J = (inR a ∧ inR b ∧ if a = b then GO x d 184 Q 961 [v0, v1, v2, v3] st I J else GO x d 184 Q 867 [v0, v1, v2, v3] st I J) := (ge (A := (34, 867, 961, 0, 0)) rfl).trans (gic (p := a = b) inferInstance)
set_option maxRecDepth 10000 in
theorem g_184_867 : GO x d 184 Q 867 [v0, v1, v2, v3] st I J = GO x d 184 Q 868 [v0, v1, v2, v3] (.inl (0) :: st) I J := ge (A := (0, 868, 0, 0, 0)) rfl
set_option maxRecDepth 10000 in
theorem g_184_868 : GO x d 184 Q 868 [v0, v1, v2, v3] [.inl a] I J = (ret01 a ∧ Q (some (.inl a)) I J) := ge (A := (56, 869, 0, 0, 0)) rfl
set_option maxRecDepth 10000 in
theorem g_184_869 : GO x d 184 Q 869 [v0, some (.inr (.inr w)), v2, v3] st I J = GO x d 184 Q 870 [v0, some (.inr (.inr w)), v2, v3] (.inr (.inr w) :: st) I J := ge (A := (2, 870, 1, 0, 0)) rfl
set_option maxRecDepth 10000 in
theorem g_184_870 : GO x d 184 Q 870 [some (.inr (.inr w)), v1, v2, v3] st I J = GO x d 184 Q 871 [some (.inr (.inr w)), v1, v2, v3] (.inr (.inr w) :: st) I J := ge (A := (2, 871, 0, 0, 0)) rfl
set_option maxRecDepth 10000 in
theorem g_184_871 : GO x d 184 Q 871 [v0, v1, v2, some (.inl a)] st I J = GO x d 184 Q 872 [v0, v1, v2, some (.inl a)] (.inl a :: st) I J := ge (A := (1, 872, 3, 0, 0)) rfl
set_option maxRecDepth 10000 in
theorem g_184_872 : GO x d 184 Q 872 [v0, v1, v2, v3] st I J = GO x d 184 Q 873 [v0, v1, v2, v3] (.inl (1) :: st) I J := ge (A := (0, 873, 0, 0, 1)) rfl
set_option maxRecDepth 10000 in
theorem g_184_873 : GO x d 184 Q 873 [v0, v1, v2, v3] (.inl b :: .inl a :: st) I J = GO x d 184 Q 874 [v0, v1, v2, v3] (.inl (a + b) :: st) I J := ge (A := (8, 874, 0, 0, 0)) rfl
set_option maxRecDepth 10000 in
theorem h_184_874 : GO x d 184 Q 874 [v0, v1, v2, v3] (.inl a :: .inr (.inr (.inr q)) :: st) I J = (q < 4 ∧ 0 ≤ a ∧ a < (roA x q).1 ∧ GO x d 184 Q 875 [v0, v1, v2, v3] (.inl ((roA x q).2 a.toNat) :: st) I J) := ge (A := (44, 875, 0, 0, 0)) rfl
set_option maxRecDepth 10000 in
theorem g_184_874 : GO x d 184 Q 874 [v0, v1, v2, v3] (.inl a :: .inr (.inr (.inl r)) :: st) I J = (okA r 20 ∧ 0 ≤ a ∧ a < lnN r ∧ GO x d 184 Q 875 [v0, v1, v2, v3] (.inl (I r a) :: st) I J) := ge (A := (44, 875, 0, 0, 0)) rfl
set_option maxRecDepth 10000 in
theorem g_184_875 : GO x d 184 Q 875 [some (.inr (.inr w)), v1, v2, v3] st I J = GO x d 184 Q 876 [some (.inr (.inr w)), v1, v2, v3] (.inr (.inr w) :: st) I J := ge (A := (2, 876, 0, 0, 0)) rfl
set_option maxRecDepth 10000 in
theorem g_184_876 : GO x d 184 Q 876 [v0, v1, v2, some (.inl a)] st I J = GO x d 184 Q 877 [v0, v1, v2, some (.inl a)] (.inl a :: st) I J := ge (A := (1, 877, 3, 0, 0)) rfl
set_option maxRecDepth 10000 in
theorem g_184_877 : GO x d 184 Q 877 [v0, v1, v2, v3] st I J = GO x d 184 Q 878 [v0, v1, v2, v3] (.inl (2) :: st) I J := ge (A := (0, 878, 0, 0, 2)) rfl
set_option maxRecDepth 10000 in
theorem g_184_878 : GO x d 184 Q 878 [v0, v1, v2, v3] (.inl b :: .inl a :: st) I J = GO x d 184 Q 879 [v0, v1, v2, v3] (.inl (a + b) :: st) I J := ge (A := (8, 879, 0, 0, 0)) rfl
set_option maxRecDepth 10000 in
theorem h_184_879 : GO x d 184 Q 879 [v0, v1, v2, v3] (.inl a :: .inr (.inr (.inr q)) :: st) I J = (q < 4 ∧ 0 ≤ a ∧ a < (roA x q).1 ∧ GO x d 184 Q 880 [v0, v1, v2, v3] (.inl ((roA x q).2 a.toNat) :: st) I J) := ge (A := (44, 880, 0, 0, 0)) rfl
set_option maxRecDepth 10000 in
theorem g_184_879 : GO x d 184 Q 879 [v0, v1, v2, v3] (.inl a :: .inr (.inr (.inl r)) :: st) I J = (okA r 20 ∧ 0 ≤ a ∧ a < lnN r ∧ GO x d 184 Q 880 [v0, v1, v2, v3] (.inl (I r a) :: st) I J) := ge (A := (44, 880, 0, 0, 0)) rfl
set_option maxRecDepth 10000 in
theorem g_184_880 : GO x d 184 Q 880 [v0, v1, v2, v3] [.inl i0, .inl i1, .inr (.inr (.inl r))] I J = (okO r 9 ∧ EX x d 99 [.inr (.inr (.inl r)), .inl i1, .inl i0] I J (fun r1 I1 J1 => GO x d 184 Q 883 [v0, v1, v2, v3] (r1.toList ++ []) I1 J1)) := (ge (A := (53, 883, 99, 2, 0)) rfl).trans (gtrue (Nat.le_of_ble_eq_true rfl))
set_option maxRecDepth 10000 in
theorem g_184_883 : GO x d 184 Q 883 [v0, v1, some (.inr (.inr w)), v3] st I J = GO x d 184 Q 884 [v0, v1, some (.inr (.inr w)), v3] (.inr (.inr w) :: st) I J := ge (A := (2, 884, 2, 0, 0)) rfl
set_option maxRecDepth 10000 in
theorem g_184_884 : GO x d 184 Q 884 [some (.inr (.inr w)), v1, v2, v3] st I J = GO x d 184 Q 885 [some (.inr (.inr w)), v1, v2, v3] (.inr (.inr w) :: st) I J := ge (A := (2, 885, 0, 0, 0)) rfl
set_option maxRecDepth 10000 in
theorem g_184_885 : GO x d 184 Q 885 [v0, v1, v2, some (.inl a)] st I J = GO x d 184 Q 886 [v0, v1, v2, some (.inl a)] (.inl a :: st) I J := ge (A := (1, 886, 3, 0, 0)) rfl
set_option maxRecDepth 10000 in
theorem g_184_886 : GO x d 184 Q 886 [v0, v1, v2, v3] st I J = GO x d 184 Q 887 [v0, v1, v2, v3] (.inl (1) :: st) I J := ge (A := (0, 887, 0, 0, 1)) rfl
set_option maxRecDepth 10000 in
theorem g_184_887 : GO x d 184 Q 887 [v0, v1, v2, v3] (.inl b :: .inl a :: st) I J = GO x d 184 Q 888 [v0, v1, v2, v3] (.inl (a + b) :: st) I J := ge (A := (8, 888, 0, 0, 0)) rfl
set_option maxRecDepth 10000 in
theorem h_184_888 : GO x d 184 Q 888 [v0, v1, v2, v3] (.inl a :: .inr (.inr (.inr q)) :: st) I J = (q < 4 ∧ 0 ≤ a ∧ a < (roA x q).1 ∧ GO x d 184 Q 889 [v0, v1, v2, v3] (.inl ((roA x q).2 a.toNat) :: st) I J) := ge (A := (44, 889, 0, 0, 0)) rfl
set_option maxRecDepth 10000 in
theorem g_184_888 : GO x d 184 Q 888 [v0, v1, v2, v3] (.inl a :: .inr (.inr (.inl r)) :: st) I J = (okA r 20 ∧ 0 ≤ a ∧ a < lnN r ∧ GO x d 184 Q 889 [v0, v1, v2, v3] (.inl (I r a) :: st) I J) := ge (A := (44, 889, 0, 0, 0)) rfl
set_option maxRecDepth 10000 in
theorem g_184_889 : GO x d 184 Q 889 [some (.inr (.inr w)), v1, v2, v3] st I J = GO x d 184 Q 890 [some (.inr (.inr w)), v1, v2, v3] (.inr (.inr w) :: st) I J := ge (A := (2, 890, 0, 0, 0)) rfl
set_option maxRecDepth 10000 in
theorem g_184_890 : GO x d 184 Q 890 [v0, v1, v2, some (.inl a)] st I J = GO x d 184 Q 891 [v0, v1, v2, some (.inl a)] (.inl a :: st) I J := ge (A := (1, 891, 3, 0, 0)) rfl
set_option maxRecDepth 10000 in
theorem g_184_891 : GO x d 184 Q 891 [v0, v1, v2, v3] st I J = GO x d 184 Q 892 [v0, v1, v2, v3] (.inl (2) :: st) I J := ge (A := (0, 892, 0, 0, 2)) rfl
set_option maxRecDepth 10000 in
theorem g_184_892 : GO x d 184 Q 892 [v0, v1, v2, v3] (.inl b :: .inl a :: st) I J = GO x d 184 Q 893 [v0, v1, v2, v3] (.inl (a + b) :: st) I J := ge (A := (8, 893, 0, 0, 0)) rfl
set_option maxRecDepth 10000 in
theorem h_184_893 : GO x d 184 Q 893 [v0, v1, v2, v3] (.inl a :: .inr (.inr (.inr q)) :: st) I J = (q < 4 ∧ 0 ≤ a ∧ a < (roA x q).1 ∧ GO x d 184 Q 894 [v0, v1, v2, v3] (.inl ((roA x q).2 a.toNat) :: st) I J) := ge (A := (44, 894, 0, 0, 0)) rfl
set_option maxRecDepth 10000 in
theorem g_184_893 : GO x d 184 Q 893 [v0, v1, v2, v3] (.inl a :: .inr (.inr (.inl r)) :: st) I J = (okA r 20 ∧ 0 ≤ a ∧ a < lnN r ∧ GO x d 184 Q 894 [v0, v1, v2, v3] (.inl (I r a) :: st) I J) := ge (A := (44, 894, 0, 0, 0)) rfl
set_option maxRecDepth 10000 in
theorem g_184_894 : GO x d 184 Q 894 [v0, v1, v2, v3] [.inl i0, .inl i1, .inr (.inr (.inl r)), .inl i2] I J = (okO r 10 ∧ EX x d 178 [.inr (.inr (.inl r)), .inl i1, .inl i0] I J (fun r1 I1 J1 => GO x d 184 Q 897 [v0, v1, v2, v3] (r1.toList ++ [.inl i2]) I1 J1)) := (ge (A := (53, 897, 178, 2, 0)) rfl).trans (gtrue (Nat.le_of_ble_eq_true rfl))
set_option maxRecDepth 10000 in
theorem g_184_897 : GO x d 184 Q 897 [v0, v1, v2, v3] (.inl b :: .inl a :: st) I J = (inR a ∧ inR b ∧ if a = b then GO x d 184 Q 961 [v0, v1, v2, v3] st I J else GO x d 184 Q 900 [v0, v1, v2, v3] st I J) := (ge (A := (34, 900, 961, 0, 0)) rfl).trans (gic (p := a = b) inferInstance)
set_option maxRecDepth 10000 in
theorem g_184_900 : GO x d 184 Q 900 [v0, v1, v2, v3] st I J = GO x d 184 Q 901 [v0, v1, v2, v3] (.inl (0) :: st) I J := ge (A := (0, 901, 0, 0, 0)) rfl
set_option maxRecDepth 10000 in
theorem g_184_901 : GO x d 184 Q 901 [v0, v1, v2, v3] [.inl a] I J = (ret01 a ∧ Q (some (.inl a)) I J) := ge (A := (56, 902, 0, 0, 0)) rfl
set_option maxRecDepth 10000 in
theorem g_184_902 : GO x d 184 Q 902 [v0, some (.inr (.inr w)), v2, v3] st I J = GO x d 184 Q 903 [v0, some (.inr (.inr w)), v2, v3] (.inr (.inr w) :: st) I J := ge (A := (2, 903, 1, 0, 0)) rfl
set_option maxRecDepth 10000 in
theorem g_184_903 : GO x d 184 Q 903 [some (.inr (.inr w)), v1, v2, v3] st I J = GO x d 184 Q 904 [some (.inr (.inr w)), v1, v2, v3] (.inr (.inr w) :: st) I J := ge (A := (2, 904, 0, 0, 0)) rfl
set_option maxRecDepth 10000 in
theorem g_184_904 : GO x d 184 Q 904 [v0, v1, v2, some (.inl a)] st I J = GO x d 184 Q 905 [v0, v1, v2, some (.inl a)] (.inl a :: st) I J := ge (A := (1, 905, 3, 0, 0)) rfl
set_option maxRecDepth 10000 in
theorem g_184_905 : GO x d 184 Q 905 [v0, v1, v2, v3] st I J = GO x d 184 Q 906 [v0, v1, v2, v3] (.inl (1) :: st) I J := ge (A := (0, 906, 0, 0, 1)) rfl
set_option maxRecDepth 10000 in
theorem g_184_906 : GO x d 184 Q 906 [v0, v1, v2, v3] (.inl b :: .inl a :: st) I J = GO x d 184 Q 907 [v0, v1, v2, v3] (.inl (a + b) :: st) I J := ge (A := (8, 907, 0, 0, 0)) rfl
set_option maxRecDepth 10000 in
theorem h_184_907 : GO x d 184 Q 907 [v0, v1, v2, v3] (.inl a :: .inr (.inr (.inr q)) :: st) I J = (q < 4 ∧ 0 ≤ a ∧ a < (roA x q).1 ∧ GO x d 184 Q 908 [v0, v1, v2, v3] (.inl ((roA x q).2 a.toNat) :: st) I J) := ge (A := (44, 908, 0, 0, 0)) rfl
set_option maxRecDepth 10000 in
theorem g_184_907 : GO x d 184 Q 907 [v0, v1, v2, v3] (.inl a :: .inr (.inr (.inl r)) :: st) I J = (okA r 20 ∧ 0 ≤ a ∧ a < lnN r ∧ GO x d 184 Q 908 [v0, v1, v2, v3] (.inl (I r a) :: st) I J) := ge (A := (44, 908, 0, 0, 0)) rfl
set_option maxRecDepth 10000 in
theorem g_184_908 : GO x d 184 Q 908 [v0, v1, v2, v3] [.inl i0, .inr (.inr (.inl r))] I J = (okO r 9 ∧ EX x d 100 [.inr (.inr (.inl r)), .inl i0] I J (fun r1 I1 J1 => GO x d 184 Q 911 [v0, v1, v2, v3] (r1.toList ++ []) I1 J1)) := (ge (A := (53, 911, 100, 1, 0)) rfl).trans (gtrue (Nat.le_of_ble_eq_true rfl))
set_option maxRecDepth 10000 in
theorem g_184_911 : GO x d 184 Q 911 [v0, v1, some (.inr (.inr w)), v3] st I J = GO x d 184 Q 912 [v0, v1, some (.inr (.inr w)), v3] (.inr (.inr w) :: st) I J := ge (A := (2, 912, 2, 0, 0)) rfl
set_option maxRecDepth 10000 in
theorem g_184_912 : GO x d 184 Q 912 [some (.inr (.inr w)), v1, v2, v3] st I J = GO x d 184 Q 913 [some (.inr (.inr w)), v1, v2, v3] (.inr (.inr w) :: st) I J := ge (A := (2, 913, 0, 0, 0)) rfl
set_option maxRecDepth 10000 in
theorem g_184_913 : GO x d 184 Q 913 [v0, v1, v2, some (.inl a)] st I J = GO x d 184 Q 914 [v0, v1, v2, some (.inl a)] (.inl a :: st) I J := ge (A := (1, 914, 3, 0, 0)) rfl
set_option maxRecDepth 10000 in
theorem g_184_914 : GO x d 184 Q 914 [v0, v1, v2, v3] st I J = GO x d 184 Q 915 [v0, v1, v2, v3] (.inl (1) :: st) I J := ge (A := (0, 915, 0, 0, 1)) rfl
set_option maxRecDepth 10000 in
theorem g_184_915 : GO x d 184 Q 915 [v0, v1, v2, v3] (.inl b :: .inl a :: st) I J = GO x d 184 Q 916 [v0, v1, v2, v3] (.inl (a + b) :: st) I J := ge (A := (8, 916, 0, 0, 0)) rfl
set_option maxRecDepth 10000 in
theorem h_184_916 : GO x d 184 Q 916 [v0, v1, v2, v3] (.inl a :: .inr (.inr (.inr q)) :: st) I J = (q < 4 ∧ 0 ≤ a ∧ a < (roA x q).1 ∧ GO x d 184 Q 917 [v0, v1, v2, v3] (.inl ((roA x q).2 a.toNat) :: st) I J) := ge (A := (44, 917, 0, 0, 0)) rfl
set_option maxRecDepth 10000 in
theorem g_184_916 : GO x d 184 Q 916 [v0, v1, v2, v3] (.inl a :: .inr (.inr (.inl r)) :: st) I J = (okA r 20 ∧ 0 ≤ a ∧ a < lnN r ∧ GO x d 184 Q 917 [v0, v1, v2, v3] (.inl (I r a) :: st) I J) := ge (A := (44, 917, 0, 0, 0)) rfl
set_option maxRecDepth 10000 in
theorem g_184_917 : GO x d 184 Q 917 [v0, v1, v2, v3] [.inl i0, .inr (.inr (.inl r)), .inl i1] I J = (okO r 10 ∧ EX x d 179 [.inr (.inr (.inl r)), .inl i0] I J (fun r1 I1 J1 => GO x d 184 Q 920 [v0, v1, v2, v3] (r1.toList ++ [.inl i1]) I1 J1)) := (ge (A := (53, 920, 179, 1, 0)) rfl).trans (gtrue (Nat.le_of_ble_eq_true rfl))
set_option maxRecDepth 10000 in
theorem g_184_920 : GO x d 184 Q 920 [v0, v1, v2, v3] (.inl b :: .inl a :: st) I J = (inR a ∧ inR b ∧ if a = b then GO x d 184 Q 961 [v0, v1, v2, v3] st I J else GO x d 184 Q 923 [v0, v1, v2, v3] st I J) := (ge (A := (34, 923, 961, 0, 0)) rfl).trans (gic (p := a = b) inferInstance)
set_option maxRecDepth 10000 in
theorem g_184_923 : GO x d 184 Q 923 [v0, v1, v2, v3] st I J = GO x d 184 Q 924 [v0, v1, v2, v3] (.inl (0) :: st) I J := ge (A := (0, 924, 0, 0, 0)) rfl
set_option maxRecDepth 10000 in
theorem g_184_924 : GO x d 184 Q 924 [v0, v1, v2, v3] [.inl a] I J = (ret01 a ∧ Q (some (.inl a)) I J) := ge (A := (56, 925, 0, 0, 0)) rfl
set_option maxRecDepth 10000 in
theorem g_184_925 : GO x d 184 Q 925 [v0, some (.inr (.inr w)), v2, v3] st I J = GO x d 184 Q 926 [v0, some (.inr (.inr w)), v2, v3] (.inr (.inr w) :: st) I J := ge (A := (2, 926, 1, 0, 0)) rfl
set_option maxRecDepth 10000 in
theorem g_184_926 : GO x d 184 Q 926 [some (.inr (.inr w)), v1, v2, v3] st I J = GO x d 184 Q 927 [some (.inr (.inr w)), v1, v2, v3] (.inr (.inr w) :: st) I J := ge (A := (2, 927, 0, 0, 0)) rfl
set_option maxRecDepth 10000 in
theorem g_184_927 : GO x d 184 Q 927 [v0, v1, v2, some (.inl a)] st I J = GO x d 184 Q 928 [v0, v1, v2, some (.inl a)] (.inl a :: st) I J := ge (A := (1, 928, 3, 0, 0)) rfl
set_option maxRecDepth 10000 in
theorem g_184_928 : GO x d 184 Q 928 [v0, v1, v2, v3] st I J = GO x d 184 Q 929 [v0, v1, v2, v3] (.inl (1) :: st) I J := ge (A := (0, 929, 0, 0, 1)) rfl
set_option maxRecDepth 10000 in
theorem g_184_929 : GO x d 184 Q 929 [v0, v1, v2, v3] (.inl b :: .inl a :: st) I J = GO x d 184 Q 930 [v0, v1, v2, v3] (.inl (a + b) :: st) I J := ge (A := (8, 930, 0, 0, 0)) rfl
set_option maxRecDepth 10000 in
theorem h_184_930 : GO x d 184 Q 930 [v0, v1, v2, v3] (.inl a :: .inr (.inr (.inr q)) :: st) I J = (q < 4 ∧ 0 ≤ a ∧ a < (roA x q).1 ∧ GO x d 184 Q 931 [v0, v1, v2, v3] (.inl ((roA x q).2 a.toNat) :: st) I J) := ge (A := (44, 931, 0, 0, 0)) rfl
set_option maxRecDepth 10000 in
theorem g_184_930 : GO x d 184 Q 930 [v0, v1, v2, v3] (.inl a :: .inr (.inr (.inl r)) :: st) I J = (okA r 20 ∧ 0 ≤ a ∧ a < lnN r ∧ GO x d 184 Q 931 [v0, v1, v2, v3] (.inl (I r a) :: st) I J) := ge (A := (44, 931, 0, 0, 0)) rfl
set_option maxRecDepth 10000 in
theorem g_184_931 : GO x d 184 Q 931 [v0, v1, v2, v3] [.inl i0, .inr (.inr (.inl r))] I J = (okO r 9 ∧ EX x d 101 [.inr (.inr (.inl r)), .inl i0] I J (fun r1 I1 J1 => GO x d 184 Q 934 [v0, v1, v2, v3] (r1.toList ++ []) I1 J1)) := (ge (A := (53, 934, 101, 1, 0)) rfl).trans (gtrue (Nat.le_of_ble_eq_true rfl))
set_option maxRecDepth 10000 in
theorem g_184_934 : GO x d 184 Q 934 [v0, v1, some (.inr (.inr w)), v3] st I J = GO x d 184 Q 935 [v0, v1, some (.inr (.inr w)), v3] (.inr (.inr w) :: st) I J := ge (A := (2, 935, 2, 0, 0)) rfl
set_option maxRecDepth 10000 in
theorem g_184_935 : GO x d 184 Q 935 [some (.inr (.inr w)), v1, v2, v3] st I J = GO x d 184 Q 936 [some (.inr (.inr w)), v1, v2, v3] (.inr (.inr w) :: st) I J := ge (A := (2, 936, 0, 0, 0)) rfl
set_option maxRecDepth 10000 in
theorem g_184_936 : GO x d 184 Q 936 [v0, v1, v2, some (.inl a)] st I J = GO x d 184 Q 937 [v0, v1, v2, some (.inl a)] (.inl a :: st) I J := ge (A := (1, 937, 3, 0, 0)) rfl
set_option maxRecDepth 10000 in
theorem g_184_937 : GO x d 184 Q 937 [v0, v1, v2, v3] st I J = GO x d 184 Q 938 [v0, v1, v2, v3] (.inl (1) :: st) I J := ge (A := (0, 938, 0, 0, 1)) rfl
set_option maxRecDepth 10000 in
theorem g_184_938 : GO x d 184 Q 938 [v0, v1, v2, v3] (.inl b :: .inl a :: st) I J = GO x d 184 Q 939 [v0, v1, v2, v3] (.inl (a + b) :: st) I J := ge (A := (8, 939, 0, 0, 0)) rfl
set_option maxRecDepth 10000 in
theorem h_184_939 : GO x d 184 Q 939 [v0, v1, v2, v3] (.inl a :: .inr (.inr (.inr q)) :: st) I J = (q < 4 ∧ 0 ≤ a ∧ a < (roA x q).1 ∧ GO x d 184 Q 940 [v0, v1, v2, v3] (.inl ((roA x q).2 a.toNat) :: st) I J) := ge (A := (44, 940, 0, 0, 0)) rfl
set_option maxRecDepth 10000 in
theorem g_184_939 : GO x d 184 Q 939 [v0, v1, v2, v3] (.inl a :: .inr (.inr (.inl r)) :: st) I J = (okA r 20 ∧ 0 ≤ a ∧ a < lnN r ∧ GO x d 184 Q 940 [v0, v1, v2, v3] (.inl (I r a) :: st) I J) := ge (A := (44, 940, 0, 0, 0)) rfl
set_option maxRecDepth 10000 in
theorem g_184_940 : GO x d 184 Q 940 [v0, v1, v2, v3] [.inl i0, .inr (.inr (.inl r)), .inl i1] I J = (okO r 10 ∧ EX x d 180 [.inr (.inr (.inl r)), .inl i0] I J (fun r1 I1 J1 => GO x d 184 Q 943 [v0, v1, v2, v3] (r1.toList ++ [.inl i1]) I1 J1)) := (ge (A := (53, 943, 180, 1, 0)) rfl).trans (gtrue (Nat.le_of_ble_eq_true rfl))
set_option maxRecDepth 10000 in
theorem g_184_943 : GO x d 184 Q 943 [v0, v1, v2, v3] (.inl b :: .inl a :: st) I J = (inR a ∧ inR b ∧ if a = b then GO x d 184 Q 961 [v0, v1, v2, v3] st I J else GO x d 184 Q 946 [v0, v1, v2, v3] st I J) := (ge (A := (34, 946, 961, 0, 0)) rfl).trans (gic (p := a = b) inferInstance)
set_option maxRecDepth 10000 in
theorem g_184_946 : GO x d 184 Q 946 [v0, v1, v2, v3] st I J = GO x d 184 Q 947 [v0, v1, v2, v3] (.inl (0) :: st) I J := ge (A := (0, 947, 0, 0, 0)) rfl
set_option maxRecDepth 10000 in
theorem g_184_947 : GO x d 184 Q 947 [v0, v1, v2, v3] [.inl a] I J = (ret01 a ∧ Q (some (.inl a)) I J) := ge (A := (56, 948, 0, 0, 0)) rfl
set_option maxRecDepth 10000 in
theorem g_184_948 : GO x d 184 Q 948 [v0, some (.inr (.inr w)), v2, v3] st I J = GO x d 184 Q 949 [v0, some (.inr (.inr w)), v2, v3] (.inr (.inr w) :: st) I J := ge (A := (2, 949, 1, 0, 0)) rfl
set_option maxRecDepth 10000 in
theorem g_184_949 : GO x d 184 Q 949 [v0, v1, v2, v3] [.inr (.inr (.inl r))] I J = (okO r 9 ∧ EX x d 102 [.inr (.inr (.inl r))] I J (fun r1 I1 J1 => GO x d 184 Q 952 [v0, v1, v2, v3] (r1.toList ++ []) I1 J1)) := (ge (A := (53, 952, 102, 0, 0)) rfl).trans (gtrue (Nat.le_of_ble_eq_true rfl))
set_option maxRecDepth 10000 in
theorem g_184_952 : GO x d 184 Q 952 [v0, v1, some (.inr (.inr w)), v3] st I J = GO x d 184 Q 953 [v0, v1, some (.inr (.inr w)), v3] (.inr (.inr w) :: st) I J := ge (A := (2, 953, 2, 0, 0)) rfl
set_option maxRecDepth 10000 in
theorem g_184_953 : GO x d 184 Q 953 [v0, v1, v2, v3] [.inr (.inr (.inl r)), .inl i0] I J = (okO r 10 ∧ EX x d 181 [.inr (.inr (.inl r))] I J (fun r1 I1 J1 => GO x d 184 Q 956 [v0, v1, v2, v3] (r1.toList ++ [.inl i0]) I1 J1)) := (ge (A := (53, 956, 181, 0, 0)) rfl).trans (gtrue (Nat.le_of_ble_eq_true rfl))
set_option maxRecDepth 10000 in
theorem g_184_956 : GO x d 184 Q 956 [v0, v1, v2, v3] (.inl b :: .inl a :: st) I J = (inR a ∧ inR b ∧ if a = b then GO x d 184 Q 961 [v0, v1, v2, v3] st I J else GO x d 184 Q 959 [v0, v1, v2, v3] st I J) := (ge (A := (34, 959, 961, 0, 0)) rfl).trans (gic (p := a = b) inferInstance)
set_option maxRecDepth 10000 in
theorem g_184_959 : GO x d 184 Q 959 [v0, v1, v2, v3] st I J = GO x d 184 Q 960 [v0, v1, v2, v3] (.inl (0) :: st) I J := ge (A := (0, 960, 0, 0, 0)) rfl
set_option maxRecDepth 10000 in
theorem g_184_960 : GO x d 184 Q 960 [v0, v1, v2, v3] [.inl a] I J = (ret01 a ∧ Q (some (.inl a)) I J) := ge (A := (56, 961, 0, 0, 0)) rfl
set_option maxRecDepth 10000 in
theorem g_184_961 : GO x d 184 Q 961 [v0, v1, v2, some (.inl a)] st I J = (nlO (some v2) = true ∧ GO x d 184 Q 964 [v0, v1, v2, some (.inl (a + (6)))] st I J) := ge (A := (7, 964, 3, 0, 6)) rfl
set_option maxRecDepth 10000 in
theorem g_184_964 : GO x d 184 Q 964 [v0, v1, v2, v3] st I J = GO x d 184 Q 18 [v0, v1, v2, v3] st I J := ge (A := (35, 967, 18, 0, 0)) rfl
set_option maxRecDepth 10000 in
theorem g_184_967 : GO x d 184 Q 967 [v0, v1, v2, v3] st I J = GO x d 184 Q 968 [v0, v1, v2, v3] (.inl (1) :: st) I J := ge (A := (0, 968, 0, 0, 1)) rfl
set_option maxRecDepth 10000 in
theorem g_184_968 : GO x d 184 Q 968 [v0, v1, v2, v3] [.inl a] I J = (ret01 a ∧ Q (some (.inl a)) I J) := ge (A := (56, 969, 0, 0, 0)) rfl
end
