/-! ===== acts: kept ===== -/
section
variable {x : RO} {d : Nat} {Q : QT} {I : MI} {J : MJ} {n : Nat}
theorem sp_16b {w : Int} (h0 : 0 ≤ I 2 3) (h1 : I 2 3 ≤ 8) (hw0 : -2147483648 ≤ w) (hw1 : w < 2147483648) : EX x (d + 1) 16 [.inr (.inr (.inl 2)), .inl w] I J Q = Q (some (.inl (if 0 ≤ w ∧ w < I 2 3 then 1 else 0))) I J := by
  simp (disch := omega) only [@g_16_0, @g_16_1, @g_16_4, @g_16_5, @g_16_6, @g_16_9, @g_16_12, @g_16_13, @g_16_15, @g_16_18, @g_16_19, @g_16_22, @g_16_23, @e_16, nlO_n, nlO_i, nlO_r, ret01_0, ret01_1, ret01_if, ret01_fi, true_and, Option.toList_some, Option.toList_none, List.cons_append, List.nil_append, ii_1, ii_0, ii_R, ij_1, ij_0, ij_R, ite_not, if_true, if_false, Int.one_ne_zero, one_e1, not_true_eq_false, not_false_eq_true, and_true, and_false, false_and, or_false, false_or, or_true, true_or, and_self, or_self, inr_n1000100, inr_n1000010, inr_n1000003, inr_n1000002, inr_n1000001, inr_n1000000, inr_n1, inr_0, inr_1, inr_2, inr_3, inr_4, inr_5, inr_6, inr_7, inr_8, inr_10, inr_11, inr_12, inr_13, inr_14, inr_15, inr_16, inr_20, inr_21, inr_22, inr_23, inr_24, inr_29, inr_30, inr_31, inr_32, inr_39, inr_40, inr_44, inr_48, inr_53, inr_54, inr_57, inr_59, inr_63, inr_97, inr_100, inr_101, inr_102, inr_104, inr_105, inr_106, inr_110, inr_112, inr_116, inr_120, inr_122, inr_144, inr_255, inr_256, inr_320, inr_552, inr_576, inr_999, inr_1000, inr_1023, inr_1024, inr_2048, inr_1000000, inr_252645135, inr_858993459, inr_1431655765, okO_2, okF_2_2, rfN_2_2, okF_2_4, rfN_2_4, okF_2_5, rfN_2_5, okF_2_6, rfN_2_6, okF_2_7, rfN_2_7, okF_2_9, rfN_2_9, okF_2_10, rfN_2_10, o_R]
  (repeat' split) <;> first | rfl | (exfalso; omega)
theorem sp_17b {w : Int} (h0 : 0 ≤ I 2 8) (h1 : I 2 8 ≤ 5) (hw0 : -2147483648 ≤ w) (hw1 : w < 2147483648) : EX x (d + 1) 17 [.inr (.inr (.inl 2)), .inl w] I J Q = Q (some (.inl (if 0 ≤ w ∧ w < I 2 8 then 1 else 0))) I J := by
  simp (disch := omega) only [@g_17_0, @g_17_1, @g_17_4, @g_17_5, @g_17_6, @g_17_9, @g_17_12, @g_17_13, @g_17_14, @g_17_17, @g_17_18, @g_17_21, @g_17_22, @e_17, nlO_n, nlO_i, nlO_r, ret01_0, ret01_1, ret01_if, ret01_fi, true_and, Option.toList_some, Option.toList_none, List.cons_append, List.nil_append, ii_1, ii_0, ii_R, ij_1, ij_0, ij_R, ite_not, if_true, if_false, Int.one_ne_zero, one_e1, not_true_eq_false, not_false_eq_true, and_true, and_false, false_and, or_false, false_or, or_true, true_or, and_self, or_self, inr_n1000100, inr_n1000010, inr_n1000003, inr_n1000002, inr_n1000001, inr_n1000000, inr_n1, inr_0, inr_1, inr_2, inr_3, inr_4, inr_5, inr_6, inr_7, inr_8, inr_10, inr_11, inr_12, inr_13, inr_14, inr_15, inr_16, inr_20, inr_21, inr_22, inr_23, inr_24, inr_29, inr_30, inr_31, inr_32, inr_39, inr_40, inr_44, inr_48, inr_53, inr_54, inr_57, inr_59, inr_63, inr_97, inr_100, inr_101, inr_102, inr_104, inr_105, inr_106, inr_110, inr_112, inr_116, inr_120, inr_122, inr_144, inr_255, inr_256, inr_320, inr_552, inr_576, inr_999, inr_1000, inr_1023, inr_1024, inr_2048, inr_1000000, inr_252645135, inr_858993459, inr_1431655765, okO_2, okF_2_2, rfN_2_2, okF_2_4, rfN_2_4, okF_2_5, rfN_2_5, okF_2_6, rfN_2_6, okF_2_7, rfN_2_7, okF_2_9, rfN_2_9, okF_2_10, rfN_2_10, o_R]
  (repeat' split) <;> first | rfl | (exfalso; omega)
theorem sp_25b {w : Int} (h0 : 0 ≤ w) (h1 : w < I 2 3) (h2 : I 2 3 ≤ 8) (hk0 : 1 ≤ I 4 w) (hk1 : I 4 w ≤ 5) : EX x (d + 2) 25 [.inr (.inr (.inl 2)), .inl w] I J Q = Q (some (.inl (if I 4 w = 5 then 2 else 1))) I J := by
  simp (disch := omega) only [@g_25_0, @g_25_1, @g_25_2, @g_25_5, @g_25_8, @g_25_9, @g_25_12, @g_25_13, @h_25_13, @g_25_14, @g_25_15, @g_25_18, @g_25_19, @g_25_22, @g_25_23, @e_25, nlO_n, nlO_i, nlO_r, ret01_0, ret01_1, ret01_if, ret01_fi, true_and, Option.toList_some, Option.toList_none, List.cons_append, List.nil_append, ii_1, ii_0, ii_R, ij_1, ij_0, ij_R, ite_not, if_true, if_false, Int.one_ne_zero, one_e1, not_true_eq_false, not_false_eq_true, and_true, and_false, false_and, or_false, false_or, or_true, true_or, and_self, or_self, inr_n1000100, inr_n1000010, inr_n1000003, inr_n1000002, inr_n1000001, inr_n1000000, inr_n1, inr_0, inr_1, inr_2, inr_3, inr_4, inr_5, inr_6, inr_7, inr_8, inr_10, inr_11, inr_12, inr_13, inr_14, inr_15, inr_16, inr_20, inr_21, inr_22, inr_23, inr_24, inr_29, inr_30, inr_31, inr_32, inr_39, inr_40, inr_44, inr_48, inr_53, inr_54, inr_57, inr_59, inr_63, inr_97, inr_100, inr_101, inr_102, inr_104, inr_105, inr_106, inr_110, inr_112, inr_116, inr_120, inr_122, inr_144, inr_255, inr_256, inr_320, inr_552, inr_576, inr_999, inr_1000, inr_1023, inr_1024, inr_2048, inr_1000000, inr_252645135, inr_858993459, inr_1431655765, okO_2, okF_2_2, rfN_2_2, okF_2_4, rfN_2_4, okF_2_5, rfN_2_5, okF_2_6, rfN_2_6, okF_2_7, rfN_2_7, okF_2_9, rfN_2_9, okF_2_10, rfN_2_10, okA_4, lnN_4, sp_16b, o_R, o_le, o_lt]
  (repeat' split) <;> first | rfl | (exfalso; omega)
theorem sp_26b {w : Int} (h0 : 0 ≤ w) (h1 : w < I 2 3) (h2 : I 2 3 ≤ 8) (hk0 : 1 ≤ I 4 w) (hk1 : I 4 w ≤ 5) : EX x (d + 2) 26 [.inr (.inr (.inl 2)), .inl w] I J Q = Q (some (.inl (if I 4 w = 2 then 1 else 0))) I J := by
  simp (disch := omega) only [@g_26_0, @g_26_1, @g_26_2, @g_26_5, @g_26_8, @g_26_9, @g_26_12, @g_26_13, @h_26_13, @g_26_14, @g_26_15, @g_26_18, @g_26_19, @g_26_22, @g_26_23, @e_26, nlO_n, nlO_i, nlO_r, ret01_0, ret01_1, ret01_if, ret01_fi, true_and, Option.toList_some, Option.toList_none, List.cons_append, List.nil_append, ii_1, ii_0, ii_R, ij_1, ij_0, ij_R, ite_not, if_true, if_false, Int.one_ne_zero, one_e1, not_true_eq_false, not_false_eq_true, and_true, and_false, false_and, or_false, false_or, or_true, true_or, and_self, or_self, inr_n1000100, inr_n1000010, inr_n1000003, inr_n1000002, inr_n1000001, inr_n1000000, inr_n1, inr_0, inr_1, inr_2, inr_3, inr_4, inr_5, inr_6, inr_7, inr_8, inr_10, inr_11, inr_12, inr_13, inr_14, inr_15, inr_16, inr_20, inr_21, inr_22, inr_23, inr_24, inr_29, inr_30, inr_31, inr_32, inr_39, inr_40, inr_44, inr_48, inr_53, inr_54, inr_57, inr_59, inr_63, inr_97, inr_100, inr_101, inr_102, inr_104, inr_105, inr_106, inr_110, inr_112, inr_116, inr_120, inr_122, inr_144, inr_255, inr_256, inr_320, inr_552, inr_576, inr_999, inr_1000, inr_1023, inr_1024, inr_2048, inr_1000000, inr_252645135, inr_858993459, inr_1431655765, okO_2, okF_2_2, rfN_2_2, okF_2_4, rfN_2_4, okF_2_5, rfN_2_5, okF_2_6, rfN_2_6, okF_2_7, rfN_2_7, okF_2_9, rfN_2_9, okF_2_10, rfN_2_10, okA_4, lnN_4, sp_16b, o_R, o_le, o_lt]
  (repeat' split) <;> first | rfl | (exfalso; omega)
theorem n24 {P : Nat → Prop} (h : ∀ n : Fin 24, P n.val) {k : Nat} (hk : k < 24) : P k := h ⟨k, hk⟩
theorem elN_act {k : Nat} (h : k < 24) : elN 22 (k : Int) = 23 + k := n24 (P := fun k => elN 22 (k : Int) = 23 + k) (by decide) h
theorem okE_act {k : Nat} (h : k < 24) : (23 ≤ clS S0 22 ∧ clS S0 22 ≤ 25 ∧ (elS S0 22 (k : Int).toNat).isSome = true) = True := eq_true (n24 (P := fun k => 23 ≤ clS S0 22 ∧ clS S0 22 ≤ 25 ∧ (elS S0 22 (k : Int).toNat).isSome = true) (by decide) h)
theorem okO_act {k : Nat} (h : k < 24) : okO (23 + k) 0 = True := eq_true (n24 (P := fun k => okO (23 + k) 0) (by unfold okO; decide) h)
/-- the act that is kept -/
theorem sp_3 {B t w : Int} {g : HV} {e : Nat} (H : ROK B I 2 g) (he : I 21 1 = e) (he2 : e < 24) (hk0 : 0 ≤ I 21 2) (hk1 : I 21 2 ≤ 24) (hw0 : -2147483648 ≤ w) (hw1 : w < 2147483648)
    (hq : ∀ I', Fr [21, 23 + e] I I' → I' (23 + e) 0 = t → I' (23 + e) 1 = w → I' (23 + e) 2 = g 29 → I' (23 + e) 3 = g 30 → I' (23 + e) 4 = g 31 → (0 ≤ w → w < g 1 → I' (23 + e) 5 = encN (g (32 + w))) → I' 21 1 = (if e = 23 then 0 else (e : Int) + 1) → I' 21 2 = (if I 21 2 = 24 then 24 else I 21 2 + 1) → Q none I' J) :
    EX x (d + 2) 3 [.inr (.inr (.inl 21)), .inr (.inr (.inl 2)), .inl t, .inl w] I J Q := by
  have b1 := B_1 H.1
  have e3 := H_3 H
  have e11 := H_11 H
  have e12 := H_12 H
  have e13 := H_13 H
  have fin : ∀ a5 nx kp : Int, (0 ≤ w → w < g 1 → a5 = encN (g (32 + w))) → nx = (if e = 23 then 0 else (e : Int) + 1) → kp = (if I 21 2 = 24 then 24 else I 21 2 + 1) → Q none (up (up (up (up (up (up (up (up I (23 + e) 0 t) (23 + e) 1 w) (23 + e) 2 (I 2 11)) (23 + e) 3 (I 2 12)) (23 + e) 4 (I 2 13)) (23 + e) 5 a5) 21 1 nx) 21 2 kp) J := by
    intro a5 nx kp h5 h6 h7
    refine hq _ (fun c hc => ?_) ?_ ?_ ?_ ?_ ?_ (fun a b => ?_) ?_ ?_
    · simp only [List.mem_cons, List.not_mem_nil, or_false, not_or] at hc
      simp (disch := omega) only [up_ne]
    · simp (disch := omega) only [up_ne, up_same, up_nj, flI_ne, flI_in, flI_out, cpI_ne, cpI_in, cpI_out]
    · simp (disch := omega) only [up_ne, up_same, up_nj, flI_ne, flI_in, flI_out, cpI_ne, cpI_in, cpI_out]
    · simp (disch := omega) only [up_ne, up_same, up_nj, flI_ne, flI_in, flI_out, cpI_ne, cpI_in, cpI_out, e11]
    · simp (disch := omega) only [up_ne, up_same, up_nj, flI_ne, flI_in, flI_out, cpI_ne, cpI_in, cpI_out, e12]
    · simp (disch := omega) only [up_ne, up_same, up_nj, flI_ne, flI_in, flI_out, cpI_ne, cpI_in, cpI_out, e13]
    · simp (disch := omega) only [up_ne, up_same, up_nj, flI_ne, flI_in, flI_out, cpI_ne, cpI_in, cpI_out, h5 a b]
    · simp (disch := omega) only [up_ne, up_same, up_nj, flI_ne, flI_in, flI_out, cpI_ne, cpI_in, cpI_out, h6]
    · simp (disch := omega) only [up_ne, up_same, up_nj, flI_ne, flI_in, flI_out, cpI_ne, cpI_in, cpI_out, h7]
  by_cases c1 : 0 ≤ w ∧ w < g 1
  · have e6 : I 6 w = encN (g (32 + w)) := (H_w H c1.1 c1.2).2.2.1
    have c1' : (0 ≤ w ∧ w < I 2 3) = True := eq_true (by omega)
    by_cases c2 : e = 23
    · by_cases c3 : I 21 2 = 24
      all_goals
        simp (disch := first | omega | (simp (disch := omega) only [up_ne, up_same, up_nj] <;> omega) | fail) only [@g_3_0, @g_3_1, @g_3_4, @g_3_5, @g_3_8, @g_3_9, @g_3_11, @g_3_13, @g_3_14, @g_3_17, @g_3_19, @g_3_20, @g_3_23, @g_3_25, @g_3_26, @g_3_29, @g_3_32, @g_3_34, @g_3_35, @g_3_38, @g_3_41, @g_3_43, @g_3_44, @g_3_47, @g_3_50, @g_3_52, @g_3_53, @g_3_54, @g_3_57, @g_3_60, @g_3_61, @g_3_64, @g_3_65, @h_3_65, @g_3_66, @g_3_69, @g_3_71, @g_3_74, @g_3_75, @g_3_76, @g_3_79, @g_3_80, @g_3_81, @g_3_83, @g_3_86, @g_3_87, @g_3_90, @g_3_91, @g_3_92, @g_3_95, @g_3_96, @g_3_99, @g_3_100, @g_3_101, @g_3_104, @g_3_105, @g_3_106, @g_3_108, @g_3_111, @g_3_114, @e_3, nlO_n, nlO_i, nlO_r, ret01_0, ret01_1, ret01_if, ret01_fi, true_and, Option.toList_some, Option.toList_none, List.cons_append, List.nil_append, ii_1, ii_0, ii_R, ij_1, ij_0, ij_R, ite_not, if_true, if_false, Int.one_ne_zero, one_e1, not_true_eq_false, not_false_eq_true, and_true, and_false, false_and, or_false, false_or, or_true, true_or, and_self, or_self, inr_n1000100, inr_n1000010, inr_n1000003, inr_n1000002, inr_n1000001, inr_n1000000, inr_n1, inr_0, inr_1, inr_2, inr_3, inr_4, inr_5, inr_6, inr_7, inr_8, inr_10, inr_11, inr_12, inr_13, inr_14, inr_15, inr_16, inr_20, inr_21, inr_22, inr_23, inr_24, inr_29, inr_30, inr_31, inr_32, inr_39, inr_40, inr_44, inr_48, inr_53, inr_54, inr_57, inr_59, inr_63, inr_97, inr_100, inr_101, inr_102, inr_104, inr_105, inr_106, inr_110, inr_112, inr_116, inr_120, inr_122, inr_144, inr_255, inr_256, inr_320, inr_552, inr_576, inr_999, inr_1000, inr_1023, inr_1024, inr_2048, inr_1000000, inr_252645135, inr_858993459, inr_1431655765, okO_2, okF_2_2, rfN_2_2, okF_2_4, rfN_2_4, okF_2_5, rfN_2_5, okF_2_6, rfN_2_6, okF_2_7, rfN_2_7, okF_2_9, rfN_2_9, okF_2_10, rfN_2_10, okA_6, lnN_6, okO_21, okF_21_0, rfN_21_0, lnN_22, he, elN_act, okE_act, okO_act, sp_16b, c1', up_ne, up_same, up_nj, flI_ne, flI_in, flI_out, cpI_ne, cpI_in, cpI_out, o_R, o_le, o_lt, o_nlt, o_nle, o_eq, o_ne, catS, Nat.zero_le]
        refine ⟨by omega, ?_⟩
        exact fin _ _ _ (fun _ _ => e6) (by rw [if_pos c2]) (by (repeat' split) <;> omega)
    · by_cases c3 : I 21 2 = 24
      all_goals
        simp (disch := first | omega | (simp (disch := omega) only [up_ne, up_same, up_nj] <;> omega) | fail) only [@g_3_0, @g_3_1, @g_3_4, @g_3_5, @g_3_8, @g_3_9, @g_3_11, @g_3_13, @g_3_14, @g_3_17, @g_3_19, @g_3_20, @g_3_23, @g_3_25, @g_3_26, @g_3_29, @g_3_32, @g_3_34, @g_3_35, @g_3_38, @g_3_41, @g_3_43, @g_3_44, @g_3_47, @g_3_50, @g_3_52, @g_3_53, @g_3_54, @g_3_57, @g_3_60, @g_3_61, @g_3_64, @g_3_65, @h_3_65, @g_3_66, @g_3_69, @g_3_71, @g_3_74, @g_3_75, @g_3_76, @g_3_79, @g_3_80, @g_3_81, @g_3_83, @g_3_86, @g_3_87, @g_3_90, @g_3_91, @g_3_92, @g_3_95, @g_3_96, @g_3_99, @g_3_100, @g_3_101, @g_3_104, @g_3_105, @g_3_106, @g_3_108, @g_3_111, @g_3_114, @e_3, nlO_n, nlO_i, nlO_r, ret01_0, ret01_1, ret01_if, ret01_fi, true_and, Option.toList_some, Option.toList_none, List.cons_append, List.nil_append, ii_1, ii_0, ii_R, ij_1, ij_0, ij_R, ite_not, if_true, if_false, Int.one_ne_zero, one_e1, not_true_eq_false, not_false_eq_true, and_true, and_false, false_and, or_false, false_or, or_true, true_or, and_self, or_self, inr_n1000100, inr_n1000010, inr_n1000003, inr_n1000002, inr_n1000001, inr_n1000000, inr_n1, inr_0, inr_1, inr_2, inr_3, inr_4, inr_5, inr_6, inr_7, inr_8, inr_10, inr_11, inr_12, inr_13, inr_14, inr_15, inr_16, inr_20, inr_21, inr_22, inr_23, inr_24, inr_29, inr_30, inr_31, inr_32, inr_39, inr_40, inr_44, inr_48, inr_53, inr_54, inr_57, inr_59, inr_63, inr_97, inr_100, inr_101, inr_102, inr_104, inr_105, inr_106, inr_110, inr_112, inr_116, inr_120, inr_122, inr_144, inr_255, inr_256, inr_320, inr_552, inr_576, inr_999, inr_1000, inr_1023, inr_1024, inr_2048, inr_1000000, inr_252645135, inr_858993459, inr_1431655765, okO_2, okF_2_2, rfN_2_2, okF_2_4, rfN_2_4, okF_2_5, rfN_2_5, okF_2_6, rfN_2_6, okF_2_7, rfN_2_7, okF_2_9, rfN_2_9, okF_2_10, rfN_2_10, okA_6, lnN_6, okO_21, okF_21_0, rfN_21_0, lnN_22, he, elN_act, okE_act, okO_act, sp_16b, c1', up_ne, up_same, up_nj, flI_ne, flI_in, flI_out, cpI_ne, cpI_in, cpI_out, o_R, o_le, o_lt, o_nlt, o_nle, o_eq, o_ne, catS, Nat.zero_le]
        refine ⟨by omega, ?_⟩
        exact fin _ _ _ (fun _ _ => e6) (by rw [if_neg c2]) (by (repeat' split) <;> omega)
  · have c1' : (0 ≤ w ∧ w < I 2 3) = False := eq_false (by omega)
    by_cases c2 : e = 23
    · by_cases c3 : I 21 2 = 24
      all_goals
        simp (disch := first | omega | (simp (disch := omega) only [up_ne, up_same, up_nj] <;> omega) | fail) only [@g_3_0, @g_3_1, @g_3_4, @g_3_5, @g_3_8, @g_3_9, @g_3_11, @g_3_13, @g_3_14, @g_3_17, @g_3_19, @g_3_20, @g_3_23, @g_3_25, @g_3_26, @g_3_29, @g_3_32, @g_3_34, @g_3_35, @g_3_38, @g_3_41, @g_3_43, @g_3_44, @g_3_47, @g_3_50, @g_3_52, @g_3_53, @g_3_54, @g_3_57, @g_3_60, @g_3_61, @g_3_64, @g_3_65, @h_3_65, @g_3_66, @g_3_69, @g_3_71, @g_3_74, @g_3_75, @g_3_76, @g_3_79, @g_3_80, @g_3_81, @g_3_83, @g_3_86, @g_3_87, @g_3_90, @g_3_91, @g_3_92, @g_3_95, @g_3_96, @g_3_99, @g_3_100, @g_3_101, @g_3_104, @g_3_105, @g_3_106, @g_3_108, @g_3_111, @g_3_114, @e_3, nlO_n, nlO_i, nlO_r, ret01_0, ret01_1, ret01_if, ret01_fi, true_and, Option.toList_some, Option.toList_none, List.cons_append, List.nil_append, ii_1, ii_0, ii_R, ij_1, ij_0, ij_R, ite_not, if_true, if_false, Int.one_ne_zero, one_e1, not_true_eq_false, not_false_eq_true, and_true, and_false, false_and, or_false, false_or, or_true, true_or, and_self, or_self, inr_n1000100, inr_n1000010, inr_n1000003, inr_n1000002, inr_n1000001, inr_n1000000, inr_n1, inr_0, inr_1, inr_2, inr_3, inr_4, inr_5, inr_6, inr_7, inr_8, inr_10, inr_11, inr_12, inr_13, inr_14, inr_15, inr_16, inr_20, inr_21, inr_22, inr_23, inr_24, inr_29, inr_30, inr_31, inr_32, inr_39, inr_40, inr_44, inr_48, inr_53, inr_54, inr_57, inr_59, inr_63, inr_97, inr_100, inr_101, inr_102, inr_104, inr_105, inr_106, inr_110, inr_112, inr_116, inr_120, inr_122, inr_144, inr_255, inr_256, inr_320, inr_552, inr_576, inr_999, inr_1000, inr_1023, inr_1024, inr_2048, inr_1000000, inr_252645135, inr_858993459, inr_1431655765, okO_2, okF_2_2, rfN_2_2, okF_2_4, rfN_2_4, okF_2_5, rfN_2_5, okF_2_6, rfN_2_6, okF_2_7, rfN_2_7, okF_2_9, rfN_2_9, okF_2_10, rfN_2_10, okA_6, lnN_6, okO_21, okF_21_0, rfN_21_0, lnN_22, he, elN_act, okE_act, okO_act, sp_16b, c1', up_ne, up_same, up_nj, flI_ne, flI_in, flI_out, cpI_ne, cpI_in, cpI_out, o_R, o_le, o_lt, o_nlt, o_nle, o_eq, o_ne, catS, Nat.zero_le]
        refine ⟨by omega, ?_⟩
        exact fin _ _ _ (fun a b => absurd ⟨a, b⟩ c1) (by rw [if_pos c2]) (by (repeat' split) <;> omega)
    · by_cases c3 : I 21 2 = 24
      all_goals
        simp (disch := first | omega | (simp (disch := omega) only [up_ne, up_same, up_nj] <;> omega) | fail) only [@g_3_0, @g_3_1, @g_3_4, @g_3_5, @g_3_8, @g_3_9, @g_3_11, @g_3_13, @g_3_14, @g_3_17, @g_3_19, @g_3_20, @g_3_23, @g_3_25, @g_3_26, @g_3_29, @g_3_32, @g_3_34, @g_3_35, @g_3_38, @g_3_41, @g_3_43, @g_3_44, @g_3_47, @g_3_50, @g_3_52, @g_3_53, @g_3_54, @g_3_57, @g_3_60, @g_3_61, @g_3_64, @g_3_65, @h_3_65, @g_3_66, @g_3_69, @g_3_71, @g_3_74, @g_3_75, @g_3_76, @g_3_79, @g_3_80, @g_3_81, @g_3_83, @g_3_86, @g_3_87, @g_3_90, @g_3_91, @g_3_92, @g_3_95, @g_3_96, @g_3_99, @g_3_100, @g_3_101, @g_3_104, @g_3_105, @g_3_106, @g_3_108, @g_3_111, @g_3_114, @e_3, nlO_n, nlO_i, nlO_r, ret01_0, ret01_1, ret01_if, ret01_fi, true_and, Option.toList_some, Option.toList_none, List.cons_append, List.nil_append, ii_1, ii_0, ii_R, ij_1, ij_0, ij_R, ite_not, if_true, if_false, Int.one_ne_zero, one_e1, not_true_eq_false, not_false_eq_true, and_true, and_false, false_and, or_false, false_or, or_true, true_or, and_self, or_self, inr_n1000100, inr_n1000010, inr_n1000003, inr_n1000002, inr_n1000001, inr_n1000000, inr_n1, inr_0, inr_1, inr_2, inr_3, inr_4, inr_5, inr_6, inr_7, inr_8, inr_10, inr_11, inr_12, inr_13, inr_14, inr_15, inr_16, inr_20, inr_21, inr_22, inr_23, inr_24, inr_29, inr_30, inr_31, inr_32, inr_39, inr_40, inr_44, inr_48, inr_53, inr_54, inr_57, inr_59, inr_63, inr_97, inr_100, inr_101, inr_102, inr_104, inr_105, inr_106, inr_110, inr_112, inr_116, inr_120, inr_122, inr_144, inr_255, inr_256, inr_320, inr_552, inr_576, inr_999, inr_1000, inr_1023, inr_1024, inr_2048, inr_1000000, inr_252645135, inr_858993459, inr_1431655765, okO_2, okF_2_2, rfN_2_2, okF_2_4, rfN_2_4, okF_2_5, rfN_2_5, okF_2_6, rfN_2_6, okF_2_7, rfN_2_7, okF_2_9, rfN_2_9, okF_2_10, rfN_2_10, okA_6, lnN_6, okO_21, okF_21_0, rfN_21_0, lnN_22, he, elN_act, okE_act, okO_act, sp_16b, c1', up_ne, up_same, up_nj, flI_ne, flI_in, flI_out, cpI_ne, cpI_in, cpI_out, o_R, o_le, o_lt, o_nlt, o_nle, o_eq, o_ne, catS, Nat.zero_le]
        refine ⟨by omega, ?_⟩
        exact fin _ _ _ (fun a b => absurd ⟨a, b⟩ c1) (by rw [if_neg c2]) (by (repeat' split) <;> omega)
/-- the model: all acts one place down -/
def shD (I : MI) (i : Int) : MI := fun c j => if c = 96 ∧ i ≤ j ∧ j < 552 then I 96 (j + 24) else I c j
theorem shD_up {i : Int} (h : i < 552) : shD (up I 96 i (I 96 (i + 24))) (i + 1) = shD I i := mi_ext fun c j => by
  unfold shD up
  by_cases hc : c = 96
  · subst hc
    by_cases h1 : j = i
    · rw [if_neg (by omega), if_pos (by omega), if_pos (by omega), h1]
    · by_cases h2 : i ≤ j ∧ j < 552
      · rw [if_pos (by omega), if_neg (by omega), if_pos (by omega)]
      · rw [if_neg (by omega), if_neg (by omega), if_neg (by omega)]
  · rw [if_neg (fun z => hc z.1), if_neg (fun z => hc z.1), if_neg (fun z => hc z.1)]
theorem shD_end : shD I 552 = I := mi_ext fun c j => by unfold shD; rw [if_neg (by omega)]
theorem lp_137a : ∀ (m : Nat) (i : Int) (I : MI), 0 ≤ i → i ≤ 552 → (552 - i).toNat = m → GO x d 137 Q 39 [some (.inr (.inr (.inl 92))), some (.inl 552)] [] (shD I i) J → GO x d 137 Q 11 [some (.inr (.inr (.inl 92))), some (.inl i)] [] I J := by
  intro m
  induction m with
  | zero =>
    intro i I h0 hi hm hq
    have e : i = 552 := by omega
    subst e
    rw [shD_end] at hq
    rw [@g_137_11]
    simp (disch := omega) only [@g_137_12, @g_137_15, nlO_n, nlO_i, nlO_r, ret01_0, ret01_1, ret01_if, ret01_fi, true_and, Option.toList_some, Option.toList_none, List.cons_append, List.nil_append, ii_1, ii_0, ii_R, ij_1, ij_0, ij_R, ite_not, if_true, if_false, Int.one_ne_zero, one_e1, not_true_eq_false, not_false_eq_true, and_true, and_false, false_and, or_false, false_or, or_true, true_or, and_self, or_self, inr_n1000100, inr_n1000010, inr_n1000003, inr_n1000002, inr_n1000001, inr_n1000000, inr_n1, inr_0, inr_1, inr_2, inr_3, inr_4, inr_5, inr_6, inr_7, inr_8, inr_10, inr_11, inr_12, inr_13, inr_14, inr_15, inr_16, inr_20, inr_21, inr_22, inr_23, inr_24, inr_29, inr_30, inr_31, inr_32, inr_39, inr_40, inr_44, inr_48, inr_53, inr_54, inr_57, inr_59, inr_63, inr_97, inr_100, inr_101, inr_102, inr_104, inr_105, inr_106, inr_110, inr_112, inr_116, inr_120, inr_122, inr_144, inr_255, inr_256, inr_320, inr_552, inr_576, inr_999, inr_1000, inr_1023, inr_1024, inr_2048, inr_1000000, inr_252645135, inr_858993459, inr_1431655765, o_R, o_le, o_lt, o_nlt, o_nle, o_eq, o_ne]
    exact hq
  | succ m ih =>
    intro i I h0 hi hm hq
    rw [@g_137_11]
    simp (disch := omega) only [@g_137_12, @g_137_15, @g_137_18, @g_137_19, @g_137_22, @g_137_23, @g_137_24, @g_137_27, @g_137_28, @g_137_30, @g_137_31, @g_137_32, @g_137_33, @g_137_36, nlO_n, nlO_i, nlO_r, ret01_0, ret01_1, ret01_if, ret01_fi, true_and, Option.toList_some, Option.toList_none, List.cons_append, List.nil_append, ii_1, ii_0, ii_R, ij_1, ij_0, ij_R, ite_not, if_true, if_false, Int.one_ne_zero, one_e1, not_true_eq_false, not_false_eq_true, and_true, and_false, false_and, or_false, false_or, or_true, true_or, and_self, or_self, inr_n1000100, inr_n1000010, inr_n1000003, inr_n1000002, inr_n1000001, inr_n1000000, inr_n1, inr_0, inr_1, inr_2, inr_3, inr_4, inr_5, inr_6, inr_7, inr_8, inr_10, inr_11, inr_12, inr_13, inr_14, inr_15, inr_16, inr_20, inr_21, inr_22, inr_23, inr_24, inr_29, inr_30, inr_31, inr_32, inr_39, inr_40, inr_44, inr_48, inr_53, inr_54, inr_57, inr_59, inr_63, inr_97, inr_100, inr_101, inr_102, inr_104, inr_105, inr_106, inr_110, inr_112, inr_116, inr_120, inr_122, inr_144, inr_255, inr_256, inr_320, inr_552, inr_576, inr_999, inr_1000, inr_1023, inr_1024, inr_2048, inr_1000000, inr_252645135, inr_858993459, inr_1431655765, okO_92, okF_92_0, rfN_92_0, okF_92_2, rfN_92_2, okF_92_3, rfN_92_3, okF_92_4, rfN_92_4, okF_92_6, rfN_92_6, okF_92_7, rfN_92_7, okF_92_8, rfN_92_8, okF_92_9, rfN_92_9, okF_92_10, rfN_92_10, okF_92_11, rfN_92_11, okF_92_20, rfN_92_20, okF_92_21, rfN_92_21, okF_92_22, rfN_92_22, okF_92_23, rfN_92_23, okF_92_25, rfN_92_25, okF_92_26, rfN_92_26, okF_92_27, rfN_92_27, okA_96, lnN_96, o_R, o_le, o_lt, o_nlt, o_nle, o_eq, o_ne]
    refine ih (i + 1) _ (by omega) (by omega) (by omega) ?_
    rw [shD_up (by omega)]
    exact hq
theorem lp_137b {kn : Int} (hk0 : 0 ≤ kn) (hk1 : kn < 24) : ∀ (m : Nat) (i : Int) (I : MI), I 92 5 = kn → 0 ≤ i → i ≤ 24 → (24 - i).toNat = m → Q none (up (cpI I 96 (24 * kn + i) (24 - i) 94 (29 + i)) 92 5 (kn + 1)) J → GO x d 137 Q 51 [some (.inr (.inr (.inl 92))), some (.inl i)] [] I J := by
  intro m
  induction m with
  | zero =>
    intro i I hk h0 hi hm hq
    have e : i = 24 := by omega
    subst e
    rw [show (24 : Int) - 24 = 0 by omega, cpI_0] at hq
    rw [@g_137_51]
    simp (disch := omega) only [@g_137_0, @g_137_1, @g_137_4, @g_137_6, @g_137_9, @g_137_10, @g_137_12, @g_137_15, @g_137_18, @g_137_19, @g_137_22, @g_137_23, @g_137_24, @g_137_27, @g_137_28, @g_137_30, @g_137_31, @h_137_31, @g_137_32, @g_137_33, @g_137_36, @g_137_39, @g_137_40, @g_137_41, @g_137_44, @g_137_45, @g_137_46, @g_137_49, @g_137_50, @g_137_52, @g_137_54, @g_137_57, @g_137_58, @g_137_61, @g_137_63, @g_137_64, @g_137_67, @g_137_68, @g_137_69, @g_137_70, @g_137_71, @g_137_74, @g_137_76, @g_137_77, @g_137_78, @h_137_78, @g_137_79, @g_137_80, @g_137_83, @g_137_86, @g_137_87, @g_137_88, @g_137_91, @g_137_92, @g_137_93, @g_137_96, @e_137, nlO_n, nlO_i, nlO_r, ret01_0, ret01_1, ret01_if, ret01_fi, true_and, Option.toList_some, Option.toList_none, List.cons_append, List.nil_append, ii_1, ii_0, ii_R, ij_1, ij_0, ij_R, ite_not, if_true, if_false, Int.one_ne_zero, one_e1, not_true_eq_false, not_false_eq_true, and_true, and_false, false_and, or_false, false_or, or_true, true_or, and_self, or_self, inr_n1000100, inr_n1000010, inr_n1000003, inr_n1000002, inr_n1000001, inr_n1000000, inr_n1, inr_0, inr_1, inr_2, inr_3, inr_4, inr_5, inr_6, inr_7, inr_8, inr_10, inr_11, inr_12, inr_13, inr_14, inr_15, inr_16, inr_20, inr_21, inr_22, inr_23, inr_24, inr_29, inr_30, inr_31, inr_32, inr_39, inr_40, inr_44, inr_48, inr_53, inr_54, inr_57, inr_59, inr_63, inr_97, inr_100, inr_101, inr_102, inr_104, inr_105, inr_106, inr_110, inr_112, inr_116, inr_120, inr_122, inr_144, inr_255, inr_256, inr_320, inr_552, inr_576, inr_999, inr_1000, inr_1023, inr_1024, inr_2048, inr_1000000, inr_252645135, inr_858993459, inr_1431655765, okO_92, okF_92_0, rfN_92_0, okF_92_2, rfN_92_2, okF_92_3, rfN_92_3, okF_92_4, rfN_92_4, okF_92_6, rfN_92_6, okF_92_7, rfN_92_7, okF_92_8, rfN_92_8, okF_92_9, rfN_92_9, okF_92_10, rfN_92_10, okF_92_11, rfN_92_11, okF_92_20, rfN_92_20, okF_92_21, rfN_92_21, okF_92_22, rfN_92_22, okF_92_23, rfN_92_23, okF_92_25, rfN_92_25, okF_92_26, rfN_92_26, okF_92_27, rfN_92_27, o_R, o_le, o_lt, o_nlt, o_nle, o_eq, o_ne, hk]
    exact hq
  | succ m ih =>
    intro i I hk h0 hi hm hq
    rw [@g_137_51]
    simp (disch := omega) only [@g_137_0, @g_137_1, @g_137_4, @g_137_6, @g_137_9, @g_137_10, @g_137_12, @g_137_15, @g_137_18, @g_137_19, @g_137_22, @g_137_23, @g_137_24, @g_137_27, @g_137_28, @g_137_30, @g_137_31, @h_137_31, @g_137_32, @g_137_33, @g_137_36, @g_137_39, @g_137_40, @g_137_41, @g_137_44, @g_137_45, @g_137_46, @g_137_49, @g_137_50, @g_137_52, @g_137_54, @g_137_57, @g_137_58, @g_137_61, @g_137_63, @g_137_64, @g_137_67, @g_137_68, @g_137_69, @g_137_70, @g_137_71, @g_137_74, @g_137_76, @g_137_77, @g_137_78, @h_137_78, @g_137_79, @g_137_80, @g_137_83, @g_137_86, @g_137_87, @g_137_88, @g_137_91, @g_137_92, @g_137_93, @g_137_96, @e_137, nlO_n, nlO_i, nlO_r, ret01_0, ret01_1, ret01_if, ret01_fi, true_and, Option.toList_some, Option.toList_none, List.cons_append, List.nil_append, ii_1, ii_0, ii_R, ij_1, ij_0, ij_R, ite_not, if_true, if_false, Int.one_ne_zero, one_e1, not_true_eq_false, not_false_eq_true, and_true, and_false, false_and, or_false, false_or, or_true, true_or, and_self, or_self, inr_n1000100, inr_n1000010, inr_n1000003, inr_n1000002, inr_n1000001, inr_n1000000, inr_n1, inr_0, inr_1, inr_2, inr_3, inr_4, inr_5, inr_6, inr_7, inr_8, inr_10, inr_11, inr_12, inr_13, inr_14, inr_15, inr_16, inr_20, inr_21, inr_22, inr_23, inr_24, inr_29, inr_30, inr_31, inr_32, inr_39, inr_40, inr_44, inr_48, inr_53, inr_54, inr_57, inr_59, inr_63, inr_97, inr_100, inr_101, inr_102, inr_104, inr_105, inr_106, inr_110, inr_112, inr_116, inr_120, inr_122, inr_144, inr_255, inr_256, inr_320, inr_552, inr_576, inr_999, inr_1000, inr_1023, inr_1024, inr_2048, inr_1000000, inr_252645135, inr_858993459, inr_1431655765, okO_92, okF_92_0, rfN_92_0, okF_92_2, rfN_92_2, okF_92_3, rfN_92_3, okF_92_4, rfN_92_4, okF_92_6, rfN_92_6, okF_92_7, rfN_92_7, okF_92_8, rfN_92_8, okF_92_9, rfN_92_9, okF_92_10, rfN_92_10, okF_92_11, rfN_92_11, okF_92_20, rfN_92_20, okF_92_21, rfN_92_21, okF_92_22, rfN_92_22, okF_92_23, rfN_92_23, okF_92_25, rfN_92_25, okF_92_26, rfN_92_26, okF_92_27, rfN_92_27, okA_94, lnN_94, okA_96, lnN_96, o_R, o_le, o_lt, o_nlt, o_nle, o_eq, o_ne, hk]
    refine ih (i + 1) _ (by rw [up_ne (by omega)]; exact hk) (by omega) (by omega) (by omega) ?_
    rw [show 24 * kn + (i + 1) = 24 * kn + i + 1 by omega, show 29 + (i + 1) = 29 + i + 1 by omega, cpI_up (e2 := 24 - i) (by omega) (by omega) (by omega)]
    exact hq
/-- the acts of the model behind a keeping -/
def KeptM (I I' : MI) : Prop := Fr [96, 92] I I' ∧ (∀ j, j ≠ 5 → I' 92 j = I 92 j) ∧ I' 92 5 = (if I 92 5 = 24 then 24 else I 92 5 + 1) ∧ past I' (I' 92 5 - 1) = I 94 ∧ ∀ m : Int, 0 ≤ m → m < I' 92 5 - 1 → past I' m = past I (m + (if I 92 5 = 24 then 1 else 0))
theorem sp_137 (hk0 : 0 ≤ I 92 5) (hk1 : I 92 5 ≤ 24) (hq : ∀ I', KeptM I I' → Q none I' J) : EX x (d + 1) 137 [.inr (.inr (.inl 92))] I J Q := by
  by_cases c1 : I 92 5 = 24
  · simp (disch := omega) only [@e_137, @g_137_0, @g_137_1, @g_137_4, @g_137_6, @g_137_9, @g_137_10, nlO_n, nlO_i, nlO_r, ret01_0, ret01_1, ret01_if, ret01_fi, true_and, Option.toList_some, Option.toList_none, List.cons_append, List.nil_append, ii_1, ii_0, ii_R, ij_1, ij_0, ij_R, ite_not, if_true, if_false, Int.one_ne_zero, one_e1, not_true_eq_false, not_false_eq_true, and_true, and_false, false_and, or_false, false_or, or_true, true_or, and_self, or_self, inr_n1000100, inr_n1000010, inr_n1000003, inr_n1000002, inr_n1000001, inr_n1000000, inr_n1, inr_0, inr_1, inr_2, inr_3, inr_4, inr_5, inr_6, inr_7, inr_8, inr_10, inr_11, inr_12, inr_13, inr_14, inr_15, inr_16, inr_20, inr_21, inr_22, inr_23, inr_24, inr_29, inr_30, inr_31, inr_32, inr_39, inr_40, inr_44, inr_48, inr_53, inr_54, inr_57, inr_59, inr_63, inr_97, inr_100, inr_101, inr_102, inr_104, inr_105, inr_106, inr_110, inr_112, inr_116, inr_120, inr_122, inr_144, inr_255, inr_256, inr_320, inr_552, inr_576, inr_999, inr_1000, inr_1023, inr_1024, inr_2048, inr_1000000, inr_252645135, inr_858993459, inr_1431655765, okO_92, okF_92_0, rfN_92_0, okF_92_2, rfN_92_2, okF_92_3, rfN_92_3, okF_92_4, rfN_92_4, okF_92_6, rfN_92_6, okF_92_7, rfN_92_7, okF_92_8, rfN_92_8, okF_92_9, rfN_92_9, okF_92_10, rfN_92_10, okF_92_11, rfN_92_11, okF_92_20, rfN_92_20, okF_92_21, rfN_92_21, okF_92_22, rfN_92_22, okF_92_23, rfN_92_23, okF_92_25, rfN_92_25, okF_92_26, rfN_92_26, okF_92_27, rfN_92_27, o_R, o_le, o_lt, o_nlt, o_nle, o_eq, o_ne]
    refine lp_137a _ 0 I (by omega) (by omega) rfl ?_
    have e1 : shD I 0 92 5 = 24 := by unfold shD; rw [if_neg (by omega)]; exact c1
    simp (disch := omega) only [@g_137_39, @g_137_40, @g_137_41, @g_137_44, @g_137_45, @g_137_46, @g_137_49, @g_137_50, nlO_n, nlO_i, nlO_r, ret01_0, ret01_1, ret01_if, ret01_fi, true_and, Option.toList_some, Option.toList_none, List.cons_append, List.nil_append, ii_1, ii_0, ii_R, ij_1, ij_0, ij_R, ite_not, if_true, if_false, Int.one_ne_zero, one_e1, not_true_eq_false, not_false_eq_true, and_true, and_false, false_and, or_false, false_or, or_true, true_or, and_self, or_self, inr_n1000100, inr_n1000010, inr_n1000003, inr_n1000002, inr_n1000001, inr_n1000000, inr_n1, inr_0, inr_1, inr_2, inr_3, inr_4, inr_5, inr_6, inr_7, inr_8, inr_10, inr_11, inr_12, inr_13, inr_14, inr_15, inr_16, inr_20, inr_21, inr_22, inr_23, inr_24, inr_29, inr_30, inr_31, inr_32, inr_39, inr_40, inr_44, inr_48, inr_53, inr_54, inr_57, inr_59, inr_63, inr_97, inr_100, inr_101, inr_102, inr_104, inr_105, inr_106, inr_110, inr_112, inr_116, inr_120, inr_122, inr_144, inr_255, inr_256, inr_320, inr_552, inr_576, inr_999, inr_1000, inr_1023, inr_1024, inr_2048, inr_1000000, inr_252645135, inr_858993459, inr_1431655765, okO_92, okF_92_0, rfN_92_0, okF_92_2, rfN_92_2, okF_92_3, rfN_92_3, okF_92_4, rfN_92_4, okF_92_6, rfN_92_6, okF_92_7, rfN_92_7, okF_92_8, rfN_92_8, okF_92_9, rfN_92_9, okF_92_10, rfN_92_10, okF_92_11, rfN_92_11, okF_92_20, rfN_92_20, okF_92_21, rfN_92_21, okF_92_22, rfN_92_22, okF_92_23, rfN_92_23, okF_92_25, rfN_92_25, okF_92_26, rfN_92_26, okF_92_27, rfN_92_27, o_R, o_le, o_lt, o_nlt, o_nle, o_eq, o_ne, e1]
    refine lp_137b (kn := 23) (by omega) (by omega) _ 0 _ (by rw [up_same]; rfl) (by omega) (by omega) rfl ?_
    refine hq _ ⟨fun c hc => ?_, fun j hj => ?_, ?_, ?_, fun m hm0 hm1 => ?_⟩
    · simp only [List.mem_cons, List.not_mem_nil, or_false, not_or] at hc
      simp (disch := omega) only [up_ne, up_same, up_nj, flI_ne, flI_in, flI_out, cpI_ne, cpI_in, cpI_out]
      funext j
      unfold shD
      rw [if_neg (by omega)]
    · simp (disch := omega) only [up_ne, up_same, up_nj, flI_ne, flI_in, flI_out, cpI_ne, cpI_in, cpI_out]
      unfold shD
      rw [if_neg (by omega)]
    · simp (disch := omega) only [up_ne, up_same, up_nj, flI_ne, flI_in, flI_out, cpI_ne, cpI_in, cpI_out, c1]
      rfl
    · funext i
      unfold past
      simp (disch := omega) only [up_ne, up_same, up_nj, flI_ne, flI_in, flI_out, cpI_ne, cpI_in, cpI_out]
      by_cases hi : 29 ≤ i ∧ i < 53
      · rw [if_pos hi]
        unfold shD
        rw [if_neg (by omega)]
        congr 1
        omega
      · rw [if_neg hi]
        unfold shD
        rw [if_neg (by omega)]
    · simp (disch := omega) only [up_ne, up_same, up_nj, flI_ne, flI_in, flI_out, cpI_ne, cpI_in, cpI_out] at hm1
      funext i
      unfold past
      by_cases hi : 29 ≤ i ∧ i < 53
      · rw [if_pos hi, if_pos hi, if_pos c1]
        simp (disch := omega) only [up_ne, up_same, up_nj, flI_ne, flI_in, flI_out, cpI_ne, cpI_in, cpI_out]
        unfold shD
        rw [if_pos (by omega)]
        congr 1
        omega
      · rw [if_neg hi, if_neg hi]
        simp (disch := omega) only [up_ne, up_same, up_nj, flI_ne, flI_in, flI_out, cpI_ne, cpI_in, cpI_out]
        unfold shD
        rw [if_neg (by omega)]
  · simp (disch := omega) only [@e_137, @g_137_0, @g_137_1, @g_137_4, @g_137_6, @g_137_49, @g_137_50, nlO_n, nlO_i, nlO_r, ret01_0, ret01_1, ret01_if, ret01_fi, true_and, Option.toList_some, Option.toList_none, List.cons_append, List.nil_append, ii_1, ii_0, ii_R, ij_1, ij_0, ij_R, ite_not, if_true, if_false, Int.one_ne_zero, one_e1, not_true_eq_false, not_false_eq_true, and_true, and_false, false_and, or_false, false_or, or_true, true_or, and_self, or_self, inr_n1000100, inr_n1000010, inr_n1000003, inr_n1000002, inr_n1000001, inr_n1000000, inr_n1, inr_0, inr_1, inr_2, inr_3, inr_4, inr_5, inr_6, inr_7, inr_8, inr_10, inr_11, inr_12, inr_13, inr_14, inr_15, inr_16, inr_20, inr_21, inr_22, inr_23, inr_24, inr_29, inr_30, inr_31, inr_32, inr_39, inr_40, inr_44, inr_48, inr_53, inr_54, inr_57, inr_59, inr_63, inr_97, inr_100, inr_101, inr_102, inr_104, inr_105, inr_106, inr_110, inr_112, inr_116, inr_120, inr_122, inr_144, inr_255, inr_256, inr_320, inr_552, inr_576, inr_999, inr_1000, inr_1023, inr_1024, inr_2048, inr_1000000, inr_252645135, inr_858993459, inr_1431655765, okO_92, okF_92_0, rfN_92_0, okF_92_2, rfN_92_2, okF_92_3, rfN_92_3, okF_92_4, rfN_92_4, okF_92_6, rfN_92_6, okF_92_7, rfN_92_7, okF_92_8, rfN_92_8, okF_92_9, rfN_92_9, okF_92_10, rfN_92_10, okF_92_11, rfN_92_11, okF_92_20, rfN_92_20, okF_92_21, rfN_92_21, okF_92_22, rfN_92_22, okF_92_23, rfN_92_23, okF_92_25, rfN_92_25, okF_92_26, rfN_92_26, okF_92_27, rfN_92_27, o_R, o_le, o_lt, o_nlt, o_nle, o_eq, o_ne]
    refine lp_137b (kn := I 92 5) (by omega) (by omega) _ 0 _ rfl (by omega) (by omega) rfl ?_
    refine hq _ ⟨fun c hc => ?_, fun j hj => ?_, ?_, ?_, fun m hm0 hm1 => ?_⟩
    · simp only [List.mem_cons, List.not_mem_nil, or_false, not_or] at hc
      simp (disch := omega) only [up_ne, up_same, up_nj, flI_ne, flI_in, flI_out, cpI_ne, cpI_in, cpI_out]
    · simp (disch := omega) only [up_ne, up_same, up_nj, flI_ne, flI_in, flI_out, cpI_ne, cpI_in, cpI_out]
    · simp (disch := omega) only [up_ne, up_same, up_nj, flI_ne, flI_in, flI_out, cpI_ne, cpI_in, cpI_out]
      rw [if_neg c1]
    · funext i
      unfold past
      simp (disch := omega) only [up_ne, up_same, up_nj, flI_ne, flI_in, flI_out, cpI_ne, cpI_in, cpI_out]
      by_cases hi : 29 ≤ i ∧ i < 53
      · rw [if_pos hi]
        congr 1
        omega
      · rw [if_neg hi]
    · simp (disch := omega) only [up_ne, up_same, up_nj, flI_ne, flI_in, flI_out, cpI_ne, cpI_in, cpI_out] at hm1
      funext i
      unfold past
      by_cases hi : 29 ≤ i ∧ i < 53
      · rw [if_pos hi, if_pos hi, if_neg c1]
        simp (disch := omega) only [up_ne, up_same, up_nj, flI_ne, flI_in, flI_out, cpI_ne, cpI_in, cpI_out]
        congr 1
        omega
      · rw [if_neg hi, if_neg hi]
        simp (disch := omega) only [up_ne, up_same, up_nj, flI_ne, flI_in, flI_out, cpI_ne, cpI_in, cpI_out]
end
