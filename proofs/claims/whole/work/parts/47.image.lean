/-! ===== image, restore ===== -/
theorem MOK_ext {B : Int} {g g' : HV} (e : ∀ i : Int, 0 ≤ i → i < 53 → g' i = g i) (M : MOK B g) : MOK B g' := by
  have hb1 := B_1 M
  have hb2 := B_2 M
  obtain ⟨⟨w1, w2, w3, w4, w5, w6, w7, w8, w9⟩, ⟨v1, v2, v3, v4, v5, v6, v7, v8⟩, h1⟩ := M
  refine ⟨⟨?_, ?_, ?_, ?_, ?_, ?_, ?_, ?_, ?_⟩, ⟨?_, ?_, ?_, ?_, ?_, ?_, ?_, ?_⟩, h1⟩
  all_goals simp (disch := omega) only [e]
  · exact w1
  · exact w2
  · exact w3
  · exact w4
  · exact w5
  · exact w6
  · intro hq
    obtain ⟨z1, z2, z3⟩ := w7 hq
    refine ⟨z1, z2, fun k2 a b => ?_⟩
    rw [e _ (by omega) (by omega)]
    exact z3 k2 a b
  · intro w a b
    rw [e _ (by omega) (by omega), e _ (by omega) (by omega)]
    exact w8 w a b
  · intro w a b
    rw [e _ (by omega) (by omega)]
    exact w9 w a b
  · exact v1
  · exact v2
  · exact v3
  · exact v4
  · exact v5
  · rw [nPas_cong (g := g) _ (fun t a b => e _ (by omega) (by omega))]
    exact v6
  · intro w a b
    rw [e _ (by omega) (by omega), e _ (by omega) (by omega)]
    exact v7 w a b
  · intro w a b
    rw [e _ (by omega) (by omega)]
    exact v8 w a b
theorem RHd_ext {B : Int} {I : MI} {h : Nat} {g g' : HV} (M : MOK B g) (e : ∀ i : Int, 0 ≤ i → i < 53 → g' i = g i) (R : RHd I h g) : RHd I h g' := by
  have hb1 := B_1 M
  have hb2 := B_2 M
  obtain ⟨h1, h2, h3, h4, h5, h6, h7, h8, h9⟩ := R
  refine ⟨?_, ?_, ?_, ?_, ?_, ?_, ?_, ?_, ?_⟩
  all_goals simp (disch := omega) only [e]
  · exact h1
  · exact h2
  · exact h3
  · exact h4
  · exact h5
  · exact h6
  · intro hq
    obtain ⟨z1, z3⟩ := h7 hq
    refine ⟨z1, fun k2 a b => ?_⟩
    rw [e _ (by omega) (by omega)]
    exact z3 k2 a b
  · intro w a b
    rw [e _ (by omega) (by omega), e _ (by omega) (by omega), e _ (by omega) (by omega), e _ (by omega) (by omega)]
    exact h8 w a b
  · intro w a b
    rw [e _ (by omega) (by omega), e _ (by omega) (by omega)]
    exact h9 w a b
theorem ROK_ext {B : Int} {I : MI} {h : Nat} {g g' : HV} (e : ∀ i : Int, 0 ≤ i → i < 53 → g' i = g i) (R : ROK B I h g) : ROK B I h g' := ⟨MOK_ext e R.1, RHd_ext R.1 e R.2⟩
section
variable {x : RO} {d : Nat} {Q : QT} {I : MI} {J : MJ} {n : Nat}
/-- hedges change, rows, tape, status and trace stay -/
theorem Inv_H {I' : MI} (h : Inv n I J) (q : ∀ c, ((60 ≤ c ∧ c < 76) ∨ (99 ≤ c ∧ c ≤ 102) ∨ c = 20 ∨ c = 93 ∨ c = 59) → I' c = I c) (b1 : I' 0 10 = I 0 10) (b2 : I' 19 3 = I 19 3) (b3 : I' 19 4 = I 19 4) (b4 : I' 58 1 = I 58 1) (b5 : I' 92 1 = I 92 1) (b7 : I' 92 12 = I 92 12) (b8 : I' 92 13 = I 92 13) (b9 : I' 92 14 = I 92 14)
    (hR : ROK (1000 + 2 * ((n + 1 : Nat) : Int)) I' 2 (I' 94)) (hI : RIm (1000 + 2 * ((n + 1 : Nat) : Int)) I') (hA : RAs (1000 + 2 * ((n + 1 : Nat) : Int)) I') (hK : RAk (1000 + 2 * ((n + 1 : Nat) : Int)) I') : Inv (n + 1) I' J := by
  obtain ⟨h1, h2, h3, h4, h5, h6, h7, h8, h9⟩ := h
  exact ⟨RRs_cong (fun c _ _ => q c (by omega)) (q 99 (by omega)) (q 100 (by omega)) (q 101 (by omega)) h1, RTp_cong b2 b3 (q 20 (by omega)) b5 b9 (q 93 (by omega)) h2, RSt_cong b1 b8 h3,
    hR, hI, hA, RTr_cong b4 (q 59 (by omega)) b7 (q 102 (by omega)) h7, hK, RPl_up h9⟩
theorem lp_164 {k : Int} (hk0 : 0 ≤ k) (hk1 : k ≤ 1) : ∀ (m : Nat) (i : Int) (I : MI), 0 ≤ i → i ≤ 53 → (53 - i).toNat = m → Q (some (.inl 1)) (up (cpI I 97 (53 * k + i) (53 - i) 94 i) 98 k 1) J → GO x d 164 Q 24 [some (.inr (.inr (.inl 92))), some (.inl k), some (.inl i)] [] I J := by
  intro m
  induction m with
  | zero =>
    intro i I h0 hi hm hq
    have e : i = 53 := by omega
    subst e
    rw [show (53 : Int) - 53 = 0 by omega, cpI_0] at hq
    rw [@g_164_24]
    simp (disch := omega) only [@g_164_0, @g_164_1, @g_164_2, @g_164_3, @g_164_6, @g_164_9, @g_164_11, @g_164_12, @g_164_13, @g_164_16, @g_164_19, @g_164_21, @g_164_22, @g_164_23, @g_164_25, @g_164_27, @g_164_30, @g_164_31, @g_164_34, @g_164_36, @g_164_37, @g_164_38, @g_164_39, @g_164_40, @g_164_41, @g_164_44, @g_164_45, @h_164_45, @g_164_46, @g_164_47, @g_164_50, @g_164_53, @g_164_54, @g_164_57, @g_164_58, @g_164_59, @g_164_60, @g_164_61, @e_164, nlO_n, nlO_i, nlO_r, ret01_0, ret01_1, ret01_if, ret01_fi, true_and, Option.toList_some, Option.toList_none, List.cons_append, List.nil_append, ii_1, ii_0, ii_R, ij_1, ij_0, ij_R, ite_not, if_true, if_false, Int.one_ne_zero, one_e1, not_true_eq_false, not_false_eq_true, and_true, and_false, false_and, or_false, false_or, or_true, true_or, and_self, or_self, inr_n1000100, inr_n1000010, inr_n1000003, inr_n1000002, inr_n1000001, inr_n1000000, inr_n1, inr_0, inr_1, inr_2, inr_3, inr_4, inr_5, inr_6, inr_7, inr_8, inr_10, inr_11, inr_12, inr_13, inr_14, inr_15, inr_16, inr_20, inr_21, inr_22, inr_23, inr_24, inr_29, inr_30, inr_31, inr_32, inr_39, inr_40, inr_44, inr_48, inr_53, inr_54, inr_57, inr_59, inr_63, inr_97, inr_100, inr_101, inr_102, inr_104, inr_105, inr_106, inr_110, inr_112, inr_116, inr_120, inr_122, inr_144, inr_255, inr_256, inr_320, inr_552, inr_576, inr_999, inr_1000, inr_1023, inr_1024, inr_2048, inr_1000000, inr_252645135, inr_858993459, inr_1431655765, okO_92, okF_92_0, rfN_92_0, okF_92_2, rfN_92_2, okF_92_3, rfN_92_3, okF_92_4, rfN_92_4, okF_92_6, rfN_92_6, okF_92_7, rfN_92_7, okF_92_8, rfN_92_8, okF_92_9, rfN_92_9, okF_92_10, rfN_92_10, okF_92_11, rfN_92_11, okF_92_20, rfN_92_20, okF_92_21, rfN_92_21, okF_92_22, rfN_92_22, okF_92_23, rfN_92_23, okF_92_25, rfN_92_25, okF_92_26, rfN_92_26, okF_92_27, rfN_92_27, okA_98, lnN_98, o_R, o_le, o_lt, o_nlt, o_nle, o_eq, o_ne]
    exact hq
  | succ m ih =>
    intro i I h0 hi hm hq
    rw [@g_164_24]
    simp (disch := omega) only [@g_164_0, @g_164_1, @g_164_2, @g_164_3, @g_164_6, @g_164_9, @g_164_11, @g_164_12, @g_164_13, @g_164_16, @g_164_19, @g_164_21, @g_164_22, @g_164_23, @g_164_25, @g_164_27, @g_164_30, @g_164_31, @g_164_34, @g_164_36, @g_164_37, @g_164_38, @g_164_39, @g_164_40, @g_164_41, @g_164_44, @g_164_45, @h_164_45, @g_164_46, @g_164_47, @g_164_50, @g_164_53, @g_164_54, @g_164_57, @g_164_58, @g_164_59, @g_164_60, @g_164_61, @e_164, nlO_n, nlO_i, nlO_r, ret01_0, ret01_1, ret01_if, ret01_fi, true_and, Option.toList_some, Option.toList_none, List.cons_append, List.nil_append, ii_1, ii_0, ii_R, ij_1, ij_0, ij_R, ite_not, if_true, if_false, Int.one_ne_zero, one_e1, not_true_eq_false, not_false_eq_true, and_true, and_false, false_and, or_false, false_or, or_true, true_or, and_self, or_self, inr_n1000100, inr_n1000010, inr_n1000003, inr_n1000002, inr_n1000001, inr_n1000000, inr_n1, inr_0, inr_1, inr_2, inr_3, inr_4, inr_5, inr_6, inr_7, inr_8, inr_10, inr_11, inr_12, inr_13, inr_14, inr_15, inr_16, inr_20, inr_21, inr_22, inr_23, inr_24, inr_29, inr_30, inr_31, inr_32, inr_39, inr_40, inr_44, inr_48, inr_53, inr_54, inr_57, inr_59, inr_63, inr_97, inr_100, inr_101, inr_102, inr_104, inr_105, inr_106, inr_110, inr_112, inr_116, inr_120, inr_122, inr_144, inr_255, inr_256, inr_320, inr_552, inr_576, inr_999, inr_1000, inr_1023, inr_1024, inr_2048, inr_1000000, inr_252645135, inr_858993459, inr_1431655765, okO_92, okF_92_0, rfN_92_0, okF_92_2, rfN_92_2, okF_92_3, rfN_92_3, okF_92_4, rfN_92_4, okF_92_6, rfN_92_6, okF_92_7, rfN_92_7, okF_92_8, rfN_92_8, okF_92_9, rfN_92_9, okF_92_10, rfN_92_10, okF_92_11, rfN_92_11, okF_92_20, rfN_92_20, okF_92_21, rfN_92_21, okF_92_22, rfN_92_22, okF_92_23, rfN_92_23, okF_92_25, rfN_92_25, okF_92_26, rfN_92_26, okF_92_27, rfN_92_27, okA_94, lnN_94, okA_97, lnN_97, o_R, o_le, o_lt, o_nlt, o_nle, o_eq, o_ne]
    refine ih (i + 1) _ (by omega) (by omega) (by omega) ?_
    rw [show 53 * k + (i + 1) = 53 * k + i + 1 by omega, cpI_up (e2 := 53 - i) (by omega) (by omega) (by omega)]
    exact hq
theorem lp_165 {k : Int} (hk0 : 0 ≤ k) (hk1 : k ≤ 1) : ∀ (m : Nat) (i : Int) (I : MI), 0 ≤ i → i ≤ 53 → (53 - i).toNat = m → Q (some (.inl 1)) (up (cpI I 94 i (53 - i) 97 (53 * k + i)) 92 5 0) J → GO x d 165 Q 26 [some (.inr (.inr (.inl 92))), some (.inl k), some (.inl i)] [] I J := by
  intro m
  induction m with
  | zero =>
    intro i I h0 hi hm hq
    have e : i = 53 := by omega
    subst e
    rw [show (53 : Int) - 53 = 0 by omega, cpI_0] at hq
    rw [@g_165_26]
    simp (disch := omega) only [@g_165_0, @g_165_1, @g_165_2, @g_165_3, @g_165_6, @g_165_9, @g_165_11, @g_165_12, @g_165_13, @g_165_16, @g_165_17, @g_165_18, @g_165_21, @g_165_23, @g_165_24, @g_165_25, @g_165_27, @g_165_29, @g_165_32, @g_165_33, @g_165_36, @g_165_37, @g_165_38, @g_165_41, @g_165_43, @g_165_44, @g_165_45, @g_165_46, @g_165_47, @h_165_47, @g_165_48, @g_165_49, @g_165_52, @g_165_55, @g_165_56, @g_165_57, @g_165_60, @g_165_61, @e_165, nlO_n, nlO_i, nlO_r, ret01_0, ret01_1, ret01_if, ret01_fi, true_and, Option.toList_some, Option.toList_none, List.cons_append, List.nil_append, ii_1, ii_0, ii_R, ij_1, ij_0, ij_R, ite_not, if_true, if_false, Int.one_ne_zero, one_e1, not_true_eq_false, not_false_eq_true, and_true, and_false, false_and, or_false, false_or, or_true, true_or, and_self, or_self, inr_n1000100, inr_n1000010, inr_n1000003, inr_n1000002, inr_n1000001, inr_n1000000, inr_n1, inr_0, inr_1, inr_2, inr_3, inr_4, inr_5, inr_6, inr_7, inr_8, inr_10, inr_11, inr_12, inr_13, inr_14, inr_15, inr_16, inr_20, inr_21, inr_22, inr_23, inr_24, inr_29, inr_30, inr_31, inr_32, inr_39, inr_40, inr_44, inr_48, inr_53, inr_54, inr_57, inr_59, inr_63, inr_97, inr_100, inr_101, inr_102, inr_104, inr_105, inr_106, inr_110, inr_112, inr_116, inr_120, inr_122, inr_144, inr_255, inr_256, inr_320, inr_552, inr_576, inr_999, inr_1000, inr_1023, inr_1024, inr_2048, inr_1000000, inr_252645135, inr_858993459, inr_1431655765, okO_92, okF_92_0, rfN_92_0, okF_92_2, rfN_92_2, okF_92_3, rfN_92_3, okF_92_4, rfN_92_4, okF_92_6, rfN_92_6, okF_92_7, rfN_92_7, okF_92_8, rfN_92_8, okF_92_9, rfN_92_9, okF_92_10, rfN_92_10, okF_92_11, rfN_92_11, okF_92_20, rfN_92_20, okF_92_21, rfN_92_21, okF_92_22, rfN_92_22, okF_92_23, rfN_92_23, okF_92_25, rfN_92_25, okF_92_26, rfN_92_26, okF_92_27, rfN_92_27, o_R, o_le, o_lt, o_nlt, o_nle, o_eq, o_ne]
    exact hq
  | succ m ih =>
    intro i I h0 hi hm hq
    rw [@g_165_26]
    simp (disch := omega) only [@g_165_0, @g_165_1, @g_165_2, @g_165_3, @g_165_6, @g_165_9, @g_165_11, @g_165_12, @g_165_13, @g_165_16, @g_165_17, @g_165_18, @g_165_21, @g_165_23, @g_165_24, @g_165_25, @g_165_27, @g_165_29, @g_165_32, @g_165_33, @g_165_36, @g_165_37, @g_165_38, @g_165_41, @g_165_43, @g_165_44, @g_165_45, @g_165_46, @g_165_47, @h_165_47, @g_165_48, @g_165_49, @g_165_52, @g_165_55, @g_165_56, @g_165_57, @g_165_60, @g_165_61, @e_165, nlO_n, nlO_i, nlO_r, ret01_0, ret01_1, ret01_if, ret01_fi, true_and, Option.toList_some, Option.toList_none, List.cons_append, List.nil_append, ii_1, ii_0, ii_R, ij_1, ij_0, ij_R, ite_not, if_true, if_false, Int.one_ne_zero, one_e1, not_true_eq_false, not_false_eq_true, and_true, and_false, false_and, or_false, false_or, or_true, true_or, and_self, or_self, inr_n1000100, inr_n1000010, inr_n1000003, inr_n1000002, inr_n1000001, inr_n1000000, inr_n1, inr_0, inr_1, inr_2, inr_3, inr_4, inr_5, inr_6, inr_7, inr_8, inr_10, inr_11, inr_12, inr_13, inr_14, inr_15, inr_16, inr_20, inr_21, inr_22, inr_23, inr_24, inr_29, inr_30, inr_31, inr_32, inr_39, inr_40, inr_44, inr_48, inr_53, inr_54, inr_57, inr_59, inr_63, inr_97, inr_100, inr_101, inr_102, inr_104, inr_105, inr_106, inr_110, inr_112, inr_116, inr_120, inr_122, inr_144, inr_255, inr_256, inr_320, inr_552, inr_576, inr_999, inr_1000, inr_1023, inr_1024, inr_2048, inr_1000000, inr_252645135, inr_858993459, inr_1431655765, okO_92, okF_92_0, rfN_92_0, okF_92_2, rfN_92_2, okF_92_3, rfN_92_3, okF_92_4, rfN_92_4, okF_92_6, rfN_92_6, okF_92_7, rfN_92_7, okF_92_8, rfN_92_8, okF_92_9, rfN_92_9, okF_92_10, rfN_92_10, okF_92_11, rfN_92_11, okF_92_20, rfN_92_20, okF_92_21, rfN_92_21, okF_92_22, rfN_92_22, okF_92_23, rfN_92_23, okF_92_25, rfN_92_25, okF_92_26, rfN_92_26, okF_92_27, rfN_92_27, okA_94, lnN_94, okA_97, lnN_97, o_R, o_le, o_lt, o_nlt, o_nle, o_eq, o_ne]
    refine ih (i + 1) _ (by omega) (by omega) (by omega) ?_
    rw [show 53 * k + (i + 1) = 53 * k + i + 1 by omega, cpI_up (e2 := 53 - i) (by omega) (by omega) (by omega)]
    exact hq
theorem im_el0 : elN 18 0 = 76 := rfl
theorem im_el1 : elN 18 1 = 84 := rfl
theorem im_ok0 : (23 ≤ clS S0 18 ∧ clS S0 18 ≤ 25 ∧ (elS S0 18 (0 : Int).toNat).isSome = true) = True := eq_true (by decide)
theorem im_ok1 : (23 ≤ clS S0 18 ∧ clS S0 18 ≤ 25 ∧ (elS S0 18 (1 : Int).toNat).isSome = true) = True := eq_true (by decide)
theorem call_image {k : Int} (h : Inv n I J) (hn : n < 600) (hk : inR k) : Pair x (d + 8) 95 164 [.inl k] n I J := by
  unfold Pair
  obtain ⟨hk0, hk1⟩ := hk
  have H := h.2.2.2.1
  have M := H.1
  have b0 := B_0 M
  have e0 := H_0 H
  obtain ⟨r1, r2, r3, r4, r5, r6, r7, r8, r9⟩ := h
  have h : Inv n I J := ⟨r1, r2, r3, r4, r5, r6, r7, r8, r9⟩
  by_cases c1 : 0 ≤ k ∧ k ≤ 1
  · by_cases c2 : I 94 0 = 1
    · have h01 : ret01 (I 2 0) := Or.inr (by omega)
      have hcs : k = 0 ∨ k = 1 := by omega
      rcases hcs with hc | hc
      · subst hc
        simp (disch := omega) only [@g_95_0, @g_95_1, @g_95_4, @g_95_5, @g_95_6, @g_95_9, @g_95_11, @g_95_12, @g_95_13, @g_95_16, @g_95_19, @g_95_22, @g_95_24, @g_95_25, @g_95_26, @g_95_29, @g_95_30, @g_95_31, @g_95_32, @g_95_35, @g_95_38, @g_95_39, @e_95, nlO_n, nlO_i, nlO_r, ret01_0, ret01_1, ret01_if, ret01_fi, true_and, Option.toList_some, Option.toList_none, List.cons_append, List.nil_append, ii_1, ii_0, ii_R, ij_1, ij_0, ij_R, ite_not, if_true, if_false, Int.one_ne_zero, one_e1, not_true_eq_false, not_false_eq_true, and_true, and_false, false_and, or_false, false_or, or_true, true_or, and_self, or_self, inr_n1000100, inr_n1000010, inr_n1000003, inr_n1000002, inr_n1000001, inr_n1000000, inr_n1, inr_0, inr_1, inr_2, inr_3, inr_4, inr_5, inr_6, inr_7, inr_8, inr_10, inr_11, inr_12, inr_13, inr_14, inr_15, inr_16, inr_20, inr_21, inr_22, inr_23, inr_24, inr_29, inr_30, inr_31, inr_32, inr_39, inr_40, inr_44, inr_48, inr_53, inr_54, inr_57, inr_59, inr_63, inr_97, inr_100, inr_101, inr_102, inr_104, inr_105, inr_106, inr_110, inr_112, inr_116, inr_120, inr_122, inr_144, inr_255, inr_256, inr_320, inr_552, inr_576, inr_999, inr_1000, inr_1023, inr_1024, inr_2048, inr_1000000, inr_252645135, inr_858993459, inr_1431655765, okO_0, okF_0_0, rfN_0_0, okF_0_1, rfN_0_1, okF_0_2, rfN_0_2, okF_0_3, rfN_0_3, okF_0_4, rfN_0_4, okF_0_5, rfN_0_5, okF_0_6, rfN_0_6, okF_0_7, rfN_0_7, okF_0_8, rfN_0_8, okF_0_9, rfN_0_9, okO_2, okF_2_2, rfN_2_2, okF_2_4, rfN_2_4, okF_2_5, rfN_2_5, okF_2_6, rfN_2_6, okF_2_7, rfN_2_7, okF_2_9, rfN_2_9, okF_2_10, rfN_2_10, lnN_18, okO_76, okF_76_2, rfN_76_2, okF_76_4, rfN_76_4, okF_76_5, rfN_76_5, okF_76_6, rfN_76_6, okF_76_7, rfN_76_7, okF_76_9, rfN_76_9, okF_76_10, rfN_76_10, o_R, o_le, o_lt, o_nlt, o_nle, o_eq, o_ne, im_el0, im_ok0]
        refine sp_15_76_2 h01 (fun I1 hb => ?_)
        simp (disch := omega) only [@g_95_0, @g_95_1, @g_95_4, @g_95_5, @g_95_6, @g_95_9, @g_95_11, @g_95_12, @g_95_13, @g_95_16, @g_95_19, @g_95_22, @g_95_24, @g_95_25, @g_95_26, @g_95_29, @g_95_30, @g_95_31, @g_95_32, @g_95_35, @g_95_38, @g_95_39, @e_95, nlO_n, nlO_i, nlO_r, ret01_0, ret01_1, ret01_if, ret01_fi, true_and, Option.toList_some, Option.toList_none, List.cons_append, List.nil_append, ii_1, ii_0, ii_R, ij_1, ij_0, ij_R, ite_not, if_true, if_false, Int.one_ne_zero, one_e1, not_true_eq_false, not_false_eq_true, and_true, and_false, false_and, or_false, false_or, or_true, true_or, and_self, or_self, inr_n1000100, inr_n1000010, inr_n1000003, inr_n1000002, inr_n1000001, inr_n1000000, inr_n1, inr_0, inr_1, inr_2, inr_3, inr_4, inr_5, inr_6, inr_7, inr_8, inr_10, inr_11, inr_12, inr_13, inr_14, inr_15, inr_16, inr_20, inr_21, inr_22, inr_23, inr_24, inr_29, inr_30, inr_31, inr_32, inr_39, inr_40, inr_44, inr_48, inr_53, inr_54, inr_57, inr_59, inr_63, inr_97, inr_100, inr_101, inr_102, inr_104, inr_105, inr_106, inr_110, inr_112, inr_116, inr_120, inr_122, inr_144, inr_255, inr_256, inr_320, inr_552, inr_576, inr_999, inr_1000, inr_1023, inr_1024, inr_2048, inr_1000000, inr_252645135, inr_858993459, inr_1431655765, okO_0, okF_0_0, rfN_0_0, okF_0_1, rfN_0_1, okF_0_2, rfN_0_2, okF_0_3, rfN_0_3, okF_0_4, rfN_0_4, okF_0_5, rfN_0_5, okF_0_6, rfN_0_6, okF_0_7, rfN_0_7, okF_0_8, rfN_0_8, okF_0_9, rfN_0_9, okO_2, okF_2_2, rfN_2_2, okF_2_4, rfN_2_4, okF_2_5, rfN_2_5, okF_2_6, rfN_2_6, okF_2_7, rfN_2_7, okF_2_9, rfN_2_9, okF_2_10, rfN_2_10, lnN_18, okO_76, okF_76_2, rfN_76_2, okF_76_4, rfN_76_4, okF_76_5, rfN_76_5, okF_76_6, rfN_76_6, okF_76_7, rfN_76_7, okF_76_9, rfN_76_9, okF_76_10, rfN_76_10, o_R, o_le, o_lt, o_nlt, o_nle, o_eq, o_ne]
        refine PQ_of (by omega) (by omega) ?_
        have q1 := hb.1
        have M1 : MOK (1000 + 2 * n) (I1 94) := by rw [q1 94 (by omega)]; exact M
        simp (disch := omega) only [@g_164_0, @g_164_1, @g_164_2, @g_164_3, @g_164_6, @g_164_9, @g_164_11, @g_164_12, @g_164_13, @g_164_16, @g_164_19, @g_164_21, @g_164_22, @g_164_23, @g_164_25, @g_164_27, @g_164_30, @g_164_31, @g_164_34, @g_164_36, @g_164_37, @g_164_38, @g_164_39, @g_164_40, @g_164_41, @g_164_44, @g_164_45, @h_164_45, @g_164_46, @g_164_47, @g_164_50, @g_164_53, @g_164_54, @g_164_57, @g_164_58, @g_164_59, @g_164_60, @g_164_61, @e_164, nlO_n, nlO_i, nlO_r, ret01_0, ret01_1, ret01_if, ret01_fi, true_and, Option.toList_some, Option.toList_none, List.cons_append, List.nil_append, ii_1, ii_0, ii_R, ij_1, ij_0, ij_R, ite_not, if_true, if_false, Int.one_ne_zero, one_e1, not_true_eq_false, not_false_eq_true, and_true, and_false, false_and, or_false, false_or, or_true, true_or, and_self, or_self, inr_n1000100, inr_n1000010, inr_n1000003, inr_n1000002, inr_n1000001, inr_n1000000, inr_n1, inr_0, inr_1, inr_2, inr_3, inr_4, inr_5, inr_6, inr_7, inr_8, inr_10, inr_11, inr_12, inr_13, inr_14, inr_15, inr_16, inr_20, inr_21, inr_22, inr_23, inr_24, inr_29, inr_30, inr_31, inr_32, inr_39, inr_40, inr_44, inr_48, inr_53, inr_54, inr_57, inr_59, inr_63, inr_97, inr_100, inr_101, inr_102, inr_104, inr_105, inr_106, inr_110, inr_112, inr_116, inr_120, inr_122, inr_144, inr_255, inr_256, inr_320, inr_552, inr_576, inr_999, inr_1000, inr_1023, inr_1024, inr_2048, inr_1000000, inr_252645135, inr_858993459, inr_1431655765, okO_92, okF_92_0, rfN_92_0, okF_92_2, rfN_92_2, okF_92_3, rfN_92_3, okF_92_4, rfN_92_4, okF_92_6, rfN_92_6, okF_92_7, rfN_92_7, okF_92_8, rfN_92_8, okF_92_9, rfN_92_9, okF_92_10, rfN_92_10, okF_92_11, rfN_92_11, okF_92_20, rfN_92_20, okF_92_21, rfN_92_21, okF_92_22, rfN_92_22, okF_92_23, rfN_92_23, okF_92_25, rfN_92_25, okF_92_26, rfN_92_26, okF_92_27, rfN_92_27, sp_109, sp_110 M1, o_R, o_le, o_lt, o_nlt, o_nle, o_eq, o_ne, q1]
        refine lp_164 (by omega) (by omega) _ 0 _ (by omega) (by omega) rfl ?_
        refine MQ_of rfl ?_
        have hs : ∀ i : Int, 0 ≤ i → i < 53 → up (cpI I1 97 (53 * 0 + 0) (53 - 0) 94 0) 98 0 1 97 i = I 94 i := fun i a b => by
          simp (disch := omega) only [up_ne, up_same, up_nj, flI_ne, flI_in, flI_out, cpI_ne, cpI_in, cpI_out, q1]
          congr 1
          omega
        refine Inv_H h (fun c hc => ?_) ?_ ?_ ?_ ?_ ?_ ?_ ?_ ?_ ?_ ⟨⟨?_, Or.inr ⟨?_, ?_, ?_⟩⟩, ?_, ?_⟩ ?_ ?_
        · simp (disch := omega) only [up_ne, up_same, up_nj, flI_ne, flI_in, flI_out, cpI_ne, cpI_in, cpI_out, q1]
        · simp (disch := omega) only [up_ne, up_same, up_nj, flI_ne, flI_in, flI_out, cpI_ne, cpI_in, cpI_out, q1]
        · simp (disch := omega) only [up_ne, up_same, up_nj, flI_ne, flI_in, flI_out, cpI_ne, cpI_in, cpI_out, q1]
        · simp (disch := omega) only [up_ne, up_same, up_nj, flI_ne, flI_in, flI_out, cpI_ne, cpI_in, cpI_out, q1]
        · simp (disch := omega) only [up_ne, up_same, up_nj, flI_ne, flI_in, flI_out, cpI_ne, cpI_in, cpI_out, q1]
        · simp (disch := omega) only [up_ne, up_same, up_nj, flI_ne, flI_in, flI_out, cpI_ne, cpI_in, cpI_out, q1]
        · simp (disch := omega) only [up_ne, up_same, up_nj, flI_ne, flI_in, flI_out, cpI_ne, cpI_in, cpI_out, q1]
        · simp (disch := omega) only [up_ne, up_same, up_nj, flI_ne, flI_in, flI_out, cpI_ne, cpI_in, cpI_out, q1]
        · simp (disch := omega) only [up_ne, up_same, up_nj, flI_ne, flI_in, flI_out, cpI_ne, cpI_in, cpI_out, q1]
        · refine ROK_cong (by omega) (by omega) (fun c a b => ?_) ?_ H
          · simp (disch := omega) only [up_ne, up_same, up_nj, flI_ne, flI_in, flI_out, cpI_ne, cpI_in, cpI_out, q1]
          · simp (disch := omega) only [up_ne, up_same, up_nj, flI_ne, flI_in, flI_out, cpI_ne, cpI_in, cpI_out, q1]
        · simp (disch := omega) only [up_ne, up_same, up_nj, flI_ne, flI_in, flI_out, cpI_ne, cpI_in, cpI_out, hb.2.1.1]
          omega
        · simp (disch := omega) only [up_ne, up_same, up_nj, flI_ne, flI_in, flI_out, cpI_ne, cpI_in, cpI_out]
        · have z := hs 0 (by omega) (by omega)
          exact z.trans c2
        · refine ROK_ext (g := I 94) hs ⟨MOK_up (by omega) (by omega) M, ?_⟩
          refine RHd_cong (fun c a b => ?_) rfl (RHd_bec M H.2 hb)
          simp (disch := omega) only [up_ne, up_same, up_nj, flI_ne, flI_in, flI_out, cpI_ne, cpI_in, cpI_out]
        · simp (disch := omega) only [up_ne, up_same, up_nj, flI_ne, flI_in, flI_out, cpI_ne, cpI_in, cpI_out, q1]
          exact r5.2.1
        · simp (disch := omega) only [up_ne, up_same, up_nj, flI_ne, flI_in, flI_out, cpI_ne, cpI_in, cpI_out, q1]
          rcases r5.2.2 with z | ⟨z1, z2, z3⟩
          · exact Or.inl z
          · refine Or.inr ⟨z1, z2, ?_⟩
            refine ROK_ext (g := fun i => I 97 (53 + i)) (fun i a b => ?_) (ROK_cong (by omega) (by omega) (fun c a b => ?_) rfl z3)
            · simp (disch := omega) only [up_ne, up_same, up_nj, flI_ne, flI_in, flI_out, cpI_ne, cpI_in, cpI_out, q1]
            · simp (disch := omega) only [up_ne, up_same, up_nj, flI_ne, flI_in, flI_out, cpI_ne, cpI_in, cpI_out, q1]
        · refine RAs_cong (by omega) (fun c a b => ?_) ?_ ?_ ?_ r6
          all_goals simp (disch := omega) only [up_ne, up_same, up_nj, flI_ne, flI_in, flI_out, cpI_ne, cpI_in, cpI_out, q1]
        · intro c hc w a b
          have z := r8 c hc w a b
          have z6 := r8 6 (by omega) w a b
          rcases hc with rfl | rfl | rfl | rfl
          · simp (disch := omega) only [up_ne, up_same, up_nj, flI_ne, flI_in, flI_out, cpI_ne, cpI_in, cpI_out, q1]
            omega
          · simp (disch := omega) only [up_ne, up_same, up_nj, flI_ne, flI_in, flI_out, cpI_ne, cpI_in, cpI_out, q1]
            omega
          · simp (disch := omega) only [up_ne, up_same, up_nj, flI_ne, flI_in, flI_out, cpI_ne, cpI_in, cpI_out]
            have z7 : I1 80 w = I 6 w := (hb.2.2.2.1 w a b).2.2.1
            rw [z7]
            omega
          · simp (disch := omega) only [up_ne, up_same, up_nj, flI_ne, flI_in, flI_out, cpI_ne, cpI_in, cpI_out, q1]
            omega
      · subst hc
        simp (disch := omega) only [@g_95_0, @g_95_1, @g_95_4, @g_95_5, @g_95_6, @g_95_9, @g_95_11, @g_95_12, @g_95_13, @g_95_16, @g_95_19, @g_95_22, @g_95_24, @g_95_25, @g_95_26, @g_95_29, @g_95_30, @g_95_31, @g_95_32, @g_95_35, @g_95_38, @g_95_39, @e_95, nlO_n, nlO_i, nlO_r, ret01_0, ret01_1, ret01_if, ret01_fi, true_and, Option.toList_some, Option.toList_none, List.cons_append, List.nil_append, ii_1, ii_0, ii_R, ij_1, ij_0, ij_R, ite_not, if_true, if_false, Int.one_ne_zero, one_e1, not_true_eq_false, not_false_eq_true, and_true, and_false, false_and, or_false, false_or, or_true, true_or, and_self, or_self, inr_n1000100, inr_n1000010, inr_n1000003, inr_n1000002, inr_n1000001, inr_n1000000, inr_n1, inr_0, inr_1, inr_2, inr_3, inr_4, inr_5, inr_6, inr_7, inr_8, inr_10, inr_11, inr_12, inr_13, inr_14, inr_15, inr_16, inr_20, inr_21, inr_22, inr_23, inr_24, inr_29, inr_30, inr_31, inr_32, inr_39, inr_40, inr_44, inr_48, inr_53, inr_54, inr_57, inr_59, inr_63, inr_97, inr_100, inr_101, inr_102, inr_104, inr_105, inr_106, inr_110, inr_112, inr_116, inr_120, inr_122, inr_144, inr_255, inr_256, inr_320, inr_552, inr_576, inr_999, inr_1000, inr_1023, inr_1024, inr_2048, inr_1000000, inr_252645135, inr_858993459, inr_1431655765, okO_0, okF_0_0, rfN_0_0, okF_0_1, rfN_0_1, okF_0_2, rfN_0_2, okF_0_3, rfN_0_3, okF_0_4, rfN_0_4, okF_0_5, rfN_0_5, okF_0_6, rfN_0_6, okF_0_7, rfN_0_7, okF_0_8, rfN_0_8, okF_0_9, rfN_0_9, okO_2, okF_2_2, rfN_2_2, okF_2_4, rfN_2_4, okF_2_5, rfN_2_5, okF_2_6, rfN_2_6, okF_2_7, rfN_2_7, okF_2_9, rfN_2_9, okF_2_10, rfN_2_10, lnN_18, okO_84, okF_84_2, rfN_84_2, okF_84_4, rfN_84_4, okF_84_5, rfN_84_5, okF_84_6, rfN_84_6, okF_84_7, rfN_84_7, okF_84_9, rfN_84_9, okF_84_10, rfN_84_10, o_R, o_le, o_lt, o_nlt, o_nle, o_eq, o_ne, im_el1, im_ok1]
        refine sp_15_84_2 h01 (fun I1 hb => ?_)
        simp (disch := omega) only [@g_95_0, @g_95_1, @g_95_4, @g_95_5, @g_95_6, @g_95_9, @g_95_11, @g_95_12, @g_95_13, @g_95_16, @g_95_19, @g_95_22, @g_95_24, @g_95_25, @g_95_26, @g_95_29, @g_95_30, @g_95_31, @g_95_32, @g_95_35, @g_95_38, @g_95_39, @e_95, nlO_n, nlO_i, nlO_r, ret01_0, ret01_1, ret01_if, ret01_fi, true_and, Option.toList_some, Option.toList_none, List.cons_append, List.nil_append, ii_1, ii_0, ii_R, ij_1, ij_0, ij_R, ite_not, if_true, if_false, Int.one_ne_zero, one_e1, not_true_eq_false, not_false_eq_true, and_true, and_false, false_and, or_false, false_or, or_true, true_or, and_self, or_self, inr_n1000100, inr_n1000010, inr_n1000003, inr_n1000002, inr_n1000001, inr_n1000000, inr_n1, inr_0, inr_1, inr_2, inr_3, inr_4, inr_5, inr_6, inr_7, inr_8, inr_10, inr_11, inr_12, inr_13, inr_14, inr_15, inr_16, inr_20, inr_21, inr_22, inr_23, inr_24, inr_29, inr_30, inr_31, inr_32, inr_39, inr_40, inr_44, inr_48, inr_53, inr_54, inr_57, inr_59, inr_63, inr_97, inr_100, inr_101, inr_102, inr_104, inr_105, inr_106, inr_110, inr_112, inr_116, inr_120, inr_122, inr_144, inr_255, inr_256, inr_320, inr_552, inr_576, inr_999, inr_1000, inr_1023, inr_1024, inr_2048, inr_1000000, inr_252645135, inr_858993459, inr_1431655765, okO_0, okF_0_0, rfN_0_0, okF_0_1, rfN_0_1, okF_0_2, rfN_0_2, okF_0_3, rfN_0_3, okF_0_4, rfN_0_4, okF_0_5, rfN_0_5, okF_0_6, rfN_0_6, okF_0_7, rfN_0_7, okF_0_8, rfN_0_8, okF_0_9, rfN_0_9, okO_2, okF_2_2, rfN_2_2, okF_2_4, rfN_2_4, okF_2_5, rfN_2_5, okF_2_6, rfN_2_6, okF_2_7, rfN_2_7, okF_2_9, rfN_2_9, okF_2_10, rfN_2_10, lnN_18, okO_84, okF_84_2, rfN_84_2, okF_84_4, rfN_84_4, okF_84_5, rfN_84_5, okF_84_6, rfN_84_6, okF_84_7, rfN_84_7, okF_84_9, rfN_84_9, okF_84_10, rfN_84_10, o_R, o_le, o_lt, o_nlt, o_nle, o_eq, o_ne]
        refine PQ_of (by omega) (by omega) ?_
        have q1 := hb.1
        have M1 : MOK (1000 + 2 * n) (I1 94) := by rw [q1 94 (by omega)]; exact M
        simp (disch := omega) only [@g_164_0, @g_164_1, @g_164_2, @g_164_3, @g_164_6, @g_164_9, @g_164_11, @g_164_12, @g_164_13, @g_164_16, @g_164_19, @g_164_21, @g_164_22, @g_164_23, @g_164_25, @g_164_27, @g_164_30, @g_164_31, @g_164_34, @g_164_36, @g_164_37, @g_164_38, @g_164_39, @g_164_40, @g_164_41, @g_164_44, @g_164_45, @h_164_45, @g_164_46, @g_164_47, @g_164_50, @g_164_53, @g_164_54, @g_164_57, @g_164_58, @g_164_59, @g_164_60, @g_164_61, @e_164, nlO_n, nlO_i, nlO_r, ret01_0, ret01_1, ret01_if, ret01_fi, true_and, Option.toList_some, Option.toList_none, List.cons_append, List.nil_append, ii_1, ii_0, ii_R, ij_1, ij_0, ij_R, ite_not, if_true, if_false, Int.one_ne_zero, one_e1, not_true_eq_false, not_false_eq_true, and_true, and_false, false_and, or_false, false_or, or_true, true_or, and_self, or_self, inr_n1000100, inr_n1000010, inr_n1000003, inr_n1000002, inr_n1000001, inr_n1000000, inr_n1, inr_0, inr_1, inr_2, inr_3, inr_4, inr_5, inr_6, inr_7, inr_8, inr_10, inr_11, inr_12, inr_13, inr_14, inr_15, inr_16, inr_20, inr_21, inr_22, inr_23, inr_24, inr_29, inr_30, inr_31, inr_32, inr_39, inr_40, inr_44, inr_48, inr_53, inr_54, inr_57, inr_59, inr_63, inr_97, inr_100, inr_101, inr_102, inr_104, inr_105, inr_106, inr_110, inr_112, inr_116, inr_120, inr_122, inr_144, inr_255, inr_256, inr_320, inr_552, inr_576, inr_999, inr_1000, inr_1023, inr_1024, inr_2048, inr_1000000, inr_252645135, inr_858993459, inr_1431655765, okO_92, okF_92_0, rfN_92_0, okF_92_2, rfN_92_2, okF_92_3, rfN_92_3, okF_92_4, rfN_92_4, okF_92_6, rfN_92_6, okF_92_7, rfN_92_7, okF_92_8, rfN_92_8, okF_92_9, rfN_92_9, okF_92_10, rfN_92_10, okF_92_11, rfN_92_11, okF_92_20, rfN_92_20, okF_92_21, rfN_92_21, okF_92_22, rfN_92_22, okF_92_23, rfN_92_23, okF_92_25, rfN_92_25, okF_92_26, rfN_92_26, okF_92_27, rfN_92_27, sp_109, sp_110 M1, o_R, o_le, o_lt, o_nlt, o_nle, o_eq, o_ne, q1]
        refine lp_164 (by omega) (by omega) _ 0 _ (by omega) (by omega) rfl ?_
        refine MQ_of rfl ?_
        have hs : ∀ i : Int, 0 ≤ i → i < 53 → up (cpI I1 97 (53 * 1 + 0) (53 - 0) 94 0) 98 1 1 97 (53 + i) = I 94 i := fun i a b => by
          simp (disch := omega) only [up_ne, up_same, up_nj, flI_ne, flI_in, flI_out, cpI_ne, cpI_in, cpI_out, q1]
          congr 1
          omega
        refine Inv_H h (fun c hc => ?_) ?_ ?_ ?_ ?_ ?_ ?_ ?_ ?_ ?_ ⟨⟨?_, ?_⟩, ?_, Or.inr ⟨?_, ?_, ?_⟩⟩ ?_ ?_
        · simp (disch := omega) only [up_ne, up_same, up_nj, flI_ne, flI_in, flI_out, cpI_ne, cpI_in, cpI_out, q1]
        · simp (disch := omega) only [up_ne, up_same, up_nj, flI_ne, flI_in, flI_out, cpI_ne, cpI_in, cpI_out, q1]
        · simp (disch := omega) only [up_ne, up_same, up_nj, flI_ne, flI_in, flI_out, cpI_ne, cpI_in, cpI_out, q1]
        · simp (disch := omega) only [up_ne, up_same, up_nj, flI_ne, flI_in, flI_out, cpI_ne, cpI_in, cpI_out, q1]
        · simp (disch := omega) only [up_ne, up_same, up_nj, flI_ne, flI_in, flI_out, cpI_ne, cpI_in, cpI_out, q1]
        · simp (disch := omega) only [up_ne, up_same, up_nj, flI_ne, flI_in, flI_out, cpI_ne, cpI_in, cpI_out, q1]
        · simp (disch := omega) only [up_ne, up_same, up_nj, flI_ne, flI_in, flI_out, cpI_ne, cpI_in, cpI_out, q1]
        · simp (disch := omega) only [up_ne, up_same, up_nj, flI_ne, flI_in, flI_out, cpI_ne, cpI_in, cpI_out, q1]
        · simp (disch := omega) only [up_ne, up_same, up_nj, flI_ne, flI_in, flI_out, cpI_ne, cpI_in, cpI_out, q1]
        · refine ROK_cong (by omega) (by omega) (fun c a b => ?_) ?_ H
          · simp (disch := omega) only [up_ne, up_same, up_nj, flI_ne, flI_in, flI_out, cpI_ne, cpI_in, cpI_out, q1]
          · simp (disch := omega) only [up_ne, up_same, up_nj, flI_ne, flI_in, flI_out, cpI_ne, cpI_in, cpI_out, q1]
        · simp (disch := omega) only [up_ne, up_same, up_nj, flI_ne, flI_in, flI_out, cpI_ne, cpI_in, cpI_out, q1]
          exact r5.1.1
        · simp (disch := omega) only [up_ne, up_same, up_nj, flI_ne, flI_in, flI_out, cpI_ne, cpI_in, cpI_out, q1]
          rcases r5.1.2 with z | ⟨z1, z2, z3⟩
          · exact Or.inl z
          · refine Or.inr ⟨z1, z2, ?_⟩
            refine ROK_ext (g := fun i => I 97 i) (fun i a b => ?_) (ROK_cong (by omega) (by omega) (fun c a b => ?_) rfl z3)
            · simp (disch := omega) only [up_ne, up_same, up_nj, flI_ne, flI_in, flI_out, cpI_ne, cpI_in, cpI_out, q1]
            · simp (disch := omega) only [up_ne, up_same, up_nj, flI_ne, flI_in, flI_out, cpI_ne, cpI_in, cpI_out, q1]
        · simp (disch := omega) only [up_ne, up_same, up_nj, flI_ne, flI_in, flI_out, cpI_ne, cpI_in, cpI_out, hb.2.1.1]
          omega
        · simp (disch := omega) only [up_ne, up_same, up_nj, flI_ne, flI_in, flI_out, cpI_ne, cpI_in, cpI_out]
        · have z := hs 0 (by omega) (by omega)
          exact z.trans c2
        · refine ROK_ext (g := I 94) hs ⟨MOK_up (by omega) (by omega) M, ?_⟩
          refine RHd_cong (fun c a b => ?_) rfl (RHd_bec M H.2 hb)
          simp (disch := omega) only [up_ne, up_same, up_nj, flI_ne, flI_in, flI_out, cpI_ne, cpI_in, cpI_out]
        · refine RAs_cong (by omega) (fun c a b => ?_) ?_ ?_ ?_ r6
          all_goals simp (disch := omega) only [up_ne, up_same, up_nj, flI_ne, flI_in, flI_out, cpI_ne, cpI_in, cpI_out, q1]
        · intro c hc w a b
          have z := r8 c hc w a b
          have z6 := r8 6 (by omega) w a b
          rcases hc with rfl | rfl | rfl | rfl
          · simp (disch := omega) only [up_ne, up_same, up_nj, flI_ne, flI_in, flI_out, cpI_ne, cpI_in, cpI_out, q1]
            omega
          · simp (disch := omega) only [up_ne, up_same, up_nj, flI_ne, flI_in, flI_out, cpI_ne, cpI_in, cpI_out, q1]
            omega
          · simp (disch := omega) only [up_ne, up_same, up_nj, flI_ne, flI_in, flI_out, cpI_ne, cpI_in, cpI_out, q1]
            omega
          · simp (disch := omega) only [up_ne, up_same, up_nj, flI_ne, flI_in, flI_out, cpI_ne, cpI_in, cpI_out]
            have z7 : I1 88 w = I 6 w := (hb.2.2.2.1 w a b).2.2.1
            rw [z7]
            omega
    · have e1 : EX x (d + 8) 95 [.inr (.inr (.inl 0)), .inl k] I J (PQz x (d + 8) 164 [.inl k] n) = PQz x (d + 8) 164 [.inl k] n (some (.inl (-1000002))) I J := by
        simp (disch := omega) only [@g_95_0, @g_95_1, @g_95_4, @g_95_5, @g_95_6, @g_95_9, @g_95_11, @g_95_12, @g_95_13, @g_95_16, @g_95_19, @g_95_22, @g_95_24, @g_95_25, @g_95_26, @g_95_29, @g_95_30, @g_95_31, @g_95_32, @g_95_35, @g_95_38, @g_95_39, @e_95, nlO_n, nlO_i, nlO_r, ret01_0, ret01_1, ret01_if, ret01_fi, true_and, Option.toList_some, Option.toList_none, List.cons_append, List.nil_append, ii_1, ii_0, ii_R, ij_1, ij_0, ij_R, ite_not, if_true, if_false, Int.one_ne_zero, one_e1, not_true_eq_false, not_false_eq_true, and_true, and_false, false_and, or_false, false_or, or_true, true_or, and_self, or_self, inr_n1000100, inr_n1000010, inr_n1000003, inr_n1000002, inr_n1000001, inr_n1000000, inr_n1, inr_0, inr_1, inr_2, inr_3, inr_4, inr_5, inr_6, inr_7, inr_8, inr_10, inr_11, inr_12, inr_13, inr_14, inr_15, inr_16, inr_20, inr_21, inr_22, inr_23, inr_24, inr_29, inr_30, inr_31, inr_32, inr_39, inr_40, inr_44, inr_48, inr_53, inr_54, inr_57, inr_59, inr_63, inr_97, inr_100, inr_101, inr_102, inr_104, inr_105, inr_106, inr_110, inr_112, inr_116, inr_120, inr_122, inr_144, inr_255, inr_256, inr_320, inr_552, inr_576, inr_999, inr_1000, inr_1023, inr_1024, inr_2048, inr_1000000, inr_252645135, inr_858993459, inr_1431655765, okO_0, okF_0_0, rfN_0_0, okF_0_1, rfN_0_1, okF_0_2, rfN_0_2, okF_0_3, rfN_0_3, okF_0_4, rfN_0_4, okF_0_5, rfN_0_5, okF_0_6, rfN_0_6, okF_0_7, rfN_0_7, okF_0_8, rfN_0_8, okF_0_9, rfN_0_9, okO_2, okF_2_2, rfN_2_2, okF_2_4, rfN_2_4, okF_2_5, rfN_2_5, okF_2_6, rfN_2_6, okF_2_7, rfN_2_7, okF_2_9, rfN_2_9, okF_2_10, rfN_2_10, lnN_18, o_R, o_le, o_lt, o_nlt, o_nle, o_eq, o_ne]
      rw [e1]
      refine PQ_of (by omega) (by omega) ?_
      simp (disch := omega) only [@g_164_0, @g_164_1, @g_164_2, @g_164_3, @g_164_6, @g_164_9, @g_164_11, @g_164_12, @g_164_13, @g_164_16, @g_164_19, @g_164_21, @g_164_22, @g_164_23, @g_164_25, @g_164_27, @g_164_30, @g_164_31, @g_164_34, @g_164_36, @g_164_37, @g_164_38, @g_164_39, @g_164_40, @g_164_41, @g_164_44, @g_164_45, @h_164_45, @g_164_46, @g_164_47, @g_164_50, @g_164_53, @g_164_54, @g_164_57, @g_164_58, @g_164_59, @g_164_60, @g_164_61, @e_164, nlO_n, nlO_i, nlO_r, ret01_0, ret01_1, ret01_if, ret01_fi, true_and, Option.toList_some, Option.toList_none, List.cons_append, List.nil_append, ii_1, ii_0, ii_R, ij_1, ij_0, ij_R, ite_not, if_true, if_false, Int.one_ne_zero, one_e1, not_true_eq_false, not_false_eq_true, and_true, and_false, false_and, or_false, false_or, or_true, true_or, and_self, or_self, inr_n1000100, inr_n1000010, inr_n1000003, inr_n1000002, inr_n1000001, inr_n1000000, inr_n1, inr_0, inr_1, inr_2, inr_3, inr_4, inr_5, inr_6, inr_7, inr_8, inr_10, inr_11, inr_12, inr_13, inr_14, inr_15, inr_16, inr_20, inr_21, inr_22, inr_23, inr_24, inr_29, inr_30, inr_31, inr_32, inr_39, inr_40, inr_44, inr_48, inr_53, inr_54, inr_57, inr_59, inr_63, inr_97, inr_100, inr_101, inr_102, inr_104, inr_105, inr_106, inr_110, inr_112, inr_116, inr_120, inr_122, inr_144, inr_255, inr_256, inr_320, inr_552, inr_576, inr_999, inr_1000, inr_1023, inr_1024, inr_2048, inr_1000000, inr_252645135, inr_858993459, inr_1431655765, okO_92, okF_92_0, rfN_92_0, okF_92_2, rfN_92_2, okF_92_3, rfN_92_3, okF_92_4, rfN_92_4, okF_92_6, rfN_92_6, okF_92_7, rfN_92_7, okF_92_8, rfN_92_8, okF_92_9, rfN_92_9, okF_92_10, rfN_92_10, okF_92_11, rfN_92_11, okF_92_20, rfN_92_20, okF_92_21, rfN_92_21, okF_92_22, rfN_92_22, okF_92_23, rfN_92_23, okF_92_25, rfN_92_25, okF_92_26, rfN_92_26, okF_92_27, rfN_92_27, sp_109, sp_110 M, o_R, o_le, o_lt, o_nlt, o_nle, o_eq, o_ne]
      exact MQ_of rfl (Inv_up h hn)
  · have e1 : EX x (d + 8) 95 [.inr (.inr (.inl 0)), .inl k] I J (PQz x (d + 8) 164 [.inl k] n) = PQz x (d + 8) 164 [.inl k] n (some (.inl (-1000001))) I J := by
      by_cases c3 : k < 0
      · simp (disch := omega) only [@g_95_0, @g_95_1, @g_95_4, @g_95_5, @g_95_6, @g_95_9, @g_95_11, @g_95_12, @g_95_13, @g_95_16, @g_95_19, @g_95_22, @g_95_24, @g_95_25, @g_95_26, @g_95_29, @g_95_30, @g_95_31, @g_95_32, @g_95_35, @g_95_38, @g_95_39, @e_95, nlO_n, nlO_i, nlO_r, ret01_0, ret01_1, ret01_if, ret01_fi, true_and, Option.toList_some, Option.toList_none, List.cons_append, List.nil_append, ii_1, ii_0, ii_R, ij_1, ij_0, ij_R, ite_not, if_true, if_false, Int.one_ne_zero, one_e1, not_true_eq_false, not_false_eq_true, and_true, and_false, false_and, or_false, false_or, or_true, true_or, and_self, or_self, inr_n1000100, inr_n1000010, inr_n1000003, inr_n1000002, inr_n1000001, inr_n1000000, inr_n1, inr_0, inr_1, inr_2, inr_3, inr_4, inr_5, inr_6, inr_7, inr_8, inr_10, inr_11, inr_12, inr_13, inr_14, inr_15, inr_16, inr_20, inr_21, inr_22, inr_23, inr_24, inr_29, inr_30, inr_31, inr_32, inr_39, inr_40, inr_44, inr_48, inr_53, inr_54, inr_57, inr_59, inr_63, inr_97, inr_100, inr_101, inr_102, inr_104, inr_105, inr_106, inr_110, inr_112, inr_116, inr_120, inr_122, inr_144, inr_255, inr_256, inr_320, inr_552, inr_576, inr_999, inr_1000, inr_1023, inr_1024, inr_2048, inr_1000000, inr_252645135, inr_858993459, inr_1431655765, okO_0, okF_0_0, rfN_0_0, okF_0_1, rfN_0_1, okF_0_2, rfN_0_2, okF_0_3, rfN_0_3, okF_0_4, rfN_0_4, okF_0_5, rfN_0_5, okF_0_6, rfN_0_6, okF_0_7, rfN_0_7, okF_0_8, rfN_0_8, okF_0_9, rfN_0_9, okO_2, okF_2_2, rfN_2_2, okF_2_4, rfN_2_4, okF_2_5, rfN_2_5, okF_2_6, rfN_2_6, okF_2_7, rfN_2_7, okF_2_9, rfN_2_9, okF_2_10, rfN_2_10, lnN_18, o_R, o_le, o_lt, o_nlt, o_nle, o_eq, o_ne]
      · simp (disch := omega) only [@g_95_0, @g_95_1, @g_95_4, @g_95_5, @g_95_6, @g_95_9, @g_95_11, @g_95_12, @g_95_13, @g_95_16, @g_95_19, @g_95_22, @g_95_24, @g_95_25, @g_95_26, @g_95_29, @g_95_30, @g_95_31, @g_95_32, @g_95_35, @g_95_38, @g_95_39, @e_95, nlO_n, nlO_i, nlO_r, ret01_0, ret01_1, ret01_if, ret01_fi, true_and, Option.toList_some, Option.toList_none, List.cons_append, List.nil_append, ii_1, ii_0, ii_R, ij_1, ij_0, ij_R, ite_not, if_true, if_false, Int.one_ne_zero, one_e1, not_true_eq_false, not_false_eq_true, and_true, and_false, false_and, or_false, false_or, or_true, true_or, and_self, or_self, inr_n1000100, inr_n1000010, inr_n1000003, inr_n1000002, inr_n1000001, inr_n1000000, inr_n1, inr_0, inr_1, inr_2, inr_3, inr_4, inr_5, inr_6, inr_7, inr_8, inr_10, inr_11, inr_12, inr_13, inr_14, inr_15, inr_16, inr_20, inr_21, inr_22, inr_23, inr_24, inr_29, inr_30, inr_31, inr_32, inr_39, inr_40, inr_44, inr_48, inr_53, inr_54, inr_57, inr_59, inr_63, inr_97, inr_100, inr_101, inr_102, inr_104, inr_105, inr_106, inr_110, inr_112, inr_116, inr_120, inr_122, inr_144, inr_255, inr_256, inr_320, inr_552, inr_576, inr_999, inr_1000, inr_1023, inr_1024, inr_2048, inr_1000000, inr_252645135, inr_858993459, inr_1431655765, okO_0, okF_0_0, rfN_0_0, okF_0_1, rfN_0_1, okF_0_2, rfN_0_2, okF_0_3, rfN_0_3, okF_0_4, rfN_0_4, okF_0_5, rfN_0_5, okF_0_6, rfN_0_6, okF_0_7, rfN_0_7, okF_0_8, rfN_0_8, okF_0_9, rfN_0_9, okO_2, okF_2_2, rfN_2_2, okF_2_4, rfN_2_4, okF_2_5, rfN_2_5, okF_2_6, rfN_2_6, okF_2_7, rfN_2_7, okF_2_9, rfN_2_9, okF_2_10, rfN_2_10, lnN_18, o_R, o_le, o_lt, o_nlt, o_nle, o_eq, o_ne]
    rw [e1]
    refine PQ_of (by omega) (by omega) ?_
    simp (disch := omega) only [@g_164_0, @g_164_1, @g_164_2, @g_164_3, @g_164_6, @g_164_9, @g_164_11, @g_164_12, @g_164_13, @g_164_16, @g_164_19, @g_164_21, @g_164_22, @g_164_23, @g_164_25, @g_164_27, @g_164_30, @g_164_31, @g_164_34, @g_164_36, @g_164_37, @g_164_38, @g_164_39, @g_164_40, @g_164_41, @g_164_44, @g_164_45, @h_164_45, @g_164_46, @g_164_47, @g_164_50, @g_164_53, @g_164_54, @g_164_57, @g_164_58, @g_164_59, @g_164_60, @g_164_61, @e_164, nlO_n, nlO_i, nlO_r, ret01_0, ret01_1, ret01_if, ret01_fi, true_and, Option.toList_some, Option.toList_none, List.cons_append, List.nil_append, ii_1, ii_0, ii_R, ij_1, ij_0, ij_R, ite_not, if_true, if_false, Int.one_ne_zero, one_e1, not_true_eq_false, not_false_eq_true, and_true, and_false, false_and, or_false, false_or, or_true, true_or, and_self, or_self, inr_n1000100, inr_n1000010, inr_n1000003, inr_n1000002, inr_n1000001, inr_n1000000, inr_n1, inr_0, inr_1, inr_2, inr_3, inr_4, inr_5, inr_6, inr_7, inr_8, inr_10, inr_11, inr_12, inr_13, inr_14, inr_15, inr_16, inr_20, inr_21, inr_22, inr_23, inr_24, inr_29, inr_30, inr_31, inr_32, inr_39, inr_40, inr_44, inr_48, inr_53, inr_54, inr_57, inr_59, inr_63, inr_97, inr_100, inr_101, inr_102, inr_104, inr_105, inr_106, inr_110, inr_112, inr_116, inr_120, inr_122, inr_144, inr_255, inr_256, inr_320, inr_552, inr_576, inr_999, inr_1000, inr_1023, inr_1024, inr_2048, inr_1000000, inr_252645135, inr_858993459, inr_1431655765, okO_92, okF_92_0, rfN_92_0, okF_92_2, rfN_92_2, okF_92_3, rfN_92_3, okF_92_4, rfN_92_4, okF_92_6, rfN_92_6, okF_92_7, rfN_92_7, okF_92_8, rfN_92_8, okF_92_9, rfN_92_9, okF_92_10, rfN_92_10, okF_92_11, rfN_92_11, okF_92_20, rfN_92_20, okF_92_21, rfN_92_21, okF_92_22, rfN_92_22, okF_92_23, rfN_92_23, okF_92_25, rfN_92_25, okF_92_26, rfN_92_26, okF_92_27, rfN_92_27, sp_109, c1]
    exact MQ_of rfl (Inv_up h hn)
theorem call_restore {k : Int} (h : Inv n I J) (hn : n < 600) (hk : inR k) : Pair x (d + 8) 96 165 [.inl k] n I J := by
  unfold Pair
  obtain ⟨hk0, hk1⟩ := hk
  obtain ⟨r1, r2, r3, r4, r5, r6, r7, r8, r9⟩ := h
  have h : Inv n I J := ⟨r1, r2, r3, r4, r5, r6, r7, r8, r9⟩
  obtain ⟨s1, s2, s3, s4, s5, s6⟩ := r6
  by_cases c1 : 0 ≤ k ∧ k ≤ 1
  · have hcs : k = 0 ∨ k = 1 := by omega
    rcases hcs with hc | hc
    · subst hc
      rcases r5.1.2 with z | ⟨z1, z2, z3⟩
      · have e1 : I 76 0 = 0 := by rw [r5.1.1]; exact z
        simp (disch := omega) only [@g_96_0, @g_96_1, @g_96_4, @g_96_5, @g_96_6, @g_96_9, @g_96_11, @g_96_12, @g_96_13, @g_96_16, @g_96_17, @g_96_18, @g_96_21, @g_96_24, @g_96_26, @g_96_27, @g_96_28, @g_96_31, @g_96_32, @g_96_35, @g_96_36, @g_96_37, @g_96_40, @g_96_41, @g_96_44, @g_96_47, @g_96_48, @e_96, nlO_n, nlO_i, nlO_r, ret01_0, ret01_1, ret01_if, ret01_fi, true_and, Option.toList_some, Option.toList_none, List.cons_append, List.nil_append, ii_1, ii_0, ii_R, ij_1, ij_0, ij_R, ite_not, if_true, if_false, Int.one_ne_zero, one_e1, not_true_eq_false, not_false_eq_true, and_true, and_false, false_and, or_false, false_or, or_true, true_or, and_self, or_self, inr_n1000100, inr_n1000010, inr_n1000003, inr_n1000002, inr_n1000001, inr_n1000000, inr_n1, inr_0, inr_1, inr_2, inr_3, inr_4, inr_5, inr_6, inr_7, inr_8, inr_10, inr_11, inr_12, inr_13, inr_14, inr_15, inr_16, inr_20, inr_21, inr_22, inr_23, inr_24, inr_29, inr_30, inr_31, inr_32, inr_39, inr_40, inr_44, inr_48, inr_53, inr_54, inr_57, inr_59, inr_63, inr_97, inr_100, inr_101, inr_102, inr_104, inr_105, inr_106, inr_110, inr_112, inr_116, inr_120, inr_122, inr_144, inr_255, inr_256, inr_320, inr_552, inr_576, inr_999, inr_1000, inr_1023, inr_1024, inr_2048, inr_1000000, inr_252645135, inr_858993459, inr_1431655765, okO_0, okF_0_0, rfN_0_0, okF_0_1, rfN_0_1, okF_0_2, rfN_0_2, okF_0_3, rfN_0_3, okF_0_4, rfN_0_4, okF_0_5, rfN_0_5, okF_0_6, rfN_0_6, okF_0_7, rfN_0_7, okF_0_8, rfN_0_8, okF_0_9, rfN_0_9, lnN_18, okO_76, okF_76_2, rfN_76_2, okF_76_4, rfN_76_4, okF_76_5, rfN_76_5, okF_76_6, rfN_76_6, okF_76_7, rfN_76_7, okF_76_9, rfN_76_9, okF_76_10, rfN_76_10, o_R, o_le, o_lt, o_nlt, o_nle, o_eq, o_ne, im_el0, im_ok0]
        refine PQ_of (by omega) (by omega) ?_
        simp (disch := omega) only [@g_165_0, @g_165_1, @g_165_2, @g_165_3, @g_165_6, @g_165_9, @g_165_11, @g_165_12, @g_165_13, @g_165_16, @g_165_17, @g_165_18, @g_165_21, @g_165_23, @g_165_24, @g_165_25, @g_165_27, @g_165_29, @g_165_32, @g_165_33, @g_165_36, @g_165_37, @g_165_38, @g_165_41, @g_165_43, @g_165_44, @g_165_45, @g_165_46, @g_165_47, @h_165_47, @g_165_48, @g_165_49, @g_165_52, @g_165_55, @g_165_56, @g_165_57, @g_165_60, @g_165_61, @e_165, nlO_n, nlO_i, nlO_r, ret01_0, ret01_1, ret01_if, ret01_fi, true_and, Option.toList_some, Option.toList_none, List.cons_append, List.nil_append, ii_1, ii_0, ii_R, ij_1, ij_0, ij_R, ite_not, if_true, if_false, Int.one_ne_zero, one_e1, not_true_eq_false, not_false_eq_true, and_true, and_false, false_and, or_false, false_or, or_true, true_or, and_self, or_self, inr_n1000100, inr_n1000010, inr_n1000003, inr_n1000002, inr_n1000001, inr_n1000000, inr_n1, inr_0, inr_1, inr_2, inr_3, inr_4, inr_5, inr_6, inr_7, inr_8, inr_10, inr_11, inr_12, inr_13, inr_14, inr_15, inr_16, inr_20, inr_21, inr_22, inr_23, inr_24, inr_29, inr_30, inr_31, inr_32, inr_39, inr_40, inr_44, inr_48, inr_53, inr_54, inr_57, inr_59, inr_63, inr_97, inr_100, inr_101, inr_102, inr_104, inr_105, inr_106, inr_110, inr_112, inr_116, inr_120, inr_122, inr_144, inr_255, inr_256, inr_320, inr_552, inr_576, inr_999, inr_1000, inr_1023, inr_1024, inr_2048, inr_1000000, inr_252645135, inr_858993459, inr_1431655765, okO_92, okF_92_0, rfN_92_0, okF_92_2, rfN_92_2, okF_92_3, rfN_92_3, okF_92_4, rfN_92_4, okF_92_6, rfN_92_6, okF_92_7, rfN_92_7, okF_92_8, rfN_92_8, okF_92_9, rfN_92_9, okF_92_10, rfN_92_10, okF_92_11, rfN_92_11, okF_92_20, rfN_92_20, okF_92_21, rfN_92_21, okF_92_22, rfN_92_22, okF_92_23, rfN_92_23, okF_92_25, rfN_92_25, okF_92_26, rfN_92_26, okF_92_27, rfN_92_27, okA_98, lnN_98, sp_109, o_R, o_le, o_lt, o_nlt, o_nle, o_eq, o_ne]
        exact MQ_of rfl (Inv_up h hn)
      · have e1 : I 76 0 = 1 := by rw [r5.1.1]; exact z1
        have h01 : ret01 (I 76 0) := Or.inr e1
        simp (disch := omega) only [@g_96_0, @g_96_1, @g_96_4, @g_96_5, @g_96_6, @g_96_9, @g_96_11, @g_96_12, @g_96_13, @g_96_16, @g_96_17, @g_96_18, @g_96_21, @g_96_24, @g_96_26, @g_96_27, @g_96_28, @g_96_31, @g_96_32, @g_96_35, @g_96_36, @g_96_37, @g_96_40, @g_96_41, @g_96_44, @g_96_47, @g_96_48, @e_96, nlO_n, nlO_i, nlO_r, ret01_0, ret01_1, ret01_if, ret01_fi, true_and, Option.toList_some, Option.toList_none, List.cons_append, List.nil_append, ii_1, ii_0, ii_R, ij_1, ij_0, ij_R, ite_not, if_true, if_false, Int.one_ne_zero, one_e1, not_true_eq_false, not_false_eq_true, and_true, and_false, false_and, or_false, false_or, or_true, true_or, and_self, or_self, inr_n1000100, inr_n1000010, inr_n1000003, inr_n1000002, inr_n1000001, inr_n1000000, inr_n1, inr_0, inr_1, inr_2, inr_3, inr_4, inr_5, inr_6, inr_7, inr_8, inr_10, inr_11, inr_12, inr_13, inr_14, inr_15, inr_16, inr_20, inr_21, inr_22, inr_23, inr_24, inr_29, inr_30, inr_31, inr_32, inr_39, inr_40, inr_44, inr_48, inr_53, inr_54, inr_57, inr_59, inr_63, inr_97, inr_100, inr_101, inr_102, inr_104, inr_105, inr_106, inr_110, inr_112, inr_116, inr_120, inr_122, inr_144, inr_255, inr_256, inr_320, inr_552, inr_576, inr_999, inr_1000, inr_1023, inr_1024, inr_2048, inr_1000000, inr_252645135, inr_858993459, inr_1431655765, okO_0, okF_0_0, rfN_0_0, okF_0_1, rfN_0_1, okF_0_2, rfN_0_2, okF_0_3, rfN_0_3, okF_0_4, rfN_0_4, okF_0_5, rfN_0_5, okF_0_6, rfN_0_6, okF_0_7, rfN_0_7, okF_0_8, rfN_0_8, okF_0_9, rfN_0_9, okO_2, okF_2_2, rfN_2_2, okF_2_4, rfN_2_4, okF_2_5, rfN_2_5, okF_2_6, rfN_2_6, okF_2_7, rfN_2_7, okF_2_9, rfN_2_9, okF_2_10, rfN_2_10, lnN_18, okO_76, okF_76_2, rfN_76_2, okF_76_4, rfN_76_4, okF_76_5, rfN_76_5, okF_76_6, rfN_76_6, okF_76_7, rfN_76_7, okF_76_9, rfN_76_9, okF_76_10, rfN_76_10, o_R, o_le, o_lt, o_nlt, o_nle, o_eq, o_ne, im_el0, im_ok0]
        refine sp_15_2_76 h01 (fun I1 hb => ?_)
        simp (disch := omega) only [@g_96_0, @g_96_1, @g_96_4, @g_96_5, @g_96_6, @g_96_9, @g_96_11, @g_96_12, @g_96_13, @g_96_16, @g_96_17, @g_96_18, @g_96_21, @g_96_24, @g_96_26, @g_96_27, @g_96_28, @g_96_31, @g_96_32, @g_96_35, @g_96_36, @g_96_37, @g_96_40, @g_96_41, @g_96_44, @g_96_47, @g_96_48, @e_96, @g_2_0, @g_2_1, @g_2_2, @g_2_5, @e_2, nlO_n, nlO_i, nlO_r, ret01_0, ret01_1, ret01_if, ret01_fi, true_and, Option.toList_some, Option.toList_none, List.cons_append, List.nil_append, ii_1, ii_0, ii_R, ij_1, ij_0, ij_R, ite_not, if_true, if_false, Int.one_ne_zero, one_e1, not_true_eq_false, not_false_eq_true, and_true, and_false, false_and, or_false, false_or, or_true, true_or, and_self, or_self, inr_n1000100, inr_n1000010, inr_n1000003, inr_n1000002, inr_n1000001, inr_n1000000, inr_n1, inr_0, inr_1, inr_2, inr_3, inr_4, inr_5, inr_6, inr_7, inr_8, inr_10, inr_11, inr_12, inr_13, inr_14, inr_15, inr_16, inr_20, inr_21, inr_22, inr_23, inr_24, inr_29, inr_30, inr_31, inr_32, inr_39, inr_40, inr_44, inr_48, inr_53, inr_54, inr_57, inr_59, inr_63, inr_97, inr_100, inr_101, inr_102, inr_104, inr_105, inr_106, inr_110, inr_112, inr_116, inr_120, inr_122, inr_144, inr_255, inr_256, inr_320, inr_552, inr_576, inr_999, inr_1000, inr_1023, inr_1024, inr_2048, inr_1000000, inr_252645135, inr_858993459, inr_1431655765, okO_0, okF_0_0, rfN_0_0, okF_0_1, rfN_0_1, okF_0_2, rfN_0_2, okF_0_3, rfN_0_3, okF_0_4, rfN_0_4, okF_0_5, rfN_0_5, okF_0_6, rfN_0_6, okF_0_7, rfN_0_7, okF_0_8, rfN_0_8, okF_0_9, rfN_0_9, okO_2, okF_2_2, rfN_2_2, okF_2_4, rfN_2_4, okF_2_5, rfN_2_5, okF_2_6, rfN_2_6, okF_2_7, rfN_2_7, okF_2_9, rfN_2_9, okF_2_10, rfN_2_10, lnN_18, okO_21, okF_21_0, rfN_21_0, okO_76, okF_76_2, rfN_76_2, okF_76_4, rfN_76_4, okF_76_5, rfN_76_5, okF_76_6, rfN_76_6, okF_76_7, rfN_76_7, okF_76_9, rfN_76_9, okF_76_10, rfN_76_10, o_R, o_le, o_lt, o_nlt, o_nle, o_eq, o_ne]
        refine PQ_of (by omega) (by omega) ?_
        have q1 := hb.1
        simp (disch := omega) only [@g_165_0, @g_165_1, @g_165_2, @g_165_3, @g_165_6, @g_165_9, @g_165_11, @g_165_12, @g_165_13, @g_165_16, @g_165_17, @g_165_18, @g_165_21, @g_165_23, @g_165_24, @g_165_25, @g_165_27, @g_165_29, @g_165_32, @g_165_33, @g_165_36, @g_165_37, @g_165_38, @g_165_41, @g_165_43, @g_165_44, @g_165_45, @g_165_46, @g_165_47, @h_165_47, @g_165_48, @g_165_49, @g_165_52, @g_165_55, @g_165_56, @g_165_57, @g_165_60, @g_165_61, @e_165, nlO_n, nlO_i, nlO_r, ret01_0, ret01_1, ret01_if, ret01_fi, true_and, Option.toList_some, Option.toList_none, List.cons_append, List.nil_append, ii_1, ii_0, ii_R, ij_1, ij_0, ij_R, ite_not, if_true, if_false, Int.one_ne_zero, one_e1, not_true_eq_false, not_false_eq_true, and_true, and_false, false_and, or_false, false_or, or_true, true_or, and_self, or_self, inr_n1000100, inr_n1000010, inr_n1000003, inr_n1000002, inr_n1000001, inr_n1000000, inr_n1, inr_0, inr_1, inr_2, inr_3, inr_4, inr_5, inr_6, inr_7, inr_8, inr_10, inr_11, inr_12, inr_13, inr_14, inr_15, inr_16, inr_20, inr_21, inr_22, inr_23, inr_24, inr_29, inr_30, inr_31, inr_32, inr_39, inr_40, inr_44, inr_48, inr_53, inr_54, inr_57, inr_59, inr_63, inr_97, inr_100, inr_101, inr_102, inr_104, inr_105, inr_106, inr_110, inr_112, inr_116, inr_120, inr_122, inr_144, inr_255, inr_256, inr_320, inr_552, inr_576, inr_999, inr_1000, inr_1023, inr_1024, inr_2048, inr_1000000, inr_252645135, inr_858993459, inr_1431655765, okO_92, okF_92_0, rfN_92_0, okF_92_2, rfN_92_2, okF_92_3, rfN_92_3, okF_92_4, rfN_92_4, okF_92_6, rfN_92_6, okF_92_7, rfN_92_7, okF_92_8, rfN_92_8, okF_92_9, rfN_92_9, okF_92_10, rfN_92_10, okF_92_11, rfN_92_11, okF_92_20, rfN_92_20, okF_92_21, rfN_92_21, okF_92_22, rfN_92_22, okF_92_23, rfN_92_23, okF_92_25, rfN_92_25, okF_92_26, rfN_92_26, okF_92_27, rfN_92_27, okA_98, lnN_98, sp_109, o_R, o_le, o_lt, o_nlt, o_nle, o_eq, o_ne, up_ne, up_same, up_nj, flI_ne, flI_in, flI_out, cpI_ne, cpI_in, cpI_out, q1]
        refine lp_165 (by omega) (by omega) _ 0 _ (by omega) (by omega) rfl ?_
        refine MQ_of rfl ?_
        have hs : ∀ i : Int, 0 ≤ i → i < 53 → up (cpI (up I1 21 2 0) 94 0 (53 - 0) 97 (53 * 0 + 0)) 92 5 0 94 i = I 97 i := fun i a b => by
          simp (disch := omega) only [up_ne, up_same, up_nj, flI_ne, flI_in, flI_out, cpI_ne, cpI_in, cpI_out, q1]
          congr 1
          omega
        refine Inv_H h (fun c hc => ?_) ?_ ?_ ?_ ?_ ?_ ?_ ?_ ?_ ?_ ⟨⟨?_, ?_⟩, ?_, ?_⟩ ?_ ?_
        · simp (disch := omega) only [up_ne, up_same, up_nj, flI_ne, flI_in, flI_out, cpI_ne, cpI_in, cpI_out, q1]
        · simp (disch := omega) only [up_ne, up_same, up_nj, flI_ne, flI_in, flI_out, cpI_ne, cpI_in, cpI_out, q1]
        · simp (disch := omega) only [up_ne, up_same, up_nj, flI_ne, flI_in, flI_out, cpI_ne, cpI_in, cpI_out, q1]
        · simp (disch := omega) only [up_ne, up_same, up_nj, flI_ne, flI_in, flI_out, cpI_ne, cpI_in, cpI_out, q1]
        · simp (disch := omega) only [up_ne, up_same, up_nj, flI_ne, flI_in, flI_out, cpI_ne, cpI_in, cpI_out, q1]
        · simp (disch := omega) only [up_ne, up_same, up_nj, flI_ne, flI_in, flI_out, cpI_ne, cpI_in, cpI_out, q1]
        · simp (disch := omega) only [up_ne, up_same, up_nj, flI_ne, flI_in, flI_out, cpI_ne, cpI_in, cpI_out, q1]
        · simp (disch := omega) only [up_ne, up_same, up_nj, flI_ne, flI_in, flI_out, cpI_ne, cpI_in, cpI_out, q1]
        · simp (disch := omega) only [up_ne, up_same, up_nj, flI_ne, flI_in, flI_out, cpI_ne, cpI_in, cpI_out, q1]
        · refine ROK_ext (g := fun i => I 97 i) hs ⟨MOK_up (by omega) (by omega) z3.1, ?_⟩
          refine RHd_cong (fun c a b => ?_) rfl (RHd_bec z3.1 z3.2 hb)
          simp (disch := omega) only [up_ne, up_same, up_nj, flI_ne, flI_in, flI_out, cpI_ne, cpI_in, cpI_out]
        · simp (disch := omega) only [up_ne, up_same, up_nj, flI_ne, flI_in, flI_out, cpI_ne, cpI_in, cpI_out, q1]
          exact r5.1.1
        · simp (disch := omega) only [up_ne, up_same, up_nj, flI_ne, flI_in, flI_out, cpI_ne, cpI_in, cpI_out, q1]
          rcases r5.1.2 with z | ⟨z1, z2, z3⟩
          · exact Or.inl z
          · refine Or.inr ⟨z1, z2, ?_⟩
            exact ROK_cong (by omega) (by omega) (fun c a b => by simp (disch := omega) only [up_ne, up_same, up_nj, flI_ne, flI_in, flI_out, cpI_ne, cpI_in, cpI_out, q1]) rfl z3
        · simp (disch := omega) only [up_ne, up_same, up_nj, flI_ne, flI_in, flI_out, cpI_ne, cpI_in, cpI_out, q1]
          exact r5.2.1
        · simp (disch := omega) only [up_ne, up_same, up_nj, flI_ne, flI_in, flI_out, cpI_ne, cpI_in, cpI_out, q1]
          rcases r5.2.2 with z | ⟨z1, z2, z3⟩
          · exact Or.inl z
          · refine Or.inr ⟨z1, z2, ?_⟩
            exact ROK_cong (by omega) (by omega) (fun c a b => by simp (disch := omega) only [up_ne, up_same, up_nj, flI_ne, flI_in, flI_out, cpI_ne, cpI_in, cpI_out, q1]) rfl z3
        · refine ⟨?_, ?_, ?_, ?_, ?_, fun k2 hk2 => ?_⟩
          · simp (disch := omega) only [up_ne, up_same, up_nj, flI_ne, flI_in, flI_out, cpI_ne, cpI_in, cpI_out, q1]
          · simp (disch := omega) only [up_ne, up_same, up_nj, flI_ne, flI_in, flI_out, cpI_ne, cpI_in, cpI_out, q1]
            omega
          · simp (disch := omega) only [up_ne, up_same, up_nj, flI_ne, flI_in, flI_out, cpI_ne, cpI_in, cpI_out, q1]
            omega
          · simp (disch := omega) only [up_ne, up_same, up_nj, flI_ne, flI_in, flI_out, cpI_ne, cpI_in, cpI_out, q1]
            omega
          · simp (disch := omega) only [up_ne, up_same, up_nj, flI_ne, flI_in, flI_out, cpI_ne, cpI_in, cpI_out, q1]
            omega
          · simp (disch := omega) only [up_ne, up_same, up_nj, flI_ne, flI_in, flI_out, cpI_ne, cpI_in, cpI_out] at hk2
            omega
        · intro c hc w a b
          have z := r8 c hc w a b
          have z6 := r8 80 (by omega) w a b
          rcases hc with rfl | rfl | rfl | rfl
          · simp (disch := omega) only [up_ne, up_same, up_nj, flI_ne, flI_in, flI_out, cpI_ne, cpI_in, cpI_out]
            have z7 : I1 6 w = I 80 w := (hb.2.2.2.1 w a b).2.2.1
            rw [z7]
            omega
          · simp (disch := omega) only [up_ne, up_same, up_nj, flI_ne, flI_in, flI_out, cpI_ne, cpI_in, cpI_out, q1]
            omega
          · simp (disch := omega) only [up_ne, up_same, up_nj, flI_ne, flI_in, flI_out, cpI_ne, cpI_in, cpI_out, q1]
            omega
          · simp (disch := omega) only [up_ne, up_same, up_nj, flI_ne, flI_in, flI_out, cpI_ne, cpI_in, cpI_out, q1]
            omega
    · subst hc
      rcases r5.2.2 with z | ⟨z1, z2, z3⟩
      · have e1 : I 84 0 = 0 := by rw [r5.2.1]; exact z
        simp (disch := omega) only [@g_96_0, @g_96_1, @g_96_4, @g_96_5, @g_96_6, @g_96_9, @g_96_11, @g_96_12, @g_96_13, @g_96_16, @g_96_17, @g_96_18, @g_96_21, @g_96_24, @g_96_26, @g_96_27, @g_96_28, @g_96_31, @g_96_32, @g_96_35, @g_96_36, @g_96_37, @g_96_40, @g_96_41, @g_96_44, @g_96_47, @g_96_48, @e_96, nlO_n, nlO_i, nlO_r, ret01_0, ret01_1, ret01_if, ret01_fi, true_and, Option.toList_some, Option.toList_none, List.cons_append, List.nil_append, ii_1, ii_0, ii_R, ij_1, ij_0, ij_R, ite_not, if_true, if_false, Int.one_ne_zero, one_e1, not_true_eq_false, not_false_eq_true, and_true, and_false, false_and, or_false, false_or, or_true, true_or, and_self, or_self, inr_n1000100, inr_n1000010, inr_n1000003, inr_n1000002, inr_n1000001, inr_n1000000, inr_n1, inr_0, inr_1, inr_2, inr_3, inr_4, inr_5, inr_6, inr_7, inr_8, inr_10, inr_11, inr_12, inr_13, inr_14, inr_15, inr_16, inr_20, inr_21, inr_22, inr_23, inr_24, inr_29, inr_30, inr_31, inr_32, inr_39, inr_40, inr_44, inr_48, inr_53, inr_54, inr_57, inr_59, inr_63, inr_97, inr_100, inr_101, inr_102, inr_104, inr_105, inr_106, inr_110, inr_112, inr_116, inr_120, inr_122, inr_144, inr_255, inr_256, inr_320, inr_552, inr_576, inr_999, inr_1000, inr_1023, inr_1024, inr_2048, inr_1000000, inr_252645135, inr_858993459, inr_1431655765, okO_0, okF_0_0, rfN_0_0, okF_0_1, rfN_0_1, okF_0_2, rfN_0_2, okF_0_3, rfN_0_3, okF_0_4, rfN_0_4, okF_0_5, rfN_0_5, okF_0_6, rfN_0_6, okF_0_7, rfN_0_7, okF_0_8, rfN_0_8, okF_0_9, rfN_0_9, lnN_18, okO_84, okF_84_2, rfN_84_2, okF_84_4, rfN_84_4, okF_84_5, rfN_84_5, okF_84_6, rfN_84_6, okF_84_7, rfN_84_7, okF_84_9, rfN_84_9, okF_84_10, rfN_84_10, o_R, o_le, o_lt, o_nlt, o_nle, o_eq, o_ne, im_el1, im_ok1]
        refine PQ_of (by omega) (by omega) ?_
        simp (disch := omega) only [@g_165_0, @g_165_1, @g_165_2, @g_165_3, @g_165_6, @g_165_9, @g_165_11, @g_165_12, @g_165_13, @g_165_16, @g_165_17, @g_165_18, @g_165_21, @g_165_23, @g_165_24, @g_165_25, @g_165_27, @g_165_29, @g_165_32, @g_165_33, @g_165_36, @g_165_37, @g_165_38, @g_165_41, @g_165_43, @g_165_44, @g_165_45, @g_165_46, @g_165_47, @h_165_47, @g_165_48, @g_165_49, @g_165_52, @g_165_55, @g_165_56, @g_165_57, @g_165_60, @g_165_61, @e_165, nlO_n, nlO_i, nlO_r, ret01_0, ret01_1, ret01_if, ret01_fi, true_and, Option.toList_some, Option.toList_none, List.cons_append, List.nil_append, ii_1, ii_0, ii_R, ij_1, ij_0, ij_R, ite_not, if_true, if_false, Int.one_ne_zero, one_e1, not_true_eq_false, not_false_eq_true, and_true, and_false, false_and, or_false, false_or, or_true, true_or, and_self, or_self, inr_n1000100, inr_n1000010, inr_n1000003, inr_n1000002, inr_n1000001, inr_n1000000, inr_n1, inr_0, inr_1, inr_2, inr_3, inr_4, inr_5, inr_6, inr_7, inr_8, inr_10, inr_11, inr_12, inr_13, inr_14, inr_15, inr_16, inr_20, inr_21, inr_22, inr_23, inr_24, inr_29, inr_30, inr_31, inr_32, inr_39, inr_40, inr_44, inr_48, inr_53, inr_54, inr_57, inr_59, inr_63, inr_97, inr_100, inr_101, inr_102, inr_104, inr_105, inr_106, inr_110, inr_112, inr_116, inr_120, inr_122, inr_144, inr_255, inr_256, inr_320, inr_552, inr_576, inr_999, inr_1000, inr_1023, inr_1024, inr_2048, inr_1000000, inr_252645135, inr_858993459, inr_1431655765, okO_92, okF_92_0, rfN_92_0, okF_92_2, rfN_92_2, okF_92_3, rfN_92_3, okF_92_4, rfN_92_4, okF_92_6, rfN_92_6, okF_92_7, rfN_92_7, okF_92_8, rfN_92_8, okF_92_9, rfN_92_9, okF_92_10, rfN_92_10, okF_92_11, rfN_92_11, okF_92_20, rfN_92_20, okF_92_21, rfN_92_21, okF_92_22, rfN_92_22, okF_92_23, rfN_92_23, okF_92_25, rfN_92_25, okF_92_26, rfN_92_26, okF_92_27, rfN_92_27, okA_98, lnN_98, sp_109, o_R, o_le, o_lt, o_nlt, o_nle, o_eq, o_ne]
        exact MQ_of rfl (Inv_up h hn)
      · have e1 : I 84 0 = 1 := by rw [r5.2.1]; exact z1
        have h01 : ret01 (I 84 0) := Or.inr e1
        simp (disch := omega) only [@g_96_0, @g_96_1, @g_96_4, @g_96_5, @g_96_6, @g_96_9, @g_96_11, @g_96_12, @g_96_13, @g_96_16, @g_96_17, @g_96_18, @g_96_21, @g_96_24, @g_96_26, @g_96_27, @g_96_28, @g_96_31, @g_96_32, @g_96_35, @g_96_36, @g_96_37, @g_96_40, @g_96_41, @g_96_44, @g_96_47, @g_96_48, @e_96, nlO_n, nlO_i, nlO_r, ret01_0, ret01_1, ret01_if, ret01_fi, true_and, Option.toList_some, Option.toList_none, List.cons_append, List.nil_append, ii_1, ii_0, ii_R, ij_1, ij_0, ij_R, ite_not, if_true, if_false, Int.one_ne_zero, one_e1, not_true_eq_false, not_false_eq_true, and_true, and_false, false_and, or_false, false_or, or_true, true_or, and_self, or_self, inr_n1000100, inr_n1000010, inr_n1000003, inr_n1000002, inr_n1000001, inr_n1000000, inr_n1, inr_0, inr_1, inr_2, inr_3, inr_4, inr_5, inr_6, inr_7, inr_8, inr_10, inr_11, inr_12, inr_13, inr_14, inr_15, inr_16, inr_20, inr_21, inr_22, inr_23, inr_24, inr_29, inr_30, inr_31, inr_32, inr_39, inr_40, inr_44, inr_48, inr_53, inr_54, inr_57, inr_59, inr_63, inr_97, inr_100, inr_101, inr_102, inr_104, inr_105, inr_106, inr_110, inr_112, inr_116, inr_120, inr_122, inr_144, inr_255, inr_256, inr_320, inr_552, inr_576, inr_999, inr_1000, inr_1023, inr_1024, inr_2048, inr_1000000, inr_252645135, inr_858993459, inr_1431655765, okO_0, okF_0_0, rfN_0_0, okF_0_1, rfN_0_1, okF_0_2, rfN_0_2, okF_0_3, rfN_0_3, okF_0_4, rfN_0_4, okF_0_5, rfN_0_5, okF_0_6, rfN_0_6, okF_0_7, rfN_0_7, okF_0_8, rfN_0_8, okF_0_9, rfN_0_9, okO_2, okF_2_2, rfN_2_2, okF_2_4, rfN_2_4, okF_2_5, rfN_2_5, okF_2_6, rfN_2_6, okF_2_7, rfN_2_7, okF_2_9, rfN_2_9, okF_2_10, rfN_2_10, lnN_18, okO_84, okF_84_2, rfN_84_2, okF_84_4, rfN_84_4, okF_84_5, rfN_84_5, okF_84_6, rfN_84_6, okF_84_7, rfN_84_7, okF_84_9, rfN_84_9, okF_84_10, rfN_84_10, o_R, o_le, o_lt, o_nlt, o_nle, o_eq, o_ne, im_el1, im_ok1]
        refine sp_15_2_84 h01 (fun I1 hb => ?_)
        simp (disch := omega) only [@g_96_0, @g_96_1, @g_96_4, @g_96_5, @g_96_6, @g_96_9, @g_96_11, @g_96_12, @g_96_13, @g_96_16, @g_96_17, @g_96_18, @g_96_21, @g_96_24, @g_96_26, @g_96_27, @g_96_28, @g_96_31, @g_96_32, @g_96_35, @g_96_36, @g_96_37, @g_96_40, @g_96_41, @g_96_44, @g_96_47, @g_96_48, @e_96, @g_2_0, @g_2_1, @g_2_2, @g_2_5, @e_2, nlO_n, nlO_i, nlO_r, ret01_0, ret01_1, ret01_if, ret01_fi, true_and, Option.toList_some, Option.toList_none, List.cons_append, List.nil_append, ii_1, ii_0, ii_R, ij_1, ij_0, ij_R, ite_not, if_true, if_false, Int.one_ne_zero, one_e1, not_true_eq_false, not_false_eq_true, and_true, and_false, false_and, or_false, false_or, or_true, true_or, and_self, or_self, inr_n1000100, inr_n1000010, inr_n1000003, inr_n1000002, inr_n1000001, inr_n1000000, inr_n1, inr_0, inr_1, inr_2, inr_3, inr_4, inr_5, inr_6, inr_7, inr_8, inr_10, inr_11, inr_12, inr_13, inr_14, inr_15, inr_16, inr_20, inr_21, inr_22, inr_23, inr_24, inr_29, inr_30, inr_31, inr_32, inr_39, inr_40, inr_44, inr_48, inr_53, inr_54, inr_57, inr_59, inr_63, inr_97, inr_100, inr_101, inr_102, inr_104, inr_105, inr_106, inr_110, inr_112, inr_116, inr_120, inr_122, inr_144, inr_255, inr_256, inr_320, inr_552, inr_576, inr_999, inr_1000, inr_1023, inr_1024, inr_2048, inr_1000000, inr_252645135, inr_858993459, inr_1431655765, okO_0, okF_0_0, rfN_0_0, okF_0_1, rfN_0_1, okF_0_2, rfN_0_2, okF_0_3, rfN_0_3, okF_0_4, rfN_0_4, okF_0_5, rfN_0_5, okF_0_6, rfN_0_6, okF_0_7, rfN_0_7, okF_0_8, rfN_0_8, okF_0_9, rfN_0_9, okO_2, okF_2_2, rfN_2_2, okF_2_4, rfN_2_4, okF_2_5, rfN_2_5, okF_2_6, rfN_2_6, okF_2_7, rfN_2_7, okF_2_9, rfN_2_9, okF_2_10, rfN_2_10, lnN_18, okO_21, okF_21_0, rfN_21_0, okO_84, okF_84_2, rfN_84_2, okF_84_4, rfN_84_4, okF_84_5, rfN_84_5, okF_84_6, rfN_84_6, okF_84_7, rfN_84_7, okF_84_9, rfN_84_9, okF_84_10, rfN_84_10, o_R, o_le, o_lt, o_nlt, o_nle, o_eq, o_ne]
        refine PQ_of (by omega) (by omega) ?_
        have q1 := hb.1
        simp (disch := omega) only [@g_165_0, @g_165_1, @g_165_2, @g_165_3, @g_165_6, @g_165_9, @g_165_11, @g_165_12, @g_165_13, @g_165_16, @g_165_17, @g_165_18, @g_165_21, @g_165_23, @g_165_24, @g_165_25, @g_165_27, @g_165_29, @g_165_32, @g_165_33, @g_165_36, @g_165_37, @g_165_38, @g_165_41, @g_165_43, @g_165_44, @g_165_45, @g_165_46, @g_165_47, @h_165_47, @g_165_48, @g_165_49, @g_165_52, @g_165_55, @g_165_56, @g_165_57, @g_165_60, @g_165_61, @e_165, nlO_n, nlO_i, nlO_r, ret01_0, ret01_1, ret01_if, ret01_fi, true_and, Option.toList_some, Option.toList_none, List.cons_append, List.nil_append, ii_1, ii_0, ii_R, ij_1, ij_0, ij_R, ite_not, if_true, if_false, Int.one_ne_zero, one_e1, not_true_eq_false, not_false_eq_true, and_true, and_false, false_and, or_false, false_or, or_true, true_or, and_self, or_self, inr_n1000100, inr_n1000010, inr_n1000003, inr_n1000002, inr_n1000001, inr_n1000000, inr_n1, inr_0, inr_1, inr_2, inr_3, inr_4, inr_5, inr_6, inr_7, inr_8, inr_10, inr_11, inr_12, inr_13, inr_14, inr_15, inr_16, inr_20, inr_21, inr_22, inr_23, inr_24, inr_29, inr_30, inr_31, inr_32, inr_39, inr_40, inr_44, inr_48, inr_53, inr_54, inr_57, inr_59, inr_63, inr_97, inr_100, inr_101, inr_102, inr_104, inr_105, inr_106, inr_110, inr_112, inr_116, inr_120, inr_122, inr_144, inr_255, inr_256, inr_320, inr_552, inr_576, inr_999, inr_1000, inr_1023, inr_1024, inr_2048, inr_1000000, inr_252645135, inr_858993459, inr_1431655765, okO_92, okF_92_0, rfN_92_0, okF_92_2, rfN_92_2, okF_92_3, rfN_92_3, okF_92_4, rfN_92_4, okF_92_6, rfN_92_6, okF_92_7, rfN_92_7, okF_92_8, rfN_92_8, okF_92_9, rfN_92_9, okF_92_10, rfN_92_10, okF_92_11, rfN_92_11, okF_92_20, rfN_92_20, okF_92_21, rfN_92_21, okF_92_22, rfN_92_22, okF_92_23, rfN_92_23, okF_92_25, rfN_92_25, okF_92_26, rfN_92_26, okF_92_27, rfN_92_27, okA_98, lnN_98, sp_109, o_R, o_le, o_lt, o_nlt, o_nle, o_eq, o_ne, up_ne, up_same, up_nj, flI_ne, flI_in, flI_out, cpI_ne, cpI_in, cpI_out, q1]
        refine lp_165 (by omega) (by omega) _ 0 _ (by omega) (by omega) rfl ?_
        refine MQ_of rfl ?_
        have hs : ∀ i : Int, 0 ≤ i → i < 53 → up (cpI (up I1 21 2 0) 94 0 (53 - 0) 97 (53 * 1 + 0)) 92 5 0 94 i = I 97 (53 + i) := fun i a b => by
          simp (disch := omega) only [up_ne, up_same, up_nj, flI_ne, flI_in, flI_out, cpI_ne, cpI_in, cpI_out, q1]
          congr 1
          omega
        refine Inv_H h (fun c hc => ?_) ?_ ?_ ?_ ?_ ?_ ?_ ?_ ?_ ?_ ⟨⟨?_, ?_⟩, ?_, ?_⟩ ?_ ?_
        · simp (disch := omega) only [up_ne, up_same, up_nj, flI_ne, flI_in, flI_out, cpI_ne, cpI_in, cpI_out, q1]
        · simp (disch := omega) only [up_ne, up_same, up_nj, flI_ne, flI_in, flI_out, cpI_ne, cpI_in, cpI_out, q1]
        · simp (disch := omega) only [up_ne, up_same, up_nj, flI_ne, flI_in, flI_out, cpI_ne, cpI_in, cpI_out, q1]
        · simp (disch := omega) only [up_ne, up_same, up_nj, flI_ne, flI_in, flI_out, cpI_ne, cpI_in, cpI_out, q1]
        · simp (disch := omega) only [up_ne, up_same, up_nj, flI_ne, flI_in, flI_out, cpI_ne, cpI_in, cpI_out, q1]
        · simp (disch := omega) only [up_ne, up_same, up_nj, flI_ne, flI_in, flI_out, cpI_ne, cpI_in, cpI_out, q1]
        · simp (disch := omega) only [up_ne, up_same, up_nj, flI_ne, flI_in, flI_out, cpI_ne, cpI_in, cpI_out, q1]
        · simp (disch := omega) only [up_ne, up_same, up_nj, flI_ne, flI_in, flI_out, cpI_ne, cpI_in, cpI_out, q1]
        · simp (disch := omega) only [up_ne, up_same, up_nj, flI_ne, flI_in, flI_out, cpI_ne, cpI_in, cpI_out, q1]
        · refine ROK_ext (g := fun i => I 97 (53 + i)) hs ⟨MOK_up (by omega) (by omega) z3.1, ?_⟩
          refine RHd_cong (fun c a b => ?_) rfl (RHd_bec z3.1 z3.2 hb)
          simp (disch := omega) only [up_ne, up_same, up_nj, flI_ne, flI_in, flI_out, cpI_ne, cpI_in, cpI_out]
        · simp (disch := omega) only [up_ne, up_same, up_nj, flI_ne, flI_in, flI_out, cpI_ne, cpI_in, cpI_out, q1]
          exact r5.1.1
        · simp (disch := omega) only [up_ne, up_same, up_nj, flI_ne, flI_in, flI_out, cpI_ne, cpI_in, cpI_out, q1]
          rcases r5.1.2 with z | ⟨z1, z2, z3⟩
          · exact Or.inl z
          · refine Or.inr ⟨z1, z2, ?_⟩
            exact ROK_cong (by omega) (by omega) (fun c a b => by simp (disch := omega) only [up_ne, up_same, up_nj, flI_ne, flI_in, flI_out, cpI_ne, cpI_in, cpI_out, q1]) rfl z3
        · simp (disch := omega) only [up_ne, up_same, up_nj, flI_ne, flI_in, flI_out, cpI_ne, cpI_in, cpI_out, q1]
          exact r5.2.1
        · simp (disch := omega) only [up_ne, up_same, up_nj, flI_ne, flI_in, flI_out, cpI_ne, cpI_in, cpI_out, q1]
          rcases r5.2.2 with z | ⟨z1, z2, z3⟩
          · exact Or.inl z
          · refine Or.inr ⟨z1, z2, ?_⟩
            exact ROK_cong (by omega) (by omega) (fun c a b => by simp (disch := omega) only [up_ne, up_same, up_nj, flI_ne, flI_in, flI_out, cpI_ne, cpI_in, cpI_out, q1]) rfl z3
        · refine ⟨?_, ?_, ?_, ?_, ?_, fun k2 hk2 => ?_⟩
          · simp (disch := omega) only [up_ne, up_same, up_nj, flI_ne, flI_in, flI_out, cpI_ne, cpI_in, cpI_out, q1]
          · simp (disch := omega) only [up_ne, up_same, up_nj, flI_ne, flI_in, flI_out, cpI_ne, cpI_in, cpI_out, q1]
            omega
          · simp (disch := omega) only [up_ne, up_same, up_nj, flI_ne, flI_in, flI_out, cpI_ne, cpI_in, cpI_out, q1]
            omega
          · simp (disch := omega) only [up_ne, up_same, up_nj, flI_ne, flI_in, flI_out, cpI_ne, cpI_in, cpI_out, q1]
            omega
          · simp (disch := omega) only [up_ne, up_same, up_nj, flI_ne, flI_in, flI_out, cpI_ne, cpI_in, cpI_out, q1]
            omega
          · simp (disch := omega) only [up_ne, up_same, up_nj, flI_ne, flI_in, flI_out, cpI_ne, cpI_in, cpI_out] at hk2
            omega
        · intro c hc w a b
          have z := r8 c hc w a b
          have z6 := r8 88 (by omega) w a b
          rcases hc with rfl | rfl | rfl | rfl
          · simp (disch := omega) only [up_ne, up_same, up_nj, flI_ne, flI_in, flI_out, cpI_ne, cpI_in, cpI_out]
            have z7 : I1 6 w = I 88 w := (hb.2.2.2.1 w a b).2.2.1
            rw [z7]
            omega
          · simp (disch := omega) only [up_ne, up_same, up_nj, flI_ne, flI_in, flI_out, cpI_ne, cpI_in, cpI_out, q1]
            omega
          · simp (disch := omega) only [up_ne, up_same, up_nj, flI_ne, flI_in, flI_out, cpI_ne, cpI_in, cpI_out, q1]
            omega
          · simp (disch := omega) only [up_ne, up_same, up_nj, flI_ne, flI_in, flI_out, cpI_ne, cpI_in, cpI_out, q1]
            omega
  · have e1 : EX x (d + 8) 96 [.inr (.inr (.inl 0)), .inl k] I J (PQz x (d + 8) 165 [.inl k] n) = PQz x (d + 8) 165 [.inl k] n (some (.inl (-1000001))) I J := by
      by_cases c3 : k < 0
      · simp (disch := omega) only [@g_96_0, @g_96_1, @g_96_4, @g_96_5, @g_96_6, @g_96_9, @g_96_11, @g_96_12, @g_96_13, @g_96_16, @g_96_17, @g_96_18, @g_96_21, @g_96_24, @g_96_26, @g_96_27, @g_96_28, @g_96_31, @g_96_32, @g_96_35, @g_96_36, @g_96_37, @g_96_40, @g_96_41, @g_96_44, @g_96_47, @g_96_48, @e_96, nlO_n, nlO_i, nlO_r, ret01_0, ret01_1, ret01_if, ret01_fi, true_and, Option.toList_some, Option.toList_none, List.cons_append, List.nil_append, ii_1, ii_0, ii_R, ij_1, ij_0, ij_R, ite_not, if_true, if_false, Int.one_ne_zero, one_e1, not_true_eq_false, not_false_eq_true, and_true, and_false, false_and, or_false, false_or, or_true, true_or, and_self, or_self, inr_n1000100, inr_n1000010, inr_n1000003, inr_n1000002, inr_n1000001, inr_n1000000, inr_n1, inr_0, inr_1, inr_2, inr_3, inr_4, inr_5, inr_6, inr_7, inr_8, inr_10, inr_11, inr_12, inr_13, inr_14, inr_15, inr_16, inr_20, inr_21, inr_22, inr_23, inr_24, inr_29, inr_30, inr_31, inr_32, inr_39, inr_40, inr_44, inr_48, inr_53, inr_54, inr_57, inr_59, inr_63, inr_97, inr_100, inr_101, inr_102, inr_104, inr_105, inr_106, inr_110, inr_112, inr_116, inr_120, inr_122, inr_144, inr_255, inr_256, inr_320, inr_552, inr_576, inr_999, inr_1000, inr_1023, inr_1024, inr_2048, inr_1000000, inr_252645135, inr_858993459, inr_1431655765, okO_0, okF_0_0, rfN_0_0, okF_0_1, rfN_0_1, okF_0_2, rfN_0_2, okF_0_3, rfN_0_3, okF_0_4, rfN_0_4, okF_0_5, rfN_0_5, okF_0_6, rfN_0_6, okF_0_7, rfN_0_7, okF_0_8, rfN_0_8, okF_0_9, rfN_0_9, okO_2, okF_2_2, rfN_2_2, okF_2_4, rfN_2_4, okF_2_5, rfN_2_5, okF_2_6, rfN_2_6, okF_2_7, rfN_2_7, okF_2_9, rfN_2_9, okF_2_10, rfN_2_10, lnN_18, o_R, o_le, o_lt, o_nlt, o_nle, o_eq, o_ne]
      · simp (disch := omega) only [@g_96_0, @g_96_1, @g_96_4, @g_96_5, @g_96_6, @g_96_9, @g_96_11, @g_96_12, @g_96_13, @g_96_16, @g_96_17, @g_96_18, @g_96_21, @g_96_24, @g_96_26, @g_96_27, @g_96_28, @g_96_31, @g_96_32, @g_96_35, @g_96_36, @g_96_37, @g_96_40, @g_96_41, @g_96_44, @g_96_47, @g_96_48, @e_96, nlO_n, nlO_i, nlO_r, ret01_0, ret01_1, ret01_if, ret01_fi, true_and, Option.toList_some, Option.toList_none, List.cons_append, List.nil_append, ii_1, ii_0, ii_R, ij_1, ij_0, ij_R, ite_not, if_true, if_false, Int.one_ne_zero, one_e1, not_true_eq_false, not_false_eq_true, and_true, and_false, false_and, or_false, false_or, or_true, true_or, and_self, or_self, inr_n1000100, inr_n1000010, inr_n1000003, inr_n1000002, inr_n1000001, inr_n1000000, inr_n1, inr_0, inr_1, inr_2, inr_3, inr_4, inr_5, inr_6, inr_7, inr_8, inr_10, inr_11, inr_12, inr_13, inr_14, inr_15, inr_16, inr_20, inr_21, inr_22, inr_23, inr_24, inr_29, inr_30, inr_31, inr_32, inr_39, inr_40, inr_44, inr_48, inr_53, inr_54, inr_57, inr_59, inr_63, inr_97, inr_100, inr_101, inr_102, inr_104, inr_105, inr_106, inr_110, inr_112, inr_116, inr_120, inr_122, inr_144, inr_255, inr_256, inr_320, inr_552, inr_576, inr_999, inr_1000, inr_1023, inr_1024, inr_2048, inr_1000000, inr_252645135, inr_858993459, inr_1431655765, okO_0, okF_0_0, rfN_0_0, okF_0_1, rfN_0_1, okF_0_2, rfN_0_2, okF_0_3, rfN_0_3, okF_0_4, rfN_0_4, okF_0_5, rfN_0_5, okF_0_6, rfN_0_6, okF_0_7, rfN_0_7, okF_0_8, rfN_0_8, okF_0_9, rfN_0_9, okO_2, okF_2_2, rfN_2_2, okF_2_4, rfN_2_4, okF_2_5, rfN_2_5, okF_2_6, rfN_2_6, okF_2_7, rfN_2_7, okF_2_9, rfN_2_9, okF_2_10, rfN_2_10, lnN_18, o_R, o_le, o_lt, o_nlt, o_nle, o_eq, o_ne]
    rw [e1]
    refine PQ_of (by omega) (by omega) ?_
    simp (disch := omega) only [@g_165_0, @g_165_1, @g_165_2, @g_165_3, @g_165_6, @g_165_9, @g_165_11, @g_165_12, @g_165_13, @g_165_16, @g_165_17, @g_165_18, @g_165_21, @g_165_23, @g_165_24, @g_165_25, @g_165_27, @g_165_29, @g_165_32, @g_165_33, @g_165_36, @g_165_37, @g_165_38, @g_165_41, @g_165_43, @g_165_44, @g_165_45, @g_165_46, @g_165_47, @h_165_47, @g_165_48, @g_165_49, @g_165_52, @g_165_55, @g_165_56, @g_165_57, @g_165_60, @g_165_61, @e_165, nlO_n, nlO_i, nlO_r, ret01_0, ret01_1, ret01_if, ret01_fi, true_and, Option.toList_some, Option.toList_none, List.cons_append, List.nil_append, ii_1, ii_0, ii_R, ij_1, ij_0, ij_R, ite_not, if_true, if_false, Int.one_ne_zero, one_e1, not_true_eq_false, not_false_eq_true, and_true, and_false, false_and, or_false, false_or, or_true, true_or, and_self, or_self, inr_n1000100, inr_n1000010, inr_n1000003, inr_n1000002, inr_n1000001, inr_n1000000, inr_n1, inr_0, inr_1, inr_2, inr_3, inr_4, inr_5, inr_6, inr_7, inr_8, inr_10, inr_11, inr_12, inr_13, inr_14, inr_15, inr_16, inr_20, inr_21, inr_22, inr_23, inr_24, inr_29, inr_30, inr_31, inr_32, inr_39, inr_40, inr_44, inr_48, inr_53, inr_54, inr_57, inr_59, inr_63, inr_97, inr_100, inr_101, inr_102, inr_104, inr_105, inr_106, inr_110, inr_112, inr_116, inr_120, inr_122, inr_144, inr_255, inr_256, inr_320, inr_552, inr_576, inr_999, inr_1000, inr_1023, inr_1024, inr_2048, inr_1000000, inr_252645135, inr_858993459, inr_1431655765, okO_92, okF_92_0, rfN_92_0, okF_92_2, rfN_92_2, okF_92_3, rfN_92_3, okF_92_4, rfN_92_4, okF_92_6, rfN_92_6, okF_92_7, rfN_92_7, okF_92_8, rfN_92_8, okF_92_9, rfN_92_9, okF_92_10, rfN_92_10, okF_92_11, rfN_92_11, okF_92_20, rfN_92_20, okF_92_21, rfN_92_21, okF_92_22, rfN_92_22, okF_92_23, rfN_92_23, okF_92_25, rfN_92_25, okF_92_26, rfN_92_26, okF_92_27, rfN_92_27, sp_109, c1]
    exact MQ_of rfl (Inv_up h hn)
end
