/-! ===== hedge: the call ===== -/
theorem pOne_e {b : HV} {len k lo hi : Int} {e : Int × Int} (k0 : 0 ≤ k) (k1 : k ≤ len) (h : pOne b len k lo hi = .inl e) : 1 ≤ e.1 ∧ e.1 ≤ 3 ∧ 0 ≤ e.2 ∧ e.2 ≤ len := by
  unfold pOne at h
  cases h8 : pNum b len k lo hi with
  | inl e8 =>
    rw [h8] at h
    cases h
    have := pNum_f h8
    omega
  | inr p8 =>
    rw [h8] at h
    obtain ⟨y1, y2, y3, y4, y5, y6⟩ := pNum_k k0 k1 h8
    simp only [] at h
    cases h6 : pSgn b len p8.1 59 with
    | inl e6 =>
      rw [h6] at h
      cases h
      obtain ⟨z, -⟩ := pSgn_f h6
      rw [z]
      simp only []
      omega
    | inr a6 => rw [h6] at h; cases h
theorem pOne_k {b : HV} {len k lo hi : Int} {q : Int × Int} (k0 : 0 ≤ k) (k1 : k ≤ len) (h : pOne b len k lo hi = .inr q) : 0 ≤ q.1 ∧ q.1 ≤ len := by
  unfold pOne at h
  cases h8 : pNum b len k lo hi with
  | inl e8 => rw [h8] at h; cases h
  | inr p8 =>
    rw [h8] at h
    obtain ⟨y1, y2, y3, y4, y5, y6⟩ := pNum_k k0 k1 h8
    simp only [] at h
    cases h6 : pSgn b len p8.1 59 with
    | inl e6 => rw [h6] at h; cases h
    | inr a6 =>
      rw [h6] at h
      cases h
      have := pSgn_k h6 (by omega)
      simp only []
      omega
theorem pM_e {b : HV} {len : Int} : ∀ (m : Nat) (a : Int) (s : HV) (e : Int × Int), 0 ≤ a → a ≤ len → pM b len m a s = .inl e → 1 ≤ e.1 ∧ e.1 ≤ 3 ∧ 0 ≤ e.2 ∧ e.2 ≤ len
  | 0, a, s, e, _, _, h => by simp only [pM] at h; cases h
  | m + 1, a, s, e, a0, a1, h => by
    rw [pM_s] at h
    by_cases c1 : len ≤ a
    · rw [if_pos c1] at h; cases h
    · rw [if_neg c1] at h
      by_cases c2 : b a = 116
      · rw [if_pos c2] at h
        by_cases c3 : s 2 = 5
        · rw [if_pos c3] at h; cases h; simp only []; omega
        · rw [if_neg c3] at h
          cases h9 : pOne b len (a + 1) 1 (shlI 1 (s 1) - 1) with
          | inl e9 => rw [h9] at h; cases h; exact pOne_e (by omega) (by omega) h9
          | inr p8 =>
            rw [h9] at h
            have := pOne_k (by omega) (by omega) h9
            exact pM_e m p8.1 _ e (by omega) (by omega) h
      · rw [if_neg c2] at h
        by_cases c3 : kol (b a) = 0 ∨ 0 < s 2
        · rw [if_pos c3] at h; cases h; simp only []; omega
        · rw [if_neg c3] at h
          by_cases c4 : s 1 = 8
          · rw [if_pos c4] at h; cases h; simp only []; omega
          · rw [if_neg c4] at h
            cases h9 : pOne b len (a + 1) 0 3 with
            | inl e9 => rw [h9] at h; cases h; exact pOne_e (by omega) (by omega) h9
            | inr p8 =>
              rw [h9] at h
              have := pOne_k (by omega) (by omega) h9
              exact pM_e m p8.1 _ e (by omega) (by omega) h
theorem pBeh_e {b : HV} {len : Int} : ∀ (r : Nat) (c a : Int) (s : HV), 0 ≤ a → a ≤ len → (∀ e, pBeh b len r c a s = .inl e → 1 ≤ e.1 ∧ e.1 ≤ 3 ∧ 0 ≤ e.2 ∧ e.2 ≤ len) ∧ ∀ q, pBeh b len r c a s = .inr q → 0 ≤ q.1 ∧ q.1 ≤ len
  | 0, c, a, s, a0, a1 => ⟨fun e h => (by simp only [pBeh] at h; cases h), fun q h => (by simp only [pBeh] at h; cases h; exact ⟨a0, a1⟩)⟩
  | r + 1, c, a, s, a0, a1 => by
    simp only [pBeh]
    cases h9 : pSgn b len a 44 with
    | inl e9 =>
      obtain ⟨z, -⟩ := pSgn_f h9
      refine ⟨fun e h => (by cases h; rw [z]; simp only []; omega), fun q h => (by cases h)⟩
    | inr a9 =>
      obtain ⟨z1, z2, z3⟩ := pSgn_k h9 (by omega)
      simp only []
      cases h8 : pNum b len a9 0 15 with
      | inl e8 =>
        have := pNum_f h8
        exact ⟨fun e h => (by cases h; omega), fun q h => (by cases h)⟩
      | inr p8 =>
        obtain ⟨y1, y2, y3, y4, y5, y6⟩ := pNum_k (by omega) (by omega) h8
        exact pBeh_e r (c + 1) p8.1 _ (by omega) y2
theorem prs_e {b : HV} {len : Int} {e : Int × Int} (t2 : 0 ≤ len) (h : prs b len = .inl e) : 1 ≤ e.1 ∧ e.1 ≤ 3 ∧ 0 ≤ e.2 ∧ e.2 ≤ len := by
  unfold prs pLaw at h
  cases h9 : pSgn b len 0 104 with
  | inl e9 =>
    rw [h9] at h
    cases h
    obtain ⟨z, -⟩ := pSgn_f h9
    rw [z]; simp only []; omega
  | inr a1 =>
    rw [h9] at h
    obtain ⟨z1, z2, z3⟩ := pSgn_k h9 (by omega)
    cases h8 : pNum b len a1 1 24 with
    | inl e8 =>
      simp only [h8] at h
      cases h
      have := pNum_f h8
      omega
    | inr p8 =>
      simp only [h8] at h
      obtain ⟨y1, y2, y3, y4, y5, y6⟩ := pNum_k (by omega) (by omega) h8
      have hB := pBeh_e (b := b) (len := len) 4 0 p8.1 (sv eS 3 p8.2) (by omega) y2
      cases h7 : pBeh b len 4 0 p8.1 (sv eS 3 p8.2) with
      | inl e7 =>
        rw [h7] at h
        cases h
        exact hB.1 _ h7
      | inr p7 =>
        rw [h7] at h
        have hq := hB.2 _ h7
        simp only [] at h
        cases h6 : pSgn b len p7.1 59 with
        | inl e6 =>
          rw [h6] at h
          cases h
          obtain ⟨z, -⟩ := pSgn_f h6
          rw [z]; simp only []; omega
        | inr a6 =>
          rw [h6] at h
          have := pSgn_k h6 (by omega)
          exact pM_e 14 a6 p7.2 e (by omega) (by omega) h
section
variable {x : RO} {d : Nat} {Q : QT} {I I0 : MI} {J : MJ} {n : Nat} {b : HV} {len a : Int}
theorem Inv_T2 {I' : MI} (h : Inv n I J) (hn : n < 600) (hT : RTp I') (hK : RAk (1000 + 2 * ((n + 1 : Nat) : Int)) I') (b0 : ∀ c, relC c → c ≠ 14 → c ≠ 20 → c ≠ 93 → I' c = I c) (b1 : I' 0 10 = I 0 10) (b4 : I' 58 1 = I 58 1) (b6 : I' 92 5 = I 92 5) (b7 : I' 92 12 = I 92 12) (b8 : I' 92 13 = I 92 13) : Inv (n + 1) I' J := by
  obtain ⟨h1, h2, h3, h4, h5, h6, h7, h8, h9⟩ := h
  have q : ∀ c, ((2 ≤ c ∧ c ≤ 9) ∨ (21 ≤ c ∧ c ≤ 46) ∨ (59 ≤ c ∧ c < 92) ∨ c = 94 ∨ (96 ≤ c ∧ c ≤ 102)) → I' c = I c := fun c hc => b0 c (by unfold relC; omega) (by omega) (by omega) (by omega)
  exact ⟨RRs_cong (fun c _ _ => q c (by omega)) (q 99 (by omega)) (q 100 (by omega)) (q 101 (by omega)) h1, hT, RSt_cong b1 b8 h3,
    ROK_cong (by omega) (by omega) (fun c _ _ => q c (by omega)) (q 94 (by omega)) h4, RIm_cong (by omega) (by omega) (fun c _ _ => q c (by omega)) (q 97 (by omega)) (q 98 (by omega)) h5,
    RAs_cong (by omega) (fun c _ _ => q c (by omega)) b6 (q 94 (by omega)) (q 96 (by omega)) h6, RTr_cong b4 (q 59 (by omega)) b7 (q 102 (by omega)) h7, hK, RPl_up h9⟩
theorem lp_131 {u : Int} : ∀ (m : Nat) (i : Int) (I : MI), 0 ≤ i → i ≤ 53 → (53 - i).toNat = m → Q (some (.inl (cpI I 94 i (53 - i) 95 i 94 2))) (up (cpI I 94 i (53 - i) 95 i) 92 5 0) J → GO x d 131 Q 32 [some (.inr (.inr (.inl 92))), some (.inl u), some (.inl i)] [] I J := by
  intro m
  induction m with
  | zero =>
    intro i I h0 hi hm hq
    have e : i = 53 := by omega
    subst e
    rw [show (53 : Int) - 53 = 0 by omega, cpI_0] at hq
    rw [@g_131_32]
    simp (disch := omega) only [@g_131_0, @g_131_1, @g_131_4, @g_131_5, @g_131_6, @g_131_7, @g_131_10, @g_131_11, @g_131_14, @g_131_15, @g_131_16, @g_131_19, @g_131_22, @g_131_24, @g_131_25, @g_131_28, @g_131_29, @g_131_30, @g_131_31, @g_131_33, @g_131_35, @g_131_38, @g_131_39, @g_131_42, @g_131_43, @g_131_44, @g_131_47, @g_131_48, @h_131_48, @g_131_49, @g_131_50, @g_131_53, @g_131_56, @g_131_57, @g_131_58, @g_131_61, @g_131_62, @g_131_65, @g_131_66, @h_131_66, @g_131_67, nlO_n, nlO_i, nlO_r, ret01_0, ret01_1, ret01_if, ret01_fi, true_and, Option.toList_some, Option.toList_none, List.cons_append, List.nil_append, ii_1, ii_0, ii_R, ij_1, ij_0, ij_R, ite_not, if_true, if_false, Int.one_ne_zero, one_e1, not_true_eq_false, not_false_eq_true, and_true, and_false, false_and, or_false, false_or, or_true, true_or, and_self, or_self, inr_n1000100, inr_n1000010, inr_n1000003, inr_n1000002, inr_n1000001, inr_n1000000, inr_n1, inr_0, inr_1, inr_2, inr_3, inr_4, inr_5, inr_6, inr_7, inr_8, inr_10, inr_11, inr_12, inr_13, inr_14, inr_15, inr_16, inr_20, inr_21, inr_22, inr_23, inr_24, inr_29, inr_30, inr_31, inr_32, inr_39, inr_40, inr_44, inr_48, inr_53, inr_54, inr_57, inr_59, inr_63, inr_97, inr_100, inr_101, inr_102, inr_104, inr_105, inr_106, inr_110, inr_112, inr_116, inr_120, inr_122, inr_144, inr_255, inr_256, inr_320, inr_552, inr_576, inr_999, inr_1000, inr_1023, inr_1024, inr_2048, inr_1000000, inr_252645135, inr_858993459, inr_1431655765, okO_92, okF_92_0, rfN_92_0, okF_92_2, rfN_92_2, okF_92_3, rfN_92_3, okF_92_4, rfN_92_4, okF_92_6, rfN_92_6, okF_92_7, rfN_92_7, okF_92_8, rfN_92_8, okF_92_9, rfN_92_9, okF_92_10, rfN_92_10, okF_92_11, rfN_92_11, okF_92_20, rfN_92_20, okF_92_21, rfN_92_21, okF_92_22, rfN_92_22, okF_92_23, rfN_92_23, okF_92_25, rfN_92_25, okF_92_26, rfN_92_26, okF_92_27, rfN_92_27, okA_94, lnN_94, o_R, o_le, o_lt, o_nlt, o_nle, o_eq, o_ne, up_ne]
    exact hq
  | succ m ih =>
    intro i I h0 hi hm hq
    rw [@g_131_32]
    simp (disch := omega) only [@g_131_0, @g_131_1, @g_131_4, @g_131_5, @g_131_6, @g_131_7, @g_131_10, @g_131_11, @g_131_14, @g_131_15, @g_131_16, @g_131_19, @g_131_22, @g_131_24, @g_131_25, @g_131_28, @g_131_29, @g_131_30, @g_131_31, @g_131_33, @g_131_35, @g_131_38, @g_131_39, @g_131_42, @g_131_43, @g_131_44, @g_131_47, @g_131_48, @h_131_48, @g_131_49, @g_131_50, @g_131_53, @g_131_56, @g_131_57, @g_131_58, @g_131_61, @g_131_62, @g_131_65, @g_131_66, @h_131_66, @g_131_67, nlO_n, nlO_i, nlO_r, ret01_0, ret01_1, ret01_if, ret01_fi, true_and, Option.toList_some, Option.toList_none, List.cons_append, List.nil_append, ii_1, ii_0, ii_R, ij_1, ij_0, ij_R, ite_not, if_true, if_false, Int.one_ne_zero, one_e1, not_true_eq_false, not_false_eq_true, and_true, and_false, false_and, or_false, false_or, or_true, true_or, and_self, or_self, inr_n1000100, inr_n1000010, inr_n1000003, inr_n1000002, inr_n1000001, inr_n1000000, inr_n1, inr_0, inr_1, inr_2, inr_3, inr_4, inr_5, inr_6, inr_7, inr_8, inr_10, inr_11, inr_12, inr_13, inr_14, inr_15, inr_16, inr_20, inr_21, inr_22, inr_23, inr_24, inr_29, inr_30, inr_31, inr_32, inr_39, inr_40, inr_44, inr_48, inr_53, inr_54, inr_57, inr_59, inr_63, inr_97, inr_100, inr_101, inr_102, inr_104, inr_105, inr_106, inr_110, inr_112, inr_116, inr_120, inr_122, inr_144, inr_255, inr_256, inr_320, inr_552, inr_576, inr_999, inr_1000, inr_1023, inr_1024, inr_2048, inr_1000000, inr_252645135, inr_858993459, inr_1431655765, okO_92, okF_92_0, rfN_92_0, okF_92_2, rfN_92_2, okF_92_3, rfN_92_3, okF_92_4, rfN_92_4, okF_92_6, rfN_92_6, okF_92_7, rfN_92_7, okF_92_8, rfN_92_8, okF_92_9, rfN_92_9, okF_92_10, rfN_92_10, okF_92_11, rfN_92_11, okF_92_20, rfN_92_20, okF_92_21, rfN_92_21, okF_92_22, rfN_92_22, okF_92_23, rfN_92_23, okF_92_25, rfN_92_25, okF_92_26, rfN_92_26, okF_92_27, rfN_92_27, okA_94, lnN_94, okA_95, lnN_95, o_R, o_le, o_lt, o_nlt, o_nle, o_eq, o_ne]
    refine ih (i + 1) _ (by omega) (by omega) (by omega) ?_
    rw [cpI_up (e2 := 53 - i) (by omega) (by omega) (by omega)]
    exact hq
theorem call_hedge (h : Inv n I J) (hn : n < 600) : Pair x (d + 8) 79 131 [] n I J := by
  unfold Pair
  obtain ⟨r1, r2, r3, r4, r5, r6, r7, r8, r9⟩ := h
  have h : Inv n I J := ⟨r1, r2, r3, r4, r5, r6, r7, r8, r9⟩
  obtain ⟨t1, t2, t3, t4, t5, t6⟩ := r2
  obtain ⟨s1, s2, s3, s4, s5, s6⟩ := r6
  have T : TPc I (I 93) (I 92 1) := ⟨t1, t2, t3, t4⟩
  simp (disch := omega) only [@g_79_0, @g_79_1, @g_79_4, @g_79_5, @g_79_8, @g_79_11, @g_79_12, @g_79_13, @g_79_16, @g_79_17, @g_79_20, @g_79_21, @g_79_24, @g_79_26, @g_79_27, @g_79_30, @g_79_33, @g_79_34, @g_79_35, @g_79_36, @g_79_39, @g_79_40, @g_79_43, @g_79_46, @g_79_47, @g_79_50, @g_79_53, @g_79_54, @g_79_57, @g_79_60, @e_79, nlO_n, nlO_i, nlO_r, ret01_0, ret01_1, ret01_if, ret01_fi, true_and, Option.toList_some, Option.toList_none, List.cons_append, List.nil_append, ii_1, ii_0, ii_R, ij_1, ij_0, ij_R, ite_not, if_true, if_false, Int.one_ne_zero, one_e1, not_true_eq_false, not_false_eq_true, and_true, and_false, false_and, or_false, false_or, or_true, true_or, and_self, or_self, inr_n1000100, inr_n1000010, inr_n1000003, inr_n1000002, inr_n1000001, inr_n1000000, inr_n1, inr_0, inr_1, inr_2, inr_3, inr_4, inr_5, inr_6, inr_7, inr_8, inr_10, inr_11, inr_12, inr_13, inr_14, inr_15, inr_16, inr_20, inr_21, inr_22, inr_23, inr_24, inr_29, inr_30, inr_31, inr_32, inr_39, inr_40, inr_44, inr_48, inr_53, inr_54, inr_57, inr_59, inr_63, inr_97, inr_100, inr_101, inr_102, inr_104, inr_105, inr_106, inr_110, inr_112, inr_116, inr_120, inr_122, inr_144, inr_255, inr_256, inr_320, inr_552, inr_576, inr_999, inr_1000, inr_1023, inr_1024, inr_2048, inr_1000000, inr_252645135, inr_858993459, inr_1431655765, okO_0, okF_0_0, rfN_0_0, okF_0_1, rfN_0_1, okF_0_2, rfN_0_2, okF_0_3, rfN_0_3, okF_0_4, rfN_0_4, okF_0_5, rfN_0_5, okF_0_6, rfN_0_6, okF_0_7, rfN_0_7, okF_0_8, rfN_0_8, okF_0_9, rfN_0_9, okO_10, okF_10_2, rfN_10_2, okF_10_4, rfN_10_4, okF_10_5, rfN_10_5, okF_10_6, rfN_10_6, okF_10_7, rfN_10_7, okF_10_9, rfN_10_9, okF_10_10, rfN_10_10, okO_19, okF_19_0, rfN_19_0]
  refine sp_56 T (fun IB I1 e kb he k1 f1 => ?_) (fun IB I1 a s kb he hc => ?_)
  · obtain ⟨e1, e2, e3, e4⟩ := prs_e t2 he
    obtain ⟨f1, f2, f3⟩ := f1
    have q1 : ∀ c, (c < 10 ∨ 17 < c) → c ≠ 19 → I1 c = I c := fun c a1 a2 => by rw [k1.1 c a1 a2, kb.1 c (by omega) a2]
    simp (disch := omega) only [@g_79_0, @g_79_1, @g_79_4, @g_79_5, @g_79_8, @g_79_11, @g_79_12, @g_79_13, @g_79_16, @g_79_17, @g_79_20, @g_79_21, @g_79_24, @g_79_26, @g_79_27, @g_79_30, @g_79_33, @g_79_34, @g_79_35, @g_79_36, @g_79_39, @g_79_40, @g_79_43, @g_79_46, @g_79_47, @g_79_50, @g_79_53, @g_79_54, @g_79_57, @g_79_60, nlO_n, nlO_i, nlO_r, ret01_0, ret01_1, ret01_if, ret01_fi, true_and, Option.toList_some, Option.toList_none, List.cons_append, List.nil_append, ii_1, ii_0, ii_R, ij_1, ij_0, ij_R, ite_not, if_true, if_false, Int.one_ne_zero, one_e1, not_true_eq_false, not_false_eq_true, and_true, and_false, false_and, or_false, false_or, or_true, true_or, and_self, or_self, inr_n1000100, inr_n1000010, inr_n1000003, inr_n1000002, inr_n1000001, inr_n1000000, inr_n1, inr_0, inr_1, inr_2, inr_3, inr_4, inr_5, inr_6, inr_7, inr_8, inr_10, inr_11, inr_12, inr_13, inr_14, inr_15, inr_16, inr_20, inr_21, inr_22, inr_23, inr_24, inr_29, inr_30, inr_31, inr_32, inr_39, inr_40, inr_44, inr_48, inr_53, inr_54, inr_57, inr_59, inr_63, inr_97, inr_100, inr_101, inr_102, inr_104, inr_105, inr_106, inr_110, inr_112, inr_116, inr_120, inr_122, inr_144, inr_255, inr_256, inr_320, inr_552, inr_576, inr_999, inr_1000, inr_1023, inr_1024, inr_2048, inr_1000000, inr_252645135, inr_858993459, inr_1431655765, okO_0, okF_0_0, rfN_0_0, okF_0_1, rfN_0_1, okF_0_2, rfN_0_2, okF_0_3, rfN_0_3, okF_0_4, rfN_0_4, okF_0_5, rfN_0_5, okF_0_6, rfN_0_6, okF_0_7, rfN_0_7, okF_0_8, rfN_0_8, okF_0_9, rfN_0_9, okO_10, okF_10_2, rfN_10_2, okF_10_4, rfN_10_4, okF_10_5, rfN_10_5, okF_10_6, rfN_10_6, okF_10_7, rfN_10_7, okF_10_9, rfN_10_9, okF_10_10, rfN_10_10, okO_19, okF_19_0, rfN_19_0, o_R, o_le, o_lt, o_nlt, o_nle, o_eq, o_ne, up_nj, f3]
    refine PQ_of (by omega) (by omega) ?_
    have TM : TPm (up I1 19 3 0) (I 93) (I 92 1) := ⟨by rw [up_ne (by omega), q1 92 (by omega) (by omega)], t2, t3, by rw [up_ne (by omega), q1 93 (by omega) (by omega)], fun k a b => (t4 k a b).2⟩
    simp (disch := omega) only [@g_131_0, @g_131_1, @g_131_4, @g_131_5, @g_131_6, @g_131_7, @g_131_10, @g_131_11, @g_131_14, @g_131_15, @g_131_16, @g_131_19, @g_131_22, @g_131_24, @g_131_25, @g_131_28, @g_131_29, @g_131_30, @g_131_31, @g_131_33, @g_131_35, @g_131_38, @g_131_39, @g_131_42, @g_131_43, @g_131_44, @g_131_47, @g_131_48, @h_131_48, @g_131_49, @g_131_50, @g_131_53, @g_131_56, @g_131_57, @g_131_58, @g_131_61, @g_131_62, @g_131_65, @g_131_66, @h_131_66, @g_131_67, @e_131, nlO_n, nlO_i, nlO_r, ret01_0, ret01_1, ret01_if, ret01_fi, true_and, Option.toList_some, Option.toList_none, List.cons_append, List.nil_append, ii_1, ii_0, ii_R, ij_1, ij_0, ij_R, ite_not, if_true, if_false, Int.one_ne_zero, one_e1, not_true_eq_false, not_false_eq_true, and_true, and_false, false_and, or_false, false_or, or_true, true_or, and_self, or_self, inr_n1000100, inr_n1000010, inr_n1000003, inr_n1000002, inr_n1000001, inr_n1000000, inr_n1, inr_0, inr_1, inr_2, inr_3, inr_4, inr_5, inr_6, inr_7, inr_8, inr_10, inr_11, inr_12, inr_13, inr_14, inr_15, inr_16, inr_20, inr_21, inr_22, inr_23, inr_24, inr_29, inr_30, inr_31, inr_32, inr_39, inr_40, inr_44, inr_48, inr_53, inr_54, inr_57, inr_59, inr_63, inr_97, inr_100, inr_101, inr_102, inr_104, inr_105, inr_106, inr_110, inr_112, inr_116, inr_120, inr_122, inr_144, inr_255, inr_256, inr_320, inr_552, inr_576, inr_999, inr_1000, inr_1023, inr_1024, inr_2048, inr_1000000, inr_252645135, inr_858993459, inr_1431655765, okO_92, okF_92_0, rfN_92_0, okF_92_2, rfN_92_2, okF_92_3, rfN_92_3, okF_92_4, rfN_92_4, okF_92_6, rfN_92_6, okF_92_7, rfN_92_7, okF_92_8, rfN_92_8, okF_92_9, rfN_92_9, okF_92_10, rfN_92_10, okF_92_11, rfN_92_11, okF_92_20, rfN_92_20, okF_92_21, rfN_92_21, okF_92_22, rfN_92_22, okF_92_23, rfN_92_23, okF_92_25, rfN_92_25, okF_92_26, rfN_92_26, okF_92_27, rfN_92_27]
    refine sp_130 TM (fun I2 e' he' k2 f4 => ?_) (fun I2 a s he' k2 f4 => ?_)
    · rw [he] at he'
      cases he'
      obtain ⟨f5, f6⟩ := f4
      simp (disch := omega) only [@g_131_0, @g_131_1, @g_131_4, @g_131_5, @g_131_6, @g_131_7, @g_131_10, @g_131_11, @g_131_14, @g_131_15, @g_131_16, @g_131_19, @g_131_22, @g_131_24, @g_131_25, @g_131_28, @g_131_29, @g_131_30, @g_131_31, @g_131_33, @g_131_35, @g_131_38, @g_131_39, @g_131_42, @g_131_43, @g_131_44, @g_131_47, @g_131_48, @h_131_48, @g_131_49, @g_131_50, @g_131_53, @g_131_56, @g_131_57, @g_131_58, @g_131_61, @g_131_62, @g_131_65, @g_131_66, @h_131_66, @g_131_67, nlO_n, nlO_i, nlO_r, ret01_0, ret01_1, ret01_if, ret01_fi, true_and, Option.toList_some, Option.toList_none, List.cons_append, List.nil_append, ii_1, ii_0, ii_R, ij_1, ij_0, ij_R, ite_not, if_true, if_false, Int.one_ne_zero, one_e1, not_true_eq_false, not_false_eq_true, and_true, and_false, false_and, or_false, false_or, or_true, true_or, and_self, or_self, inr_n1000100, inr_n1000010, inr_n1000003, inr_n1000002, inr_n1000001, inr_n1000000, inr_n1, inr_0, inr_1, inr_2, inr_3, inr_4, inr_5, inr_6, inr_7, inr_8, inr_10, inr_11, inr_12, inr_13, inr_14, inr_15, inr_16, inr_20, inr_21, inr_22, inr_23, inr_24, inr_29, inr_30, inr_31, inr_32, inr_39, inr_40, inr_44, inr_48, inr_53, inr_54, inr_57, inr_59, inr_63, inr_97, inr_100, inr_101, inr_102, inr_104, inr_105, inr_106, inr_110, inr_112, inr_116, inr_120, inr_122, inr_144, inr_255, inr_256, inr_320, inr_552, inr_576, inr_999, inr_1000, inr_1023, inr_1024, inr_2048, inr_1000000, inr_252645135, inr_858993459, inr_1431655765, okO_92, okF_92_0, rfN_92_0, okF_92_2, rfN_92_2, okF_92_3, rfN_92_3, okF_92_4, rfN_92_4, okF_92_6, rfN_92_6, okF_92_7, rfN_92_7, okF_92_8, rfN_92_8, okF_92_9, rfN_92_9, okF_92_10, rfN_92_10, okF_92_11, rfN_92_11, okF_92_20, rfN_92_20, okF_92_21, rfN_92_21, okF_92_22, rfN_92_22, okF_92_23, rfN_92_23, okF_92_25, rfN_92_25, okF_92_26, rfN_92_26, okF_92_27, rfN_92_27, o_R, o_le, o_lt, o_nlt, o_nle, o_eq, o_ne, up_nj, f5, f6]
      refine MQ_of rfl ?_
      have q2 : ∀ c, (c < 10 ∨ 17 < c) → c ≠ 19 → c ≠ 92 → c ≠ 95 → I2 c = I c := fun c a1 a2 a3 a4 => by rw [k2.1 c (by simp; omega), up_ne a2]; exact q1 c a1 a2
      have q92 : ∀ j : Int, (j ≤ 14 ∨ 20 ≤ j) → I2 92 j = I 92 j := fun j hj => by rw [k2.2 j hj, up_ne (by omega), q1 92 (by omega) (by omega)]
      have q19 : I2 19 = up I1 19 3 0 19 := k2.1 19 (by simp)
      have q14 : I2 14 = I1 14 := by rw [k2.1 14 (by simp), up_ne (by omega)]
      refine Inv_T2 h hn ⟨?_, ?_, ?_, fun k a b => ?_, ?_, ?_⟩ (fun c hc w a b => ?_) (fun c hc a1 a2 a3 => ?_) ?_ ?_ ?_ ?_ ?_
      · simp (disch := omega) only [up_ne, up_same, up_nj, flI_ne, flI_in, flI_out, cpI_ne, cpI_in, cpI_out, q19]
      · simp (disch := omega) only [up_ne, up_same, up_nj, flI_ne, flI_in, flI_out, cpI_ne, cpI_in, cpI_out]
        omega
      · simp (disch := omega) only [up_ne, up_same, up_nj, flI_ne, flI_in, flI_out, cpI_ne, cpI_in, cpI_out]
        omega
      · simp (disch := omega) only [up_ne, up_same, up_nj, flI_ne, flI_in, flI_out, cpI_ne, cpI_in, cpI_out] at b
        omega
      · simp (disch := omega) only [up_ne, up_same, up_nj, flI_ne, flI_in, flI_out, cpI_ne, cpI_in, cpI_out, q19, f2]
      · simp (disch := omega) only [up_ne, up_same, up_nj, flI_ne, flI_in, flI_out, cpI_ne, cpI_in, cpI_out]
        exact ⟨by omega, by omega⟩
      · have z := r8 c hc w a b
        simp (disch := omega) only [up_ne, up_same, up_nj, flI_ne, flI_in, flI_out, cpI_ne, cpI_in, cpI_out]
        rcases hc with rfl | rfl | rfl | rfl
        · rw [q2 6 (by omega) (by omega) (by omega) (by omega)]; omega
        · rw [q14]
          rcases k1.2.2.1 w a b with z2 | z2
          · rw [z2, kb.1 14 (by omega) (by omega)]; omega
          · rw [z2]; omega
        · rw [q2 80 (by omega) (by omega) (by omega) (by omega)]; omega
        · rw [q2 88 (by omega) (by omega) (by omega) (by omega)]; omega
      · unfold relC at hc
        simp (disch := omega) only [up_ne, up_same, up_nj, flI_ne, flI_in, flI_out, cpI_ne, cpI_in, cpI_out]
        exact q2 c (by omega) (by omega) (by omega) (by omega)
      · simp (disch := omega) only [up_ne, up_same, up_nj, flI_ne, flI_in, flI_out, cpI_ne, cpI_in, cpI_out]
        rw [q2 0 (by omega) (by omega) (by omega) (by omega)]
      · simp (disch := omega) only [up_ne, up_same, up_nj, flI_ne, flI_in, flI_out, cpI_ne, cpI_in, cpI_out]
        rw [q2 58 (by omega) (by omega) (by omega) (by omega)]
      · simp (disch := omega) only [up_ne, up_same, up_nj, flI_ne, flI_in, flI_out, cpI_ne, cpI_in, cpI_out, q92]
      · simp (disch := omega) only [up_ne, up_same, up_nj, flI_ne, flI_in, flI_out, cpI_ne, cpI_in, cpI_out, q92]
      · simp (disch := omega) only [up_ne, up_same, up_nj, flI_ne, flI_in, flI_out, cpI_ne, cpI_in, cpI_out, q92]
    · rw [he] at he'
      cases he'
  · obtain ⟨k1, g2, g3, g4, g5, g6, g7⟩ := hc
    have q1 : ∀ c, (c < 10 ∨ 17 < c) → c ≠ 19 → I1 c = I c := fun c a1 a2 => by rw [k1.1 c a1 a2, kb.1 c (by omega) a2]
    have hfa : I1 19 4 = I 19 4 := by
      rcases k1.2.2.2.2 with z | z
      · rw [z]; exact kb.2.2.1
      · omega
    have h01 : ret01 (up I1 19 3 0 10 0) := Or.inr (by rw [up_ne (by omega), g6.1]; exact g7.2.1)
    have M2 : MOK (1000 + 2 * ((n + 1 : Nat) : Int)) s := DW_ok g7 (by omega) (by omega)
    have b2 := B_2 M2
    simp (disch := omega) only [@g_79_0, @g_79_1, @g_79_4, @g_79_5, @g_79_8, @g_79_11, @g_79_12, @g_79_13, @g_79_16, @g_79_17, @g_79_20, @g_79_21, @g_79_24, @g_79_26, @g_79_27, @g_79_30, @g_79_33, @g_79_34, @g_79_35, @g_79_36, @g_79_39, @g_79_40, @g_79_43, @g_79_46, @g_79_47, @g_79_50, @g_79_53, @g_79_54, @g_79_57, @g_79_60, nlO_n, nlO_i, nlO_r, ret01_0, ret01_1, ret01_if, ret01_fi, true_and, Option.toList_some, Option.toList_none, List.cons_append, List.nil_append, ii_1, ii_0, ii_R, ij_1, ij_0, ij_R, ite_not, if_true, if_false, Int.one_ne_zero, one_e1, not_true_eq_false, not_false_eq_true, and_true, and_false, false_and, or_false, false_or, or_true, true_or, and_self, or_self, inr_n1000100, inr_n1000010, inr_n1000003, inr_n1000002, inr_n1000001, inr_n1000000, inr_n1, inr_0, inr_1, inr_2, inr_3, inr_4, inr_5, inr_6, inr_7, inr_8, inr_10, inr_11, inr_12, inr_13, inr_14, inr_15, inr_16, inr_20, inr_21, inr_22, inr_23, inr_24, inr_29, inr_30, inr_31, inr_32, inr_39, inr_40, inr_44, inr_48, inr_53, inr_54, inr_57, inr_59, inr_63, inr_97, inr_100, inr_101, inr_102, inr_104, inr_105, inr_106, inr_110, inr_112, inr_116, inr_120, inr_122, inr_144, inr_255, inr_256, inr_320, inr_552, inr_576, inr_999, inr_1000, inr_1023, inr_1024, inr_2048, inr_1000000, inr_252645135, inr_858993459, inr_1431655765, okO_0, okF_0_0, rfN_0_0, okF_0_1, rfN_0_1, okF_0_2, rfN_0_2, okF_0_3, rfN_0_3, okF_0_4, rfN_0_4, okF_0_5, rfN_0_5, okF_0_6, rfN_0_6, okF_0_7, rfN_0_7, okF_0_8, rfN_0_8, okF_0_9, rfN_0_9, okO_2, okF_2_2, rfN_2_2, okF_2_4, rfN_2_4, okF_2_5, rfN_2_5, okF_2_6, rfN_2_6, okF_2_7, rfN_2_7, okF_2_9, rfN_2_9, okF_2_10, rfN_2_10, okO_10, okF_10_2, rfN_10_2, okF_10_4, rfN_10_4, okF_10_5, rfN_10_5, okF_10_6, rfN_10_6, okF_10_7, rfN_10_7, okF_10_9, rfN_10_9, okF_10_10, rfN_10_10, okO_19, okF_19_0, rfN_19_0, o_R, o_le, o_lt, o_nlt, o_nle, o_eq, o_ne]
    refine sp_15_2_10 h01 (fun I2 hb => ?_)
    have q2 : ∀ c, (c < 2 ∨ 10 ≤ c) → I2 c = up I1 19 3 0 c := fun c hc => hb.1 c (by omega)
    have e8 : I2 2 8 = s 2 := by rw [hb.2.1.2.2.2.1, up_ne (by omega)]; exact g6.2.2.1
    simp (disch := omega) only [@g_79_0, @g_79_1, @g_79_4, @g_79_5, @g_79_8, @g_79_11, @g_79_12, @g_79_13, @g_79_16, @g_79_17, @g_79_20, @g_79_21, @g_79_24, @g_79_26, @g_79_27, @g_79_30, @g_79_33, @g_79_34, @g_79_35, @g_79_36, @g_79_39, @g_79_40, @g_79_43, @g_79_46, @g_79_47, @g_79_50, @g_79_53, @g_79_54, @g_79_57, @g_79_60, @g_2_0, @g_2_1, @g_2_2, @g_2_5, @e_2, nlO_n, nlO_i, nlO_r, ret01_0, ret01_1, ret01_if, ret01_fi, true_and, Option.toList_some, Option.toList_none, List.cons_append, List.nil_append, ii_1, ii_0, ii_R, ij_1, ij_0, ij_R, ite_not, if_true, if_false, Int.one_ne_zero, one_e1, not_true_eq_false, not_false_eq_true, and_true, and_false, false_and, or_false, false_or, or_true, true_or, and_self, or_self, inr_n1000100, inr_n1000010, inr_n1000003, inr_n1000002, inr_n1000001, inr_n1000000, inr_n1, inr_0, inr_1, inr_2, inr_3, inr_4, inr_5, inr_6, inr_7, inr_8, inr_10, inr_11, inr_12, inr_13, inr_14, inr_15, inr_16, inr_20, inr_21, inr_22, inr_23, inr_24, inr_29, inr_30, inr_31, inr_32, inr_39, inr_40, inr_44, inr_48, inr_53, inr_54, inr_57, inr_59, inr_63, inr_97, inr_100, inr_101, inr_102, inr_104, inr_105, inr_106, inr_110, inr_112, inr_116, inr_120, inr_122, inr_144, inr_255, inr_256, inr_320, inr_552, inr_576, inr_999, inr_1000, inr_1023, inr_1024, inr_2048, inr_1000000, inr_252645135, inr_858993459, inr_1431655765, okO_0, okF_0_0, rfN_0_0, okF_0_1, rfN_0_1, okF_0_2, rfN_0_2, okF_0_3, rfN_0_3, okF_0_4, rfN_0_4, okF_0_5, rfN_0_5, okF_0_6, rfN_0_6, okF_0_7, rfN_0_7, okF_0_8, rfN_0_8, okF_0_9, rfN_0_9, okO_2, okF_2_2, rfN_2_2, okF_2_4, rfN_2_4, okF_2_5, rfN_2_5, okF_2_6, rfN_2_6, okF_2_7, rfN_2_7, okF_2_9, rfN_2_9, okF_2_10, rfN_2_10, okO_21, okF_21_0, rfN_21_0, o_R, o_le, o_lt, o_nlt, o_nle, o_eq, o_ne, up_ne, e8]
    refine PQ_of (by omega) (by omega) ?_
    have q3 : ∀ c, (c < 2 ∨ 17 < c) → c ≠ 19 → c ≠ 21 → up I2 21 2 0 c = I c := fun c a1 a2 a3 => by rw [up_ne a3, q2 c (by omega), up_ne a2, q1 c (by omega) a2]
    have TM : TPm (up I2 21 2 0) (I 93) (I 92 1) := ⟨by rw [q3 92 (by omega) (by omega) (by omega)], t2, t3, q3 93 (by omega) (by omega) (by omega), fun k a b => (t4 k a b).2⟩
    simp (disch := omega) only [@g_131_0, @g_131_1, @g_131_4, @g_131_5, @g_131_6, @g_131_7, @g_131_10, @g_131_11, @g_131_14, @g_131_15, @g_131_16, @g_131_19, @g_131_22, @g_131_24, @g_131_25, @g_131_28, @g_131_29, @g_131_30, @g_131_31, @g_131_33, @g_131_35, @g_131_38, @g_131_39, @g_131_42, @g_131_43, @g_131_44, @g_131_47, @g_131_48, @h_131_48, @g_131_49, @g_131_50, @g_131_53, @g_131_56, @g_131_57, @g_131_58, @g_131_61, @g_131_62, @g_131_65, @g_131_66, @h_131_66, @g_131_67, @e_131, nlO_n, nlO_i, nlO_r, ret01_0, ret01_1, ret01_if, ret01_fi, true_and, Option.toList_some, Option.toList_none, List.cons_append, List.nil_append, ii_1, ii_0, ii_R, ij_1, ij_0, ij_R, ite_not, if_true, if_false, Int.one_ne_zero, one_e1, not_true_eq_false, not_false_eq_true, and_true, and_false, false_and, or_false, false_or, or_true, true_or, and_self, or_self, inr_n1000100, inr_n1000010, inr_n1000003, inr_n1000002, inr_n1000001, inr_n1000000, inr_n1, inr_0, inr_1, inr_2, inr_3, inr_4, inr_5, inr_6, inr_7, inr_8, inr_10, inr_11, inr_12, inr_13, inr_14, inr_15, inr_16, inr_20, inr_21, inr_22, inr_23, inr_24, inr_29, inr_30, inr_31, inr_32, inr_39, inr_40, inr_44, inr_48, inr_53, inr_54, inr_57, inr_59, inr_63, inr_97, inr_100, inr_101, inr_102, inr_104, inr_105, inr_106, inr_110, inr_112, inr_116, inr_120, inr_122, inr_144, inr_255, inr_256, inr_320, inr_552, inr_576, inr_999, inr_1000, inr_1023, inr_1024, inr_2048, inr_1000000, inr_252645135, inr_858993459, inr_1431655765, okO_92, okF_92_0, rfN_92_0, okF_92_2, rfN_92_2, okF_92_3, rfN_92_3, okF_92_4, rfN_92_4, okF_92_6, rfN_92_6, okF_92_7, rfN_92_7, okF_92_8, rfN_92_8, okF_92_9, rfN_92_9, okF_92_10, rfN_92_10, okF_92_11, rfN_92_11, okF_92_20, rfN_92_20, okF_92_21, rfN_92_21, okF_92_22, rfN_92_22, okF_92_23, rfN_92_23, okF_92_25, rfN_92_25, okF_92_26, rfN_92_26, okF_92_27, rfN_92_27]
    refine sp_130 TM (fun I3 e' he' k2 f4 => ?_) (fun I3 a' s' he' k2 f4 => ?_)
    · rw [he] at he'
      cases he'
    · rw [he] at he'
      cases he'
      simp (disch := omega) only [@g_131_0, @g_131_1, @g_131_4, @g_131_5, @g_131_6, @g_131_7, @g_131_10, @g_131_11, @g_131_14, @g_131_15, @g_131_16, @g_131_19, @g_131_22, @g_131_24, @g_131_25, @g_131_28, @g_131_29, @g_131_30, @g_131_31, @g_131_33, @g_131_35, @g_131_38, @g_131_39, @g_131_42, @g_131_43, @g_131_44, @g_131_47, @g_131_48, @h_131_48, @g_131_49, @g_131_50, @g_131_53, @g_131_56, @g_131_57, @g_131_58, @g_131_61, @g_131_62, @g_131_65, @g_131_66, @h_131_66, @g_131_67, nlO_n, nlO_i, nlO_r, ret01_0, ret01_1, ret01_if, ret01_fi, true_and, Option.toList_some, Option.toList_none, List.cons_append, List.nil_append, ii_1, ii_0, ii_R, ij_1, ij_0, ij_R, ite_not, if_true, if_false, Int.one_ne_zero, one_e1, not_true_eq_false, not_false_eq_true, and_true, and_false, false_and, or_false, false_or, or_true, true_or, and_self, or_self, inr_n1000100, inr_n1000010, inr_n1000003, inr_n1000002, inr_n1000001, inr_n1000000, inr_n1, inr_0, inr_1, inr_2, inr_3, inr_4, inr_5, inr_6, inr_7, inr_8, inr_10, inr_11, inr_12, inr_13, inr_14, inr_15, inr_16, inr_20, inr_21, inr_22, inr_23, inr_24, inr_29, inr_30, inr_31, inr_32, inr_39, inr_40, inr_44, inr_48, inr_53, inr_54, inr_57, inr_59, inr_63, inr_97, inr_100, inr_101, inr_102, inr_104, inr_105, inr_106, inr_110, inr_112, inr_116, inr_120, inr_122, inr_144, inr_255, inr_256, inr_320, inr_552, inr_576, inr_999, inr_1000, inr_1023, inr_1024, inr_2048, inr_1000000, inr_252645135, inr_858993459, inr_1431655765, okO_92, okF_92_0, rfN_92_0, okF_92_2, rfN_92_2, okF_92_3, rfN_92_3, okF_92_4, rfN_92_4, okF_92_6, rfN_92_6, okF_92_7, rfN_92_7, okF_92_8, rfN_92_8, okF_92_9, rfN_92_9, okF_92_10, rfN_92_10, okF_92_11, rfN_92_11, okF_92_20, rfN_92_20, okF_92_21, rfN_92_21, okF_92_22, rfN_92_22, okF_92_23, rfN_92_23, okF_92_25, rfN_92_25, okF_92_26, rfN_92_26, okF_92_27, rfN_92_27, o_R, o_le, o_lt, o_nlt, o_nle, o_eq, o_ne]
      refine lp_131 _ 0 _ (by omega) (by omega) rfl ?_
      have q4 : ∀ c, (c < 2 ∨ 17 < c) → c ≠ 19 → c ≠ 21 → c ≠ 92 → c ≠ 95 → I3 c = I c := fun c a1 a2 a3 a4 a5 => by rw [k2.1 c (by simp; omega)]; exact q3 c a1 a2 a3
      have q92 : ∀ j : Int, (j ≤ 14 ∨ 20 ≤ j) → I3 92 j = I 92 j := fun j hj => by rw [k2.2 j hj, q3 92 (by omega) (by omega) (by omega)]
      have qh : ∀ c, 2 ≤ c → c < 18 → I3 c = I2 c := fun c a1 a2 => by rw [k2.1 c (by simp; omega), up_ne (by omega)]
      have q19 : I3 19 = up I1 19 3 0 19 := by rw [k2.1 19 (by simp), up_ne (by omega), q2 19 (by omega)]
      have q21 : I3 21 = up I2 21 2 0 21 := k2.1 21 (by simp)
      have q21b : I2 21 = I 21 := by rw [q2 21 (by omega), up_ne (by omega), q1 21 (by omega) (by omega)]
      have hs : ∀ i : Int, 0 ≤ i → i < 53 → up (cpI (up I3 92 1 0) 94 0 (53 - 0) 95 0) 92 5 0 94 i = s i := fun i a b => by
        simp (disch := omega) only [up_ne, up_same, up_nj, flI_ne, flI_in, flI_out, cpI_ne, cpI_in, cpI_out]
        rw [show (0 : Int) + (i - 0) = i by omega]
        exact f4 i a b
      have e2 : cpI (up I3 92 1 0) 94 0 (53 - 0) 95 0 94 2 = s 2 := by
        have z := hs 2 (by omega) (by omega)
        rw [up_ne (by omega)] at z
        exact z
      rw [e2]
      refine MQ_of rfl ?_
      have hRH : RHd (up (cpI (up I3 92 1 0) 94 0 (53 - 0) 95 0) 92 5 0) 2 s := by
        refine RHd_cong (I := I2) (fun c a b => ?_) rfl (RHd_bec M2 (RHd_19 g6) hb)
        simp (disch := omega) only [up_ne, up_same, up_nj, flI_ne, flI_in, flI_out, cpI_ne, cpI_in, cpI_out, qh]
      refine ⟨RRs_cong (fun c a b => ?_) ?_ ?_ ?_ r1, ⟨?_, ?_, ?_, fun k a b => ?_, ?_, ?_⟩, RSt_cong ?_ ?_ r3, ROK_ext (g := s) hs ⟨M2, hRH⟩, RIm_cong (by omega) (by omega) (fun c a b => ?_) ?_ ?_ r5, ⟨?_, ?_, ?_, ?_, ?_, fun k hk => ?_⟩, RTr_cong ?_ ?_ ?_ ?_ r7, fun c hc w a b => ?_, RPl_up r9⟩
      · simp (disch := omega) only [up_ne, up_same, up_nj, flI_ne, flI_in, flI_out, cpI_ne, cpI_in, cpI_out, q4]
      · simp (disch := omega) only [up_ne, up_same, up_nj, flI_ne, flI_in, flI_out, cpI_ne, cpI_in, cpI_out, q4]
      · simp (disch := omega) only [up_ne, up_same, up_nj, flI_ne, flI_in, flI_out, cpI_ne, cpI_in, cpI_out, q4]
      · simp (disch := omega) only [up_ne, up_same, up_nj, flI_ne, flI_in, flI_out, cpI_ne, cpI_in, cpI_out, q4]
      · simp (disch := omega) only [up_ne, up_same, up_nj, flI_ne, flI_in, flI_out, cpI_ne, cpI_in, cpI_out, q19]
      · simp (disch := omega) only [up_ne, up_same, up_nj, flI_ne, flI_in, flI_out, cpI_ne, cpI_in, cpI_out]
        omega
      · simp (disch := omega) only [up_ne, up_same, up_nj, flI_ne, flI_in, flI_out, cpI_ne, cpI_in, cpI_out]
        omega
      · simp (disch := omega) only [up_ne, up_same, up_nj, flI_ne, flI_in, flI_out, cpI_ne, cpI_in, cpI_out] at b
        omega
      · simp (disch := omega) only [up_ne, up_same, up_nj, flI_ne, flI_in, flI_out, cpI_ne, cpI_in, cpI_out, q19, q92, hfa]
        exact t5
      · simp (disch := omega) only [up_ne, up_same, up_nj, flI_ne, flI_in, flI_out, cpI_ne, cpI_in, cpI_out, q92]
        exact t6
      · simp (disch := omega) only [up_ne, up_same, up_nj, flI_ne, flI_in, flI_out, cpI_ne, cpI_in, cpI_out, q4]
      · simp (disch := omega) only [up_ne, up_same, up_nj, flI_ne, flI_in, flI_out, cpI_ne, cpI_in, cpI_out, q92]
      · simp (disch := omega) only [up_ne, up_same, up_nj, flI_ne, flI_in, flI_out, cpI_ne, cpI_in, cpI_out, q4]
      · simp (disch := omega) only [up_ne, up_same, up_nj, flI_ne, flI_in, flI_out, cpI_ne, cpI_in, cpI_out, q4]
      · simp (disch := omega) only [up_ne, up_same, up_nj, flI_ne, flI_in, flI_out, cpI_ne, cpI_in, cpI_out, q4]
      · simp (disch := omega) only [up_ne, up_same, up_nj, flI_ne, flI_in, flI_out, cpI_ne, cpI_in, cpI_out, q21]
      · simp (disch := omega) only [up_ne, up_same, up_nj, flI_ne, flI_in, flI_out, cpI_ne, cpI_in, cpI_out]
        omega
      · simp (disch := omega) only [up_ne, up_same, up_nj, flI_ne, flI_in, flI_out, cpI_ne, cpI_in, cpI_out]
        omega
      · simp (disch := omega) only [up_ne, up_same, up_nj, flI_ne, flI_in, flI_out, cpI_ne, cpI_in, cpI_out, q21, q21b]
        exact s4
      · simp (disch := omega) only [up_ne, up_same, up_nj, flI_ne, flI_in, flI_out, cpI_ne, cpI_in, cpI_out, q21, q21b]
        exact s5
      · simp (disch := omega) only [up_ne, up_same, up_nj, flI_ne, flI_in, flI_out, cpI_ne, cpI_in, cpI_out] at hk
        omega
      · simp (disch := omega) only [up_ne, up_same, up_nj, flI_ne, flI_in, flI_out, cpI_ne, cpI_in, cpI_out, q4]
      · simp (disch := omega) only [up_ne, up_same, up_nj, flI_ne, flI_in, flI_out, cpI_ne, cpI_in, cpI_out, q4]
      · simp (disch := omega) only [up_ne, up_same, up_nj, flI_ne, flI_in, flI_out, cpI_ne, cpI_in, cpI_out, q92]
      · simp (disch := omega) only [up_ne, up_same, up_nj, flI_ne, flI_in, flI_out, cpI_ne, cpI_in, cpI_out, q4]
      · have z := r8 c hc w a b
        have z14 : -1000000 ≤ I1 14 w ∧ I1 14 w ≤ 1000 + 2 * n := by
          have z2 := r8 14 (by omega) w a b
          rcases k1.2.2.1 w a b with z3 | z3
          · rw [z3, kb.1 14 (by omega) (by omega)]; omega
          · rw [z3]; omega
        rcases hc with rfl | rfl | rfl | rfl
        · simp (disch := omega) only [up_ne, up_same, up_nj, flI_ne, flI_in, flI_out, cpI_ne, cpI_in, cpI_out, qh]
          have z4 : I2 6 w = up I1 19 3 0 14 w := (hb.2.2.2.1 w a b).2.2.1
          rw [z4, up_ne (by omega)]
          omega
        · simp (disch := omega) only [up_ne, up_same, up_nj, flI_ne, flI_in, flI_out, cpI_ne, cpI_in, cpI_out, qh, q2]
          omega
        · simp (disch := omega) only [up_ne, up_same, up_nj, flI_ne, flI_in, flI_out, cpI_ne, cpI_in, cpI_out, q4]
          omega
        · simp (disch := omega) only [up_ne, up_same, up_nj, flI_ne, flI_in, flI_out, cpI_ne, cpI_in, cpI_out, q4]
          omega
end
