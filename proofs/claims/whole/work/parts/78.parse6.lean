/-! ===== the text: the model's rules ===== -/
section
variable {x : RO} {d : Nat} {Q : QT} {I I0 : MI} {J : MJ} {n : Nat} {b : HV} {len a : Int}
def FaM (I : MI) (e : Int × Int) : Prop := I 92 19 = e.1 ∧ I 92 17 = e.2
theorem sp_123 {f : Int} : EX x (d + 1) 123 [.inr (.inr (.inl 92)), .inl f] I J Q = Q (some (.inl 0)) (up I 92 19 f) J := by
  simp (disch := omega) only [@g_123_0, @g_123_1, @g_123_2, @g_123_5, @g_123_6, @e_123, nlO_n, nlO_i, nlO_r, ret01_0, ret01_1, ret01_if, ret01_fi, true_and, Option.toList_some, Option.toList_none, List.cons_append, List.nil_append, ii_1, ii_0, ii_R, ij_1, ij_0, ij_R, ite_not, if_true, if_false, Int.one_ne_zero, one_e1, not_true_eq_false, not_false_eq_true, and_true, and_false, false_and, or_false, false_or, or_true, true_or, and_self, or_self, inr_n1000100, inr_n1000010, inr_n1000003, inr_n1000002, inr_n1000001, inr_n1000000, inr_n1, inr_0, inr_1, inr_2, inr_3, inr_4, inr_5, inr_6, inr_7, inr_8, inr_10, inr_11, inr_12, inr_13, inr_14, inr_15, inr_16, inr_20, inr_21, inr_22, inr_23, inr_24, inr_29, inr_30, inr_31, inr_32, inr_39, inr_40, inr_44, inr_48, inr_53, inr_54, inr_57, inr_59, inr_63, inr_97, inr_100, inr_101, inr_102, inr_104, inr_105, inr_106, inr_110, inr_112, inr_116, inr_120, inr_122, inr_144, inr_255, inr_256, inr_320, inr_552, inr_576, inr_999, inr_1000, inr_1023, inr_1024, inr_2048, inr_1000000, inr_252645135, inr_858993459, inr_1431655765, okO_92, okF_92_0, rfN_92_0, okF_92_2, rfN_92_2, okF_92_3, rfN_92_3, okF_92_4, rfN_92_4, okF_92_6, rfN_92_6, okF_92_7, rfN_92_7, okF_92_8, rfN_92_8, okF_92_9, rfN_92_9, okF_92_10, rfN_92_10, okF_92_11, rfN_92_11, okF_92_20, rfN_92_20, okF_92_21, rfN_92_21, okF_92_22, rfN_92_22, okF_92_23, rfN_92_23, okF_92_25, rfN_92_25, okF_92_26, rfN_92_26, okF_92_27, rfN_92_27]
theorem fg_0 (T : TPm I b len) (a0 : 0 ≤ a) (a1 : a ≤ len) (h : ¬ (48 ≤ byA b len a ∧ byA b len a ≤ 57)) : (fgV b len a).1 = 0 := by
  unfold fgV
  by_cases hz : a < len
  · have hb : byA b len a = b a := if_pos hz
    rw [hb] at h
    rw [show (len - a).toNat = (len - (a + 1)).toNat + 1 by omega, scN_s, if_neg h]
  · rw [show (len - a).toNat = 0 by omega]
    rfl
theorem fg_1 (T : TPm I b len) (a0 : 0 ≤ a) (a1 : a ≤ len) (h : 48 ≤ byA b len a ∧ byA b len a ≤ 57) : 1 ≤ (fgV b len a).1 := by
  have hz : a < len := by
    by_cases hz : a < len
    · exact hz
    · unfold byA at h
      rw [if_neg hz] at h
      omega
  have hb : byA b len a = b a := if_pos hz
  rw [hb] at h
  unfold fgV
  rw [show (len - a).toNat = (len - (a + 1)).toNat + 1 by omega, scN_s, if_pos h]
  exact (scN_ok _ _ _ _ (vOk_s ⟨by omega, by omega, by omega, by omega, by omega, by omega⟩ h.1 h.2)).2.1
theorem tk_R (T : TPm I b len) (a0 : 0 ≤ a) (a1 : a ≤ len) : 0 ≤ (tkO b len a).1 ∧ (tkO b len a).1 ≤ 4 ∧ -1 ≤ (tkO b len a).2.1 ∧ (tkO b len a).2.1 ≤ 999 := by
  have hR := byA_R2 T a0
  have hs := scN_ok (b := b) (len := len) (len - a).toNat a 0 0 ⟨by omega, by omega, by omega, by omega, by omega, by omega⟩
  have hs1 : vOk (fgV b len a).1 (fgV b len a).2 := hs.1
  obtain ⟨z1, z2, z3, -⟩ := hs1
  unfold tkO
  (repeat' split) <;> refine ⟨?_, ?_, ?_, ?_⟩ <;> simp only [] <;> omega
/-- a number -/
theorem sp_124 {p lo hi : Int} (T : TPm I b len) (h1 : I 92 15 = a) (a0 : 0 ≤ a) (a1 : a ≤ len) (p0 : 0 ≤ p) (p1 : p < 53) (lo0 : 0 ≤ lo) (lo1 : lo ≤ 300) (hi0 : -1 ≤ hi) (hi1 : hi ≤ 300) (hf : ∀ I' e, pNum b len a lo hi = .inl e → Km I I' → FaM I' e → Q (some (.inl 0)) I' J) (hk : ∀ I' q, pNum b len a lo hi = .inr q → Km I I' → I' 92 15 = q.1 → I' 95 = sv (I 95) p q.2 → Q (some (.inl 1)) I' J) : EX x (d + 3) 124 [.inr (.inr (.inl 92)), .inl p, .inl lo, .inl hi] I J Q := by
  have t3 := T.2.2.1
  have hR := byA_R2 T a0
  have hs := scN_ok (b := b) (len := len) (len - a).toNat a 0 0 ⟨by omega, by omega, by omega, by omega, by omega, by omega⟩
  have hs1 : vOk (fgV b len a).1 (fgV b len a).2 := hs.1
  obtain ⟨z1, z2, z3, -⟩ := hs1
  have tr := tk_R T a0 a1
  simp (disch := omega) only [@g_124_0, @g_124_1, @g_124_4, @g_124_5, @g_124_8, @g_124_9, @g_124_12, @g_124_13, @g_124_14, @g_124_17, @g_124_18, @g_124_19, @g_124_22, @g_124_23, @g_124_24, @g_124_27, @g_124_28, @g_124_29, @g_124_32, @g_124_33, @g_124_34, @g_124_37, @g_124_40, @g_124_41, @g_124_42, @g_124_45, @g_124_48, @g_124_49, @g_124_52, @g_124_53, @e_124, nlO_n, nlO_i, nlO_r, ret01_0, ret01_1, ret01_if, ret01_fi, true_and, Option.toList_some, Option.toList_none, List.cons_append, List.nil_append, ii_1, ii_0, ii_R, ij_1, ij_0, ij_R, ite_not, if_true, if_false, Int.one_ne_zero, one_e1, not_true_eq_false, not_false_eq_true, and_true, and_false, false_and, or_false, false_or, or_true, true_or, and_self, or_self, inr_n1000100, inr_n1000010, inr_n1000003, inr_n1000002, inr_n1000001, inr_n1000000, inr_n1, inr_0, inr_1, inr_2, inr_3, inr_4, inr_5, inr_6, inr_7, inr_8, inr_10, inr_11, inr_12, inr_13, inr_14, inr_15, inr_16, inr_20, inr_21, inr_22, inr_23, inr_24, inr_29, inr_30, inr_31, inr_32, inr_39, inr_40, inr_44, inr_48, inr_53, inr_54, inr_57, inr_59, inr_63, inr_97, inr_100, inr_101, inr_102, inr_104, inr_105, inr_106, inr_110, inr_112, inr_116, inr_120, inr_122, inr_144, inr_255, inr_256, inr_320, inr_552, inr_576, inr_999, inr_1000, inr_1023, inr_1024, inr_2048, inr_1000000, inr_252645135, inr_858993459, inr_1431655765, okO_92, okF_92_0, rfN_92_0, okF_92_2, rfN_92_2, okF_92_3, rfN_92_3, okF_92_4, rfN_92_4, okF_92_6, rfN_92_6, okF_92_7, rfN_92_7, okF_92_8, rfN_92_8, okF_92_9, rfN_92_9, okF_92_10, rfN_92_10, okF_92_11, rfN_92_11, okF_92_20, rfN_92_20, okF_92_21, rfN_92_21, okF_92_22, rfN_92_22, okF_92_23, rfN_92_23, okF_92_25, rfN_92_25, okF_92_26, rfN_92_26, okF_92_27, rfN_92_27]
  refine sp_122 T h1 a0 a1 (fun I1 hI => ?_)
  obtain ⟨q1, q2, q3, q4, q5, q6, q7⟩ := hI
  by_cases hd : 48 ≤ byA b len a ∧ byA b len a ≤ 57
  · have f1 := fg_1 T a0 a1 hd
    have eo : tkO b len a = ((if 3 < (fgV b len a).1 then 4 else 2), ((fgV b len a).2, a + (fgV b len a).1)) := by
      unfold tkO
      rw [if_neg (by omega), if_neg (by omega), if_pos hd]
    rw [eo] at q5 q6 q7
    have q6 : I1 92 18 = (fgV b len a).2 := q6
    have q7 : I1 92 15 = a + (fgV b len a).1 := q7
    unfold pNum at hf hk
    by_cases h3 : 3 < (fgV b len a).1
    · have q5 : I1 92 16 = 4 := by rw [q5]; exact if_pos h3
      rw [if_pos (by omega)] at hf
      simp (disch := omega) only [@g_124_0, @g_124_1, @g_124_4, @g_124_5, @g_124_8, @g_124_9, @g_124_12, @g_124_13, @g_124_14, @g_124_17, @g_124_18, @g_124_19, @g_124_22, @g_124_23, @g_124_24, @g_124_27, @g_124_28, @g_124_29, @g_124_32, @g_124_33, @g_124_34, @g_124_37, @g_124_40, @g_124_41, @g_124_42, @g_124_45, @g_124_48, @g_124_49, @g_124_52, @g_124_53, nlO_n, nlO_i, nlO_r, ret01_0, ret01_1, ret01_if, ret01_fi, true_and, Option.toList_some, Option.toList_none, List.cons_append, List.nil_append, ii_1, ii_0, ii_R, ij_1, ij_0, ij_R, ite_not, if_true, if_false, Int.one_ne_zero, one_e1, not_true_eq_false, not_false_eq_true, and_true, and_false, false_and, or_false, false_or, or_true, true_or, and_self, or_self, inr_n1000100, inr_n1000010, inr_n1000003, inr_n1000002, inr_n1000001, inr_n1000000, inr_n1, inr_0, inr_1, inr_2, inr_3, inr_4, inr_5, inr_6, inr_7, inr_8, inr_10, inr_11, inr_12, inr_13, inr_14, inr_15, inr_16, inr_20, inr_21, inr_22, inr_23, inr_24, inr_29, inr_30, inr_31, inr_32, inr_39, inr_40, inr_44, inr_48, inr_53, inr_54, inr_57, inr_59, inr_63, inr_97, inr_100, inr_101, inr_102, inr_104, inr_105, inr_106, inr_110, inr_112, inr_116, inr_120, inr_122, inr_144, inr_255, inr_256, inr_320, inr_552, inr_576, inr_999, inr_1000, inr_1023, inr_1024, inr_2048, inr_1000000, inr_252645135, inr_858993459, inr_1431655765, okO_92, okF_92_0, rfN_92_0, okF_92_2, rfN_92_2, okF_92_3, rfN_92_3, okF_92_4, rfN_92_4, okF_92_6, rfN_92_6, okF_92_7, rfN_92_7, okF_92_8, rfN_92_8, okF_92_9, rfN_92_9, okF_92_10, rfN_92_10, okF_92_11, rfN_92_11, okF_92_20, rfN_92_20, okF_92_21, rfN_92_21, okF_92_22, rfN_92_22, okF_92_23, rfN_92_23, okF_92_25, rfN_92_25, okF_92_26, rfN_92_26, okF_92_27, rfN_92_27, o_R, o_le, o_lt, o_nlt, o_nle, o_eq, o_ne, q5, sp_123]
      refine hf _ (1, a) rfl (Km_trans q1 (Km_92 (by omega))) ⟨up_same, by rw [up_nj (by omega)]; exact q4⟩
    · have q5 : I1 92 16 = 2 := by rw [q5]; exact if_neg h3
      rw [if_neg (by omega)] at hf hk
      by_cases h4 : lo ≤ (fgV b len a).2 ∧ (fgV b len a).2 ≤ hi
      · rw [if_neg (by omega)] at hk
        simp (disch := omega) only [@g_124_0, @g_124_1, @g_124_4, @g_124_5, @g_124_8, @g_124_9, @g_124_12, @g_124_13, @g_124_14, @g_124_17, @g_124_18, @g_124_19, @g_124_22, @g_124_23, @g_124_24, @g_124_27, @g_124_28, @g_124_29, @g_124_32, @g_124_33, @g_124_34, @g_124_37, @g_124_40, @g_124_41, @g_124_42, @g_124_45, @g_124_48, @g_124_49, @g_124_52, @g_124_53, nlO_n, nlO_i, nlO_r, ret01_0, ret01_1, ret01_if, ret01_fi, true_and, Option.toList_some, Option.toList_none, List.cons_append, List.nil_append, ii_1, ii_0, ii_R, ij_1, ij_0, ij_R, ite_not, if_true, if_false, Int.one_ne_zero, one_e1, not_true_eq_false, not_false_eq_true, and_true, and_false, false_and, or_false, false_or, or_true, true_or, and_self, or_self, inr_n1000100, inr_n1000010, inr_n1000003, inr_n1000002, inr_n1000001, inr_n1000000, inr_n1, inr_0, inr_1, inr_2, inr_3, inr_4, inr_5, inr_6, inr_7, inr_8, inr_10, inr_11, inr_12, inr_13, inr_14, inr_15, inr_16, inr_20, inr_21, inr_22, inr_23, inr_24, inr_29, inr_30, inr_31, inr_32, inr_39, inr_40, inr_44, inr_48, inr_53, inr_54, inr_57, inr_59, inr_63, inr_97, inr_100, inr_101, inr_102, inr_104, inr_105, inr_106, inr_110, inr_112, inr_116, inr_120, inr_122, inr_144, inr_255, inr_256, inr_320, inr_552, inr_576, inr_999, inr_1000, inr_1023, inr_1024, inr_2048, inr_1000000, inr_252645135, inr_858993459, inr_1431655765, okO_92, okF_92_0, rfN_92_0, okF_92_2, rfN_92_2, okF_92_3, rfN_92_3, okF_92_4, rfN_92_4, okF_92_6, rfN_92_6, okF_92_7, rfN_92_7, okF_92_8, rfN_92_8, okF_92_9, rfN_92_9, okF_92_10, rfN_92_10, okF_92_11, rfN_92_11, okF_92_20, rfN_92_20, okF_92_21, rfN_92_21, okF_92_22, rfN_92_22, okF_92_23, rfN_92_23, okF_92_25, rfN_92_25, okF_92_26, rfN_92_26, okF_92_27, rfN_92_27, okA_95, lnN_95, o_R, o_le, o_lt, o_nlt, o_nle, o_eq, o_ne, q5, q6, sp_109, up_ne]
        refine hk _ _ rfl (Km_trans q1 Km_95) (by rw [up_ne (by omega)]; exact q7) ?_
        funext j
        unfold sv
        by_cases hj : j = p
        · rw [if_pos hj, hj, up_same]
        · rw [if_neg hj, up_nj hj, q2]
      · rw [if_pos (by omega)] at hf
        simp (disch := omega) only [@g_124_0, @g_124_1, @g_124_4, @g_124_5, @g_124_8, @g_124_9, @g_124_12, @g_124_13, @g_124_14, @g_124_17, @g_124_18, @g_124_19, @g_124_22, @g_124_23, @g_124_24, @g_124_27, @g_124_28, @g_124_29, @g_124_32, @g_124_33, @g_124_34, @g_124_37, @g_124_40, @g_124_41, @g_124_42, @g_124_45, @g_124_48, @g_124_49, @g_124_52, @g_124_53, nlO_n, nlO_i, nlO_r, ret01_0, ret01_1, ret01_if, ret01_fi, true_and, Option.toList_some, Option.toList_none, List.cons_append, List.nil_append, ii_1, ii_0, ii_R, ij_1, ij_0, ij_R, ite_not, if_true, if_false, Int.one_ne_zero, one_e1, not_true_eq_false, not_false_eq_true, and_true, and_false, false_and, or_false, false_or, or_true, true_or, and_self, or_self, inr_n1000100, inr_n1000010, inr_n1000003, inr_n1000002, inr_n1000001, inr_n1000000, inr_n1, inr_0, inr_1, inr_2, inr_3, inr_4, inr_5, inr_6, inr_7, inr_8, inr_10, inr_11, inr_12, inr_13, inr_14, inr_15, inr_16, inr_20, inr_21, inr_22, inr_23, inr_24, inr_29, inr_30, inr_31, inr_32, inr_39, inr_40, inr_44, inr_48, inr_53, inr_54, inr_57, inr_59, inr_63, inr_97, inr_100, inr_101, inr_102, inr_104, inr_105, inr_106, inr_110, inr_112, inr_116, inr_120, inr_122, inr_144, inr_255, inr_256, inr_320, inr_552, inr_576, inr_999, inr_1000, inr_1023, inr_1024, inr_2048, inr_1000000, inr_252645135, inr_858993459, inr_1431655765, okO_92, okF_92_0, rfN_92_0, okF_92_2, rfN_92_2, okF_92_3, rfN_92_3, okF_92_4, rfN_92_4, okF_92_6, rfN_92_6, okF_92_7, rfN_92_7, okF_92_8, rfN_92_8, okF_92_9, rfN_92_9, okF_92_10, rfN_92_10, okF_92_11, rfN_92_11, okF_92_20, rfN_92_20, okF_92_21, rfN_92_21, okF_92_22, rfN_92_22, okF_92_23, rfN_92_23, okF_92_25, rfN_92_25, okF_92_26, rfN_92_26, okF_92_27, rfN_92_27, okA_95, lnN_95, o_R, o_lt, o_le, o_eq, o_ne, q5, q6, sp_109, up_ne, h4, sp_123]
        refine hf _ (2, a) rfl (Km_trans (Km_trans q1 Km_95) (Km_92 (by omega))) ⟨up_same, by rw [up_nj (by omega), up_ne (by omega)]; exact q4⟩
  · have f1 := fg_0 T a0 a1 hd
    have hn : (tkO b len a).1 ≠ 2 := by
      unfold tkO
      (repeat' split) <;> simp only [] <;> omega
    unfold pNum at hf
    rw [if_pos (by omega)] at hf
    simp (disch := omega) only [@g_124_0, @g_124_1, @g_124_4, @g_124_5, @g_124_8, @g_124_9, @g_124_12, @g_124_13, @g_124_14, @g_124_17, @g_124_18, @g_124_19, @g_124_22, @g_124_23, @g_124_24, @g_124_27, @g_124_28, @g_124_29, @g_124_32, @g_124_33, @g_124_34, @g_124_37, @g_124_40, @g_124_41, @g_124_42, @g_124_45, @g_124_48, @g_124_49, @g_124_52, @g_124_53, nlO_n, nlO_i, nlO_r, ret01_0, ret01_1, ret01_if, ret01_fi, true_and, Option.toList_some, Option.toList_none, List.cons_append, List.nil_append, ii_1, ii_0, ii_R, ij_1, ij_0, ij_R, ite_not, if_true, if_false, Int.one_ne_zero, one_e1, not_true_eq_false, not_false_eq_true, and_true, and_false, false_and, or_false, false_or, or_true, true_or, and_self, or_self, inr_n1000100, inr_n1000010, inr_n1000003, inr_n1000002, inr_n1000001, inr_n1000000, inr_n1, inr_0, inr_1, inr_2, inr_3, inr_4, inr_5, inr_6, inr_7, inr_8, inr_10, inr_11, inr_12, inr_13, inr_14, inr_15, inr_16, inr_20, inr_21, inr_22, inr_23, inr_24, inr_29, inr_30, inr_31, inr_32, inr_39, inr_40, inr_44, inr_48, inr_53, inr_54, inr_57, inr_59, inr_63, inr_97, inr_100, inr_101, inr_102, inr_104, inr_105, inr_106, inr_110, inr_112, inr_116, inr_120, inr_122, inr_144, inr_255, inr_256, inr_320, inr_552, inr_576, inr_999, inr_1000, inr_1023, inr_1024, inr_2048, inr_1000000, inr_252645135, inr_858993459, inr_1431655765, okO_92, okF_92_0, rfN_92_0, okF_92_2, rfN_92_2, okF_92_3, rfN_92_3, okF_92_4, rfN_92_4, okF_92_6, rfN_92_6, okF_92_7, rfN_92_7, okF_92_8, rfN_92_8, okF_92_9, rfN_92_9, okF_92_10, rfN_92_10, okF_92_11, rfN_92_11, okF_92_20, rfN_92_20, okF_92_21, rfN_92_21, okF_92_22, rfN_92_22, okF_92_23, rfN_92_23, okF_92_25, rfN_92_25, okF_92_26, rfN_92_26, okF_92_27, rfN_92_27, o_R, o_ne, q5, sp_123]
    refine hf _ (1, a) rfl (Km_trans q1 (Km_92 (by omega))) ⟨up_same, by rw [up_nj (by omega)]; exact q4⟩
/-- a sign -/
theorem sp_125 {c : Int} (T : TPm I b len) (h1 : I 92 15 = a) (a0 : 0 ≤ a) (a1 : a ≤ len) (hc : c = 44 ∨ c = 59) (hf : ∀ I' e, pSgn b len a c = .inl e → Km I I' → FaM I' e → Q (some (.inl 0)) I' J) (hk : ∀ I' a2, pSgn b len a c = .inr a2 → Km I I' → I' 92 15 = a2 → I' 95 = I 95 → Q (some (.inl 1)) I' J) : EX x (d + 3) 125 [.inr (.inr (.inl 92)), .inl c] I J Q := by
  have t3 := T.2.2.1
  have hR := byA_R2 T a0
  have tr := tk_R T a0 a1
  simp (disch := omega) only [@g_125_0, @g_125_1, @g_125_4, @g_125_5, @g_125_8, @g_125_9, @g_125_12, @g_125_13, @g_125_16, @g_125_17, @g_125_20, @g_125_21, @g_125_22, @g_125_25, @g_125_28, @g_125_29, @g_125_32, @g_125_33, @e_125, nlO_n, nlO_i, nlO_r, ret01_0, ret01_1, ret01_if, ret01_fi, true_and, Option.toList_some, Option.toList_none, List.cons_append, List.nil_append, ii_1, ii_0, ii_R, ij_1, ij_0, ij_R, ite_not, if_true, if_false, Int.one_ne_zero, one_e1, not_true_eq_false, not_false_eq_true, and_true, and_false, false_and, or_false, false_or, or_true, true_or, and_self, or_self, inr_n1000100, inr_n1000010, inr_n1000003, inr_n1000002, inr_n1000001, inr_n1000000, inr_n1, inr_0, inr_1, inr_2, inr_3, inr_4, inr_5, inr_6, inr_7, inr_8, inr_10, inr_11, inr_12, inr_13, inr_14, inr_15, inr_16, inr_20, inr_21, inr_22, inr_23, inr_24, inr_29, inr_30, inr_31, inr_32, inr_39, inr_40, inr_44, inr_48, inr_53, inr_54, inr_57, inr_59, inr_63, inr_97, inr_100, inr_101, inr_102, inr_104, inr_105, inr_106, inr_110, inr_112, inr_116, inr_120, inr_122, inr_144, inr_255, inr_256, inr_320, inr_552, inr_576, inr_999, inr_1000, inr_1023, inr_1024, inr_2048, inr_1000000, inr_252645135, inr_858993459, inr_1431655765, okO_92, okF_92_0, rfN_92_0, okF_92_2, rfN_92_2, okF_92_3, rfN_92_3, okF_92_4, rfN_92_4, okF_92_6, rfN_92_6, okF_92_7, rfN_92_7, okF_92_8, rfN_92_8, okF_92_9, rfN_92_9, okF_92_10, rfN_92_10, okF_92_11, rfN_92_11, okF_92_20, rfN_92_20, okF_92_21, rfN_92_21, okF_92_22, rfN_92_22, okF_92_23, rfN_92_23, okF_92_25, rfN_92_25, okF_92_26, rfN_92_26, okF_92_27, rfN_92_27]
  refine sp_122 T h1 a0 a1 (fun I1 hI => ?_)
  obtain ⟨q1, q2, q3, q4, q5, q6, q7⟩ := hI
  unfold pSgn at hf hk
  by_cases hd : byA b len a = c
  · rw [if_pos hd] at hk
    have eo : tkO b len a = (3, (byA b len a, a + 1)) := by
      unfold tkO
      rw [if_neg (by omega), if_neg (by omega), if_neg (by omega), if_pos (by omega)]
    rw [eo] at q5 q6 q7
    have q5 : I1 92 16 = 3 := q5
    have q6 : I1 92 18 = byA b len a := q6
    have q7 : I1 92 15 = a + 1 := q7
    simp (disch := omega) only [@g_125_0, @g_125_1, @g_125_4, @g_125_5, @g_125_8, @g_125_9, @g_125_12, @g_125_13, @g_125_16, @g_125_17, @g_125_20, @g_125_21, @g_125_22, @g_125_25, @g_125_28, @g_125_29, @g_125_32, @g_125_33, nlO_n, nlO_i, nlO_r, ret01_0, ret01_1, ret01_if, ret01_fi, true_and, Option.toList_some, Option.toList_none, List.cons_append, List.nil_append, ii_1, ii_0, ii_R, ij_1, ij_0, ij_R, ite_not, if_true, if_false, Int.one_ne_zero, one_e1, not_true_eq_false, not_false_eq_true, and_true, and_false, false_and, or_false, false_or, or_true, true_or, and_self, or_self, inr_n1000100, inr_n1000010, inr_n1000003, inr_n1000002, inr_n1000001, inr_n1000000, inr_n1, inr_0, inr_1, inr_2, inr_3, inr_4, inr_5, inr_6, inr_7, inr_8, inr_10, inr_11, inr_12, inr_13, inr_14, inr_15, inr_16, inr_20, inr_21, inr_22, inr_23, inr_24, inr_29, inr_30, inr_31, inr_32, inr_39, inr_40, inr_44, inr_48, inr_53, inr_54, inr_57, inr_59, inr_63, inr_97, inr_100, inr_101, inr_102, inr_104, inr_105, inr_106, inr_110, inr_112, inr_116, inr_120, inr_122, inr_144, inr_255, inr_256, inr_320, inr_552, inr_576, inr_999, inr_1000, inr_1023, inr_1024, inr_2048, inr_1000000, inr_252645135, inr_858993459, inr_1431655765, okO_92, okF_92_0, rfN_92_0, okF_92_2, rfN_92_2, okF_92_3, rfN_92_3, okF_92_4, rfN_92_4, okF_92_6, rfN_92_6, okF_92_7, rfN_92_7, okF_92_8, rfN_92_8, okF_92_9, rfN_92_9, okF_92_10, rfN_92_10, okF_92_11, rfN_92_11, okF_92_20, rfN_92_20, okF_92_21, rfN_92_21, okF_92_22, rfN_92_22, okF_92_23, rfN_92_23, okF_92_25, rfN_92_25, okF_92_26, rfN_92_26, okF_92_27, rfN_92_27, o_R, o_le, o_lt, o_nlt, o_nle, o_eq, o_ne, q5, q6]
    exact hk I1 _ rfl q1 q7 q2
  · rw [if_neg hd] at hf
    have fin : Q (some (.inl 0)) (up I1 92 19 1) J := hf _ (1, a) rfl (Km_trans q1 (Km_92 (by omega))) ⟨up_same, by rw [up_nj (by omega)]; exact q4⟩
    by_cases h3 : (tkO b len a).1 = 3
    · have hv : (tkO b len a).2.1 ≠ c := by
        unfold tkO at h3 ⊢
        (repeat' split at h3) <;> first | (exact absurd h3 (by decide)) | skip
        all_goals try (rename_i g1 g2 g3 g4; rw [if_neg g1, if_neg g2, if_neg g3, if_pos g4]; exact hd)
        all_goals try omega
      have hv' : (I1 92 18 = c) = False := eq_false (by rw [q6]; exact hv)
      simp (disch := omega) only [@g_125_0, @g_125_1, @g_125_4, @g_125_5, @g_125_8, @g_125_9, @g_125_12, @g_125_13, @g_125_16, @g_125_17, @g_125_20, @g_125_21, @g_125_22, @g_125_25, @g_125_28, @g_125_29, @g_125_32, @g_125_33, nlO_n, nlO_i, nlO_r, ret01_0, ret01_1, ret01_if, ret01_fi, true_and, Option.toList_some, Option.toList_none, List.cons_append, List.nil_append, ii_1, ii_0, ii_R, ij_1, ij_0, ij_R, ite_not, if_true, if_false, Int.one_ne_zero, one_e1, not_true_eq_false, not_false_eq_true, and_true, and_false, false_and, or_false, false_or, or_true, true_or, and_self, or_self, inr_n1000100, inr_n1000010, inr_n1000003, inr_n1000002, inr_n1000001, inr_n1000000, inr_n1, inr_0, inr_1, inr_2, inr_3, inr_4, inr_5, inr_6, inr_7, inr_8, inr_10, inr_11, inr_12, inr_13, inr_14, inr_15, inr_16, inr_20, inr_21, inr_22, inr_23, inr_24, inr_29, inr_30, inr_31, inr_32, inr_39, inr_40, inr_44, inr_48, inr_53, inr_54, inr_57, inr_59, inr_63, inr_97, inr_100, inr_101, inr_102, inr_104, inr_105, inr_106, inr_110, inr_112, inr_116, inr_120, inr_122, inr_144, inr_255, inr_256, inr_320, inr_552, inr_576, inr_999, inr_1000, inr_1023, inr_1024, inr_2048, inr_1000000, inr_252645135, inr_858993459, inr_1431655765, okO_92, okF_92_0, rfN_92_0, okF_92_2, rfN_92_2, okF_92_3, rfN_92_3, okF_92_4, rfN_92_4, okF_92_6, rfN_92_6, okF_92_7, rfN_92_7, okF_92_8, rfN_92_8, okF_92_9, rfN_92_9, okF_92_10, rfN_92_10, okF_92_11, rfN_92_11, okF_92_20, rfN_92_20, okF_92_21, rfN_92_21, okF_92_22, rfN_92_22, okF_92_23, rfN_92_23, okF_92_25, rfN_92_25, okF_92_26, rfN_92_26, okF_92_27, rfN_92_27, o_R, o_eq, q5, hv', sp_123]
      exact fin
    · simp (disch := omega) only [@g_125_0, @g_125_1, @g_125_4, @g_125_5, @g_125_8, @g_125_9, @g_125_12, @g_125_13, @g_125_16, @g_125_17, @g_125_20, @g_125_21, @g_125_22, @g_125_25, @g_125_28, @g_125_29, @g_125_32, @g_125_33, nlO_n, nlO_i, nlO_r, ret01_0, ret01_1, ret01_if, ret01_fi, true_and, Option.toList_some, Option.toList_none, List.cons_append, List.nil_append, ii_1, ii_0, ii_R, ij_1, ij_0, ij_R, ite_not, if_true, if_false, Int.one_ne_zero, one_e1, not_true_eq_false, not_false_eq_true, and_true, and_false, false_and, or_false, false_or, or_true, true_or, and_self, or_self, inr_n1000100, inr_n1000010, inr_n1000003, inr_n1000002, inr_n1000001, inr_n1000000, inr_n1, inr_0, inr_1, inr_2, inr_3, inr_4, inr_5, inr_6, inr_7, inr_8, inr_10, inr_11, inr_12, inr_13, inr_14, inr_15, inr_16, inr_20, inr_21, inr_22, inr_23, inr_24, inr_29, inr_30, inr_31, inr_32, inr_39, inr_40, inr_44, inr_48, inr_53, inr_54, inr_57, inr_59, inr_63, inr_97, inr_100, inr_101, inr_102, inr_104, inr_105, inr_106, inr_110, inr_112, inr_116, inr_120, inr_122, inr_144, inr_255, inr_256, inr_320, inr_552, inr_576, inr_999, inr_1000, inr_1023, inr_1024, inr_2048, inr_1000000, inr_252645135, inr_858993459, inr_1431655765, okO_92, okF_92_0, rfN_92_0, okF_92_2, rfN_92_2, okF_92_3, rfN_92_3, okF_92_4, rfN_92_4, okF_92_6, rfN_92_6, okF_92_7, rfN_92_7, okF_92_8, rfN_92_8, okF_92_9, rfN_92_9, okF_92_10, rfN_92_10, okF_92_11, rfN_92_11, okF_92_20, rfN_92_20, okF_92_21, rfN_92_21, okF_92_22, rfN_92_22, okF_92_23, rfN_92_23, okF_92_25, rfN_92_25, okF_92_26, rfN_92_26, okF_92_27, rfN_92_27, o_R, o_ne, q5, sp_123]
      exact fin
end
