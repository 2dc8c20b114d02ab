/-! ===== the class: worn, behind, open ===== -/
section
variable {x : RO} {d : Nat} {Q : QT} {I : MI} {J : MJ} {B : Int} {g : HV}
theorem enc_pos {v : Int} (h : 0 ≤ v) : encN v = v := by unfold encN; rw [if_neg (by omega)]
theorem enc_neg {v : Int} (h : v < 0) : encN v = -1000000 := by unfold encN; rw [if_pos h]
theorem kind4 {k : Int} (h0 : 1 ≤ k) (h1 : k ≤ 5) : (kindB k 4 = true) = (4 ≤ k) := by
  have hc : k = 1 ∨ k = 2 ∨ k = 3 ∨ k = 4 ∨ k = 5 := by omega
  rcases hc with rfl | rfl | rfl | rfl | rfl <;> exact propext (by decide)
theorem sp_20 {w hr : Int} {wh : Int → Int} (H : ROK B I 2 g) (h0 : 0 ≤ w) (h1 : w < g 1) (hw0 : -1 ≤ wh w) (hw1 : wh w ≤ 200000) (hr0 : 0 ≤ hr) (hr1 : hr ≤ 200000) : EX x (d + 3) 20 [.inr (.inr (.inl 2)), .inl w, .inl (encN (wh w)), .inl hr] I J Q = Q (some (.inl (if wornB g wh hr w = true then 1 else 0))) I J := by
  have hb := B_1 H.1
  have hs := B_s H.1 h0 h1
  have hm := B_3 H.1 hs
  have hk := B_w H.1 h0 h1
  have e1 := H_1 H hs
  have e2 := (H_w H h0 h1).1
  have k4 := kind4 hk.1 hk.2.1
  unfold wornB
  by_cases c1 : wh w < 0
  · rw [enc_neg c1]
    simp (disch := omega) only [@g_20_0, @g_20_1, @g_20_3, @g_20_6, @g_20_7, @g_20_8, @g_20_9, @g_20_10, @g_20_13, @g_20_16, @g_20_17, @g_20_18, @g_20_21, @g_20_24, @g_20_25, @g_20_28, @g_20_29, @h_20_29, @g_20_30, @g_20_31, @g_20_34, @g_20_37, @g_20_38, @g_20_41, @g_20_42, @e_20, nlO_n, nlO_i, nlO_r, ret01_0, ret01_1, ret01_if, ret01_fi, true_and, Option.toList_some, Option.toList_none, List.cons_append, List.nil_append, ii_1, ii_0, ii_R, ij_1, ij_0, ij_R, ite_not, if_true, if_false, Int.one_ne_zero, one_e1, not_true_eq_false, not_false_eq_true, and_true, and_false, false_and, or_false, false_or, or_true, true_or, and_self, or_self, inr_n1000100, inr_n1000010, inr_n1000003, inr_n1000002, inr_n1000001, inr_n1000000, inr_n1, inr_0, inr_1, inr_2, inr_3, inr_4, inr_5, inr_6, inr_7, inr_8, inr_10, inr_11, inr_12, inr_13, inr_14, inr_15, inr_16, inr_20, inr_21, inr_22, inr_23, inr_24, inr_29, inr_30, inr_31, inr_32, inr_39, inr_40, inr_44, inr_48, inr_53, inr_54, inr_57, inr_59, inr_63, inr_97, inr_100, inr_101, inr_102, inr_104, inr_105, inr_106, inr_110, inr_112, inr_116, inr_120, inr_122, inr_144, inr_255, inr_256, inr_320, inr_552, inr_576, inr_999, inr_1000, inr_1023, inr_1024, inr_2048, inr_1000000, inr_252645135, inr_858993459, inr_1431655765, o_R, o_le, o_lt, o_nlt, o_nle, o_eq, o_ne, Bool.and_eq_true, decide_eq_true_eq, and_false, false_and]
  · rw [enc_pos (by omega)]
    have c2 : I 4 w = g (8 + w) := e2
    simp (disch := omega) only [@g_20_0, @g_20_1, @g_20_3, @g_20_6, @g_20_7, @g_20_8, @g_20_9, @g_20_10, @g_20_13, @g_20_16, @g_20_17, @g_20_18, @g_20_21, @g_20_24, @g_20_25, @g_20_28, @g_20_29, @h_20_29, @g_20_30, @g_20_31, @g_20_34, @g_20_37, @g_20_38, @g_20_41, @g_20_42, @e_20, nlO_n, nlO_i, nlO_r, ret01_0, ret01_1, ret01_if, ret01_fi, true_and, Option.toList_some, Option.toList_none, List.cons_append, List.nil_append, ii_1, ii_0, ii_R, ij_1, ij_0, ij_R, ite_not, if_true, if_false, Int.one_ne_zero, one_e1, not_true_eq_false, not_false_eq_true, and_true, and_false, false_and, or_false, false_or, or_true, true_or, and_self, or_self, inr_n1000100, inr_n1000010, inr_n1000003, inr_n1000002, inr_n1000001, inr_n1000000, inr_n1, inr_0, inr_1, inr_2, inr_3, inr_4, inr_5, inr_6, inr_7, inr_8, inr_10, inr_11, inr_12, inr_13, inr_14, inr_15, inr_16, inr_20, inr_21, inr_22, inr_23, inr_24, inr_29, inr_30, inr_31, inr_32, inr_39, inr_40, inr_44, inr_48, inr_53, inr_54, inr_57, inr_59, inr_63, inr_97, inr_100, inr_101, inr_102, inr_104, inr_105, inr_106, inr_110, inr_112, inr_116, inr_120, inr_122, inr_144, inr_255, inr_256, inr_320, inr_552, inr_576, inr_999, inr_1000, inr_1023, inr_1024, inr_2048, inr_1000000, inr_252645135, inr_858993459, inr_1431655765, okO_2, okF_2_2, rfN_2_2, okF_2_4, rfN_2_4, okF_2_5, rfN_2_5, okF_2_6, rfN_2_6, okF_2_7, rfN_2_7, okF_2_9, rfN_2_9, okF_2_10, rfN_2_10, okA_4, lnN_4, o_R, o_le, o_lt, o_nlt, o_nle, o_eq, o_ne, e1, c2, sp_16y H h0 h1, sp_107, k4, Bool.and_eq_true, decide_eq_true_eq, and_true, true_and]
    (repeat' split) <;> first | rfl | (exfalso; omega)
theorem sp_21 {w l : Int} (H : ROK B I 2 g) (h0 : 0 ≤ w) (h1 : w < g 1) (hl0 : -1 ≤ l) (hl1 : l ≤ 3) : EX x (d + 2) 21 [.inr (.inr (.inl 2)), .inl w, .inl l] I J Q = Q (some (.inl (if comesB g w l = true then 1 else 0))) I J := by
  have hb := B_1 H.1
  have hs := B_s H.1 h0 h1
  have hk := B_w H.1 h0 h1
  have e2 : I 4 w = g (8 + w) := (H_w H h0 h1).1
  have e3 : I 5 w = g (16 + w) := (H_w H h0 h1).2.1
  unfold comesB
  by_cases c1 : l < 0
  · simp (disch := omega) only [@g_21_0, @g_21_1, @g_21_2, @g_21_5, @g_21_8, @g_21_9, @g_21_10, @g_21_11, @g_21_14, @g_21_15, @g_21_16, @g_21_19, @g_21_20, @g_21_21, @g_21_22, @g_21_25, @g_21_26, @h_21_26, @g_21_27, @g_21_28, @g_21_31, @g_21_32, @g_21_35, @g_21_36, @h_21_36, @g_21_37, @g_21_38, @g_21_41, @g_21_42, @g_21_43, @g_21_44, @g_21_47, @g_21_48, @h_21_48, @g_21_49, @g_21_50, @g_21_53, @g_21_54, @h_21_54, @g_21_55, @g_21_58, @e_21, nlO_n, nlO_i, nlO_r, ret01_0, ret01_1, ret01_if, ret01_fi, true_and, Option.toList_some, Option.toList_none, List.cons_append, List.nil_append, ii_1, ii_0, ii_R, ij_1, ij_0, ij_R, ite_not, if_true, if_false, Int.one_ne_zero, one_e1, not_true_eq_false, not_false_eq_true, and_true, and_false, false_and, or_false, false_or, or_true, true_or, and_self, or_self, inr_n1000100, inr_n1000010, inr_n1000003, inr_n1000002, inr_n1000001, inr_n1000000, inr_n1, inr_0, inr_1, inr_2, inr_3, inr_4, inr_5, inr_6, inr_7, inr_8, inr_10, inr_11, inr_12, inr_13, inr_14, inr_15, inr_16, inr_20, inr_21, inr_22, inr_23, inr_24, inr_29, inr_30, inr_31, inr_32, inr_39, inr_40, inr_44, inr_48, inr_53, inr_54, inr_57, inr_59, inr_63, inr_97, inr_100, inr_101, inr_102, inr_104, inr_105, inr_106, inr_110, inr_112, inr_116, inr_120, inr_122, inr_144, inr_255, inr_256, inr_320, inr_552, inr_576, inr_999, inr_1000, inr_1023, inr_1024, inr_2048, inr_1000000, inr_252645135, inr_858993459, inr_1431655765, okO_2, okF_2_2, rfN_2_2, okF_2_4, rfN_2_4, okF_2_5, rfN_2_5, okF_2_6, rfN_2_6, okF_2_7, rfN_2_7, okF_2_9, rfN_2_9, okF_2_10, rfN_2_10, okA_3, lnN_3, okA_4, lnN_4, okA_5, lnN_5, sp_16y H h0 h1, o_R, o_le, o_lt, o_nlt, o_nle, o_eq, o_ne, Bool.or_eq_true, decide_eq_true_eq, true_or]
  · have e4 : I 3 l = g (4 + l) := H_b H hs (by omega) (by omega)
    have hbb := B_b H.1 hs (k := l) (by omega) (by omega)
    simp (disch := omega) only [@g_21_0, @g_21_1, @g_21_2, @g_21_5, @g_21_8, @g_21_9, @g_21_10, @g_21_11, @g_21_14, @g_21_15, @g_21_16, @g_21_19, @g_21_20, @g_21_21, @g_21_22, @g_21_25, @g_21_26, @h_21_26, @g_21_27, @g_21_28, @g_21_31, @g_21_32, @g_21_35, @g_21_36, @h_21_36, @g_21_37, @g_21_38, @g_21_41, @g_21_42, @g_21_43, @g_21_44, @g_21_47, @g_21_48, @h_21_48, @g_21_49, @g_21_50, @g_21_53, @g_21_54, @h_21_54, @g_21_55, @g_21_58, @e_21, nlO_n, nlO_i, nlO_r, ret01_0, ret01_1, ret01_if, ret01_fi, true_and, Option.toList_some, Option.toList_none, List.cons_append, List.nil_append, ii_1, ii_0, ii_R, ij_1, ij_0, ij_R, ite_not, if_true, if_false, Int.one_ne_zero, one_e1, not_true_eq_false, not_false_eq_true, and_true, and_false, false_and, or_false, false_or, or_true, true_or, and_self, or_self, inr_n1000100, inr_n1000010, inr_n1000003, inr_n1000002, inr_n1000001, inr_n1000000, inr_n1, inr_0, inr_1, inr_2, inr_3, inr_4, inr_5, inr_6, inr_7, inr_8, inr_10, inr_11, inr_12, inr_13, inr_14, inr_15, inr_16, inr_20, inr_21, inr_22, inr_23, inr_24, inr_29, inr_30, inr_31, inr_32, inr_39, inr_40, inr_44, inr_48, inr_53, inr_54, inr_57, inr_59, inr_63, inr_97, inr_100, inr_101, inr_102, inr_104, inr_105, inr_106, inr_110, inr_112, inr_116, inr_120, inr_122, inr_144, inr_255, inr_256, inr_320, inr_552, inr_576, inr_999, inr_1000, inr_1023, inr_1024, inr_2048, inr_1000000, inr_252645135, inr_858993459, inr_1431655765, okO_2, okF_2_2, rfN_2_2, okF_2_4, rfN_2_4, okF_2_5, rfN_2_5, okF_2_6, rfN_2_6, okF_2_7, rfN_2_7, okF_2_9, rfN_2_9, okF_2_10, rfN_2_10, okA_3, lnN_3, okA_4, lnN_4, okA_5, lnN_5, sp_16y H h0 h1, o_R, o_le, o_lt, o_nlt, o_nle, o_eq, o_ne, e2, e3, e4, sp_105, Bool.or_eq_true, Bool.and_eq_true, Bool.not_eq_true', decide_eq_true_eq, decide_eq_false_iff_not, false_or]
    by_cases c2 : g (8 + w) = 3
    · by_cases c3 : g (16 + w) = l
      · simp only [c2, c3, if_true, not_true_eq_false, or_self, and_false, if_false]
      · simp only [c2, c3, if_true, if_false, not_true_eq_false, not_false_eq_true, false_or, and_true]
    · simp only [c2, if_false, not_false_eq_true, true_or, and_true]
theorem openN_s {wh : Int → Int} {h l : Int} {n : Nat} : openN g wh h l (n + 1) = if mayB g wh h l n = true then orI (openN g wh h l n) (shlI 1 n) else openN g wh h l n := rfl
theorem c8_ok {c : Nat} (hc : c = 6 ∨ c = 48 ∨ c = 56) : okA c 20 = True ∧ lnN c = 8 ∧ okL c = True := by
  rcases hc with rfl | rfl | rfl
  · exact ⟨okA_6, lnN_6, eq_true (by unfold okL; decide)⟩
  · exact ⟨okA_48, lnN_48, eq_true (by unfold okL; decide)⟩
  · exact ⟨okA_56, lnN_56, eq_true (by unfold okL; decide)⟩
theorem lp_22 {c : Nat} {hr l : Int} {wh : Int → Int} (H : ROK B I 2 g) (hc : c = 6 ∨ c = 48 ∨ c = 56) (hA : ∀ w : Int, 0 ≤ w → w < g 1 → I c w = encN (wh w) ∧ -1 ≤ wh w ∧ wh w ≤ 200000) (hr0 : 0 ≤ hr) (hr1 : hr ≤ 200000) (hl0 : -1 ≤ l) (hl1 : l ≤ 3) :
    ∀ (m n : Nat), (n : Int) ≤ g 1 → (g 1 - n).toNat = m → GO x (d + 3) 22 Q 6 [some (.inr (.inr (.inl 2))), some (.inr (.inr (.inl c))), some (.inl hr), some (.inl l), some (.inl (openN g wh hr l n)), some (.inl n)] [] I J = Q (some (.inl (openN g wh hr l (g 1).toNat))) I J := by
  have hb := B_1 H.1
  obtain ⟨k1, k2, k3⟩ := c8_ok hc
  intro m
  induction m with
  | zero =>
    intro n h1 h2
    have e : (g 1).toNat = n := by omega
    rw [e]
    rw [@g_22_6]
    simp (disch := omega) only [@g_22_0, @g_22_1, @g_22_3, @g_22_4, @g_22_8, @g_22_9, @g_22_12, @g_22_15, @g_22_17, @g_22_18, @h_22_18, @g_22_19, @g_22_22, @g_22_23, @g_22_25, @g_22_26, @g_22_29, @g_22_32, @g_22_33, @g_22_35, @g_22_36, @g_22_38, @h_22_38, @g_22_39, @g_22_40, @g_22_43, @g_22_46, @g_22_48, @g_22_49, @g_22_51, @g_22_52, @g_22_53, @g_22_55, @g_22_58, @g_22_61, @g_22_63, @e_22, nlO_n, nlO_i, nlO_r, ret01_0, ret01_1, ret01_if, ret01_fi, true_and, Option.toList_some, Option.toList_none, List.cons_append, List.nil_append, ii_1, ii_0, ii_R, ij_1, ij_0, ij_R, ite_not, if_true, if_false, Int.one_ne_zero, one_e1, not_true_eq_false, not_false_eq_true, and_true, and_false, false_and, or_false, false_or, or_true, true_or, and_self, or_self, inr_n1000100, inr_n1000010, inr_n1000003, inr_n1000002, inr_n1000001, inr_n1000000, inr_n1, inr_0, inr_1, inr_2, inr_3, inr_4, inr_5, inr_6, inr_7, inr_8, inr_10, inr_11, inr_12, inr_13, inr_14, inr_15, inr_16, inr_20, inr_21, inr_22, inr_23, inr_24, inr_29, inr_30, inr_31, inr_32, inr_39, inr_40, inr_44, inr_48, inr_53, inr_54, inr_57, inr_59, inr_63, inr_97, inr_100, inr_101, inr_102, inr_104, inr_105, inr_106, inr_110, inr_112, inr_116, inr_120, inr_122, inr_144, inr_255, inr_256, inr_320, inr_552, inr_576, inr_999, inr_1000, inr_1023, inr_1024, inr_2048, inr_1000000, inr_252645135, inr_858993459, inr_1431655765, okO_2, okF_2_2, rfN_2_2, okF_2_4, rfN_2_4, okF_2_5, rfN_2_5, okF_2_6, rfN_2_6, okF_2_7, rfN_2_7, okF_2_9, rfN_2_9, okF_2_10, rfN_2_10, H_0 H, H_3 H, H_8 H, H_11 H, H_12 H, H_13 H, R_0 H.1, R_1 H.1, R_2 H.1, R_29 H.1, R_30 H.1, R_31 H.1, o_R, o_le, o_lt, o_nlt, o_nle, o_eq, o_ne]
  | succ m ih =>
    intro n h1 h2
    have ih2 := ih (n + 1) (by omega) (by omega)
    rw [show ((n + 1 : Nat) : Int) = (n : Int) + 1 from rfl] at ih2
    obtain ⟨a1, a2, a3⟩ := hA n (by omega) (by omega)
    rw [@g_22_6]
    simp (disch := omega) only [@g_22_0, @g_22_1, @g_22_3, @g_22_4, @g_22_8, @g_22_9, @g_22_12, @g_22_15, @g_22_17, @g_22_18, @h_22_18, @g_22_19, @g_22_22, @g_22_23, @g_22_25, @g_22_26, @g_22_29, @g_22_32, @g_22_33, @g_22_35, @g_22_36, @g_22_38, @h_22_38, @g_22_39, @g_22_40, @g_22_43, @g_22_46, @g_22_48, @g_22_49, @g_22_51, @g_22_52, @g_22_53, @g_22_55, @g_22_58, @g_22_61, @g_22_63, @e_22, nlO_n, nlO_i, nlO_r, ret01_0, ret01_1, ret01_if, ret01_fi, true_and, Option.toList_some, Option.toList_none, List.cons_append, List.nil_append, ii_1, ii_0, ii_R, ij_1, ij_0, ij_R, ite_not, if_true, if_false, Int.one_ne_zero, one_e1, not_true_eq_false, not_false_eq_true, and_true, and_false, false_and, or_false, false_or, or_true, true_or, and_self, or_self, inr_n1000100, inr_n1000010, inr_n1000003, inr_n1000002, inr_n1000001, inr_n1000000, inr_n1, inr_0, inr_1, inr_2, inr_3, inr_4, inr_5, inr_6, inr_7, inr_8, inr_10, inr_11, inr_12, inr_13, inr_14, inr_15, inr_16, inr_20, inr_21, inr_22, inr_23, inr_24, inr_29, inr_30, inr_31, inr_32, inr_39, inr_40, inr_44, inr_48, inr_53, inr_54, inr_57, inr_59, inr_63, inr_97, inr_100, inr_101, inr_102, inr_104, inr_105, inr_106, inr_110, inr_112, inr_116, inr_120, inr_122, inr_144, inr_255, inr_256, inr_320, inr_552, inr_576, inr_999, inr_1000, inr_1023, inr_1024, inr_2048, inr_1000000, inr_252645135, inr_858993459, inr_1431655765, okO_2, okF_2_2, rfN_2_2, okF_2_4, rfN_2_4, okF_2_5, rfN_2_5, okF_2_6, rfN_2_6, okF_2_7, rfN_2_7, okF_2_9, rfN_2_9, okF_2_10, rfN_2_10, H_0 H, H_3 H, H_8 H, H_11 H, H_12 H, H_13 H, R_0 H.1, R_1 H.1, R_2 H.1, R_29 H.1, R_30 H.1, R_31 H.1, o_R, o_le, o_lt, o_nlt, o_nle, o_eq, o_ne, k1, k2, k3, a1, sp_21 H (Int.natCast_nonneg n) (show (n : Int) < g 1 by omega), sp_20 H (Int.natCast_nonneg n) (show (n : Int) < g 1 by omega)]
    rw [← ih2, openN_s]
    unfold mayB
    cases hq1 : wornB g wh hr n <;> cases hq2 : comesB g n l <;> simp only [if_true, if_false, Bool.false_eq_true, Bool.not_false, Bool.not_true, Bool.and_true, Bool.and_false, Bool.true_and, Bool.false_and]
theorem sp_22 {c : Nat} {hr l : Int} {wh : Int → Int} (H : ROK B I 2 g) (hc : c = 6 ∨ c = 48 ∨ c = 56) (hA : ∀ w : Int, 0 ≤ w → w < g 1 → I c w = encN (wh w) ∧ -1 ≤ wh w ∧ wh w ≤ 200000) (hr0 : 0 ≤ hr) (hr1 : hr ≤ 200000) (hl0 : -1 ≤ l) (hl1 : l ≤ 3) :
    EX x (d + 4) 22 [.inr (.inr (.inl 2)), .inr (.inr (.inl c)), .inl hr, .inl l] I J Q = Q (some (.inl (openN g wh hr l (g 1).toNat))) I J := by
  simp only [@g_22_0, @g_22_1, @g_22_3, @g_22_4, @g_22_8, @g_22_9, @g_22_12, @g_22_15, @g_22_17, @g_22_18, @h_22_18, @g_22_19, @g_22_22, @g_22_23, @g_22_25, @g_22_26, @g_22_29, @g_22_32, @g_22_33, @g_22_35, @g_22_36, @g_22_38, @h_22_38, @g_22_39, @g_22_40, @g_22_43, @g_22_46, @g_22_48, @g_22_49, @g_22_51, @g_22_52, @g_22_53, @g_22_55, @g_22_58, @g_22_61, @g_22_63, @e_22, nlO_n, nlO_i, nlO_r, ret01_0, ret01_1, ret01_if, ret01_fi, true_and, Option.toList_some, Option.toList_none, List.cons_append, List.nil_append, ii_1, ii_0, ii_R, ij_1, ij_0, ij_R, ite_not, if_true, if_false, Int.one_ne_zero, one_e1, not_true_eq_false, not_false_eq_true, and_true, and_false, false_and, or_false, false_or, or_true, true_or, and_self, or_self, inr_n1000100, inr_n1000010, inr_n1000003, inr_n1000002, inr_n1000001, inr_n1000000, inr_n1, inr_0, inr_1, inr_2, inr_3, inr_4, inr_5, inr_6, inr_7, inr_8, inr_10, inr_11, inr_12, inr_13, inr_14, inr_15, inr_16, inr_20, inr_21, inr_22, inr_23, inr_24, inr_29, inr_30, inr_31, inr_32, inr_39, inr_40, inr_44, inr_48, inr_53, inr_54, inr_57, inr_59, inr_63, inr_97, inr_100, inr_101, inr_102, inr_104, inr_105, inr_106, inr_110, inr_112, inr_116, inr_120, inr_122, inr_144, inr_255, inr_256, inr_320, inr_552, inr_576, inr_999, inr_1000, inr_1023, inr_1024, inr_2048, inr_1000000, inr_252645135, inr_858993459, inr_1431655765]
  exact lp_22 H hc hA hr0 hr1 hl0 hl1 _ 0 (B_1 H.1).1 rfl
theorem hA_now (H : ROK B I 2 g) : ∀ w : Int, 0 ≤ w → w < g 1 → I 6 w = encN (g (32 + w)) ∧ -1 ≤ g (32 + w) ∧ g (32 + w) ≤ 200000 := fun w h0 h1 => by
  have hq := B_a H.1 h0 h1
  have hB := H.1.2.2
  exact ⟨(H_w H h0 h1).2.2.1, by omega, by omega⟩
theorem sp_23 (H : ROK B I 2 g) : EX x (d + 5) 23 [.inr (.inr (.inl 2))] I J Q = Q (some (.inl (openN g (fun i => g (32 + i)) (g 29) (g 30) (g 1).toNat))) I J := by
  have h1 := B_29 H.1
  have h2 := B_30 H.1
  simp (disch := omega) only [@g_23_0, @g_23_1, @g_23_2, @g_23_5, @g_23_6, @g_23_9, @g_23_10, @g_23_13, @g_23_16, @e_23, nlO_n, nlO_i, nlO_r, ret01_0, ret01_1, ret01_if, ret01_fi, true_and, Option.toList_some, Option.toList_none, List.cons_append, List.nil_append, ii_1, ii_0, ii_R, ij_1, ij_0, ij_R, ite_not, if_true, if_false, Int.one_ne_zero, one_e1, not_true_eq_false, not_false_eq_true, and_true, and_false, false_and, or_false, false_or, or_true, true_or, and_self, or_self, inr_n1000100, inr_n1000010, inr_n1000003, inr_n1000002, inr_n1000001, inr_n1000000, inr_n1, inr_0, inr_1, inr_2, inr_3, inr_4, inr_5, inr_6, inr_7, inr_8, inr_10, inr_11, inr_12, inr_13, inr_14, inr_15, inr_16, inr_20, inr_21, inr_22, inr_23, inr_24, inr_29, inr_30, inr_31, inr_32, inr_39, inr_40, inr_44, inr_48, inr_53, inr_54, inr_57, inr_59, inr_63, inr_97, inr_100, inr_101, inr_102, inr_104, inr_105, inr_106, inr_110, inr_112, inr_116, inr_120, inr_122, inr_144, inr_255, inr_256, inr_320, inr_552, inr_576, inr_999, inr_1000, inr_1023, inr_1024, inr_2048, inr_1000000, inr_252645135, inr_858993459, inr_1431655765, okO_2, okF_2_2, rfN_2_2, okF_2_4, rfN_2_4, okF_2_5, rfN_2_5, okF_2_6, rfN_2_6, okF_2_7, rfN_2_7, okF_2_9, rfN_2_9, okF_2_10, rfN_2_10, H_0 H, H_3 H, H_8 H, H_11 H, H_12 H, H_13 H, R_0 H.1, R_1 H.1, R_2 H.1, R_29 H.1, R_30 H.1, R_31 H.1, sp_22 H (Or.inl rfl) (hA_now H)]
theorem sp_24 {t : Int} (H : ROK B I 2 g) (h0 : 0 ≤ t) (h1 : t < g 2) : EX x (d + 6) 24 [.inr (.inr (.inl 2)), .inl t] I J Q = Q (some (.inl (andI (openN g (fun i => g (32 + i)) (g 29) (g 30) (g 1).toNat) (g (24 + t))))) I J := by
  have hb := B_2 H.1
  have e1 : I 8 t = g (24 + t) := (H_t H h0 h1).1
  simp (disch := omega) only [@g_24_0, @g_24_1, @g_24_2, @g_24_5, @g_24_8, @g_24_9, @g_24_12, @g_24_13, @g_24_16, @g_24_17, @h_24_17, @g_24_18, @g_24_19, @g_24_22, @g_24_23, @e_24, nlO_n, nlO_i, nlO_r, ret01_0, ret01_1, ret01_if, ret01_fi, true_and, Option.toList_some, Option.toList_none, List.cons_append, List.nil_append, ii_1, ii_0, ii_R, ij_1, ij_0, ij_R, ite_not, if_true, if_false, Int.one_ne_zero, one_e1, not_true_eq_false, not_false_eq_true, and_true, and_false, false_and, or_false, false_or, or_true, true_or, and_self, or_self, inr_n1000100, inr_n1000010, inr_n1000003, inr_n1000002, inr_n1000001, inr_n1000000, inr_n1, inr_0, inr_1, inr_2, inr_3, inr_4, inr_5, inr_6, inr_7, inr_8, inr_10, inr_11, inr_12, inr_13, inr_14, inr_15, inr_16, inr_20, inr_21, inr_22, inr_23, inr_24, inr_29, inr_30, inr_31, inr_32, inr_39, inr_40, inr_44, inr_48, inr_53, inr_54, inr_57, inr_59, inr_63, inr_97, inr_100, inr_101, inr_102, inr_104, inr_105, inr_106, inr_110, inr_112, inr_116, inr_120, inr_122, inr_144, inr_255, inr_256, inr_320, inr_552, inr_576, inr_999, inr_1000, inr_1023, inr_1024, inr_2048, inr_1000000, inr_252645135, inr_858993459, inr_1431655765, okO_2, okF_2_2, rfN_2_2, okF_2_4, rfN_2_4, okF_2_5, rfN_2_5, okF_2_6, rfN_2_6, okF_2_7, rfN_2_7, okF_2_9, rfN_2_9, okF_2_10, rfN_2_10, okA_8, lnN_8, o_R, o_le, o_lt, o_nlt, o_nle, o_eq, o_ne, sp_17y H h0 h1, sp_23 H, e1]
theorem sp_25 {w : Int} (H : ROK B I 2 g) (h0 : 0 ≤ w) (h1 : w < g 1) : EX x (d + 2) 25 [.inr (.inr (.inl 2)), .inl w] I J Q = Q (some (.inl (if g (8 + w) = 5 then 2 else 1))) I J := by
  have hb := B_1 H.1
  have hk := B_w H.1 h0 h1
  have e1 : I 4 w = g (8 + w) := (H_w H h0 h1).1
  simp (disch := omega) only [@g_25_0, @g_25_1, @g_25_2, @g_25_5, @g_25_8, @g_25_9, @g_25_12, @g_25_13, @h_25_13, @g_25_14, @g_25_15, @g_25_18, @g_25_19, @g_25_22, @g_25_23, @e_25, nlO_n, nlO_i, nlO_r, ret01_0, ret01_1, ret01_if, ret01_fi, true_and, Option.toList_some, Option.toList_none, List.cons_append, List.nil_append, ii_1, ii_0, ii_R, ij_1, ij_0, ij_R, ite_not, if_true, if_false, Int.one_ne_zero, one_e1, not_true_eq_false, not_false_eq_true, and_true, and_false, false_and, or_false, false_or, or_true, true_or, and_self, or_self, inr_n1000100, inr_n1000010, inr_n1000003, inr_n1000002, inr_n1000001, inr_n1000000, inr_n1, inr_0, inr_1, inr_2, inr_3, inr_4, inr_5, inr_6, inr_7, inr_8, inr_10, inr_11, inr_12, inr_13, inr_14, inr_15, inr_16, inr_20, inr_21, inr_22, inr_23, inr_24, inr_29, inr_30, inr_31, inr_32, inr_39, inr_40, inr_44, inr_48, inr_53, inr_54, inr_57, inr_59, inr_63, inr_97, inr_100, inr_101, inr_102, inr_104, inr_105, inr_106, inr_110, inr_112, inr_116, inr_120, inr_122, inr_144, inr_255, inr_256, inr_320, inr_552, inr_576, inr_999, inr_1000, inr_1023, inr_1024, inr_2048, inr_1000000, inr_252645135, inr_858993459, inr_1431655765, okO_2, okF_2_2, rfN_2_2, okF_2_4, rfN_2_4, okF_2_5, rfN_2_5, okF_2_6, rfN_2_6, okF_2_7, rfN_2_7, okF_2_9, rfN_2_9, okF_2_10, rfN_2_10, okA_4, lnN_4, o_R, o_le, o_lt, o_nlt, o_nle, o_eq, o_ne, sp_16y H h0 h1, e1]
  (repeat' split) <;> first | rfl | (exfalso; omega)
theorem sp_26 {w : Int} (H : ROK B I 2 g) (h0 : 0 ≤ w) (h1 : w < g 1) : EX x (d + 2) 26 [.inr (.inr (.inl 2)), .inl w] I J Q = Q (some (.inl (if g (8 + w) = 2 then 1 else 0))) I J := by
  have hb := B_1 H.1
  have hk := B_w H.1 h0 h1
  have e1 : I 4 w = g (8 + w) := (H_w H h0 h1).1
  simp (disch := omega) only [@g_26_0, @g_26_1, @g_26_2, @g_26_5, @g_26_8, @g_26_9, @g_26_12, @g_26_13, @h_26_13, @g_26_14, @g_26_15, @g_26_18, @g_26_19, @g_26_22, @g_26_23, @e_26, nlO_n, nlO_i, nlO_r, ret01_0, ret01_1, ret01_if, ret01_fi, true_and, Option.toList_some, Option.toList_none, List.cons_append, List.nil_append, ii_1, ii_0, ii_R, ij_1, ij_0, ij_R, ite_not, if_true, if_false, Int.one_ne_zero, one_e1, not_true_eq_false, not_false_eq_true, and_true, and_false, false_and, or_false, false_or, or_true, true_or, and_self, or_self, inr_n1000100, inr_n1000010, inr_n1000003, inr_n1000002, inr_n1000001, inr_n1000000, inr_n1, inr_0, inr_1, inr_2, inr_3, inr_4, inr_5, inr_6, inr_7, inr_8, inr_10, inr_11, inr_12, inr_13, inr_14, inr_15, inr_16, inr_20, inr_21, inr_22, inr_23, inr_24, inr_29, inr_30, inr_31, inr_32, inr_39, inr_40, inr_44, inr_48, inr_53, inr_54, inr_57, inr_59, inr_63, inr_97, inr_100, inr_101, inr_102, inr_104, inr_105, inr_106, inr_110, inr_112, inr_116, inr_120, inr_122, inr_144, inr_255, inr_256, inr_320, inr_552, inr_576, inr_999, inr_1000, inr_1023, inr_1024, inr_2048, inr_1000000, inr_252645135, inr_858993459, inr_1431655765, okO_2, okF_2_2, rfN_2_2, okF_2_4, rfN_2_4, okF_2_5, rfN_2_5, okF_2_6, rfN_2_6, okF_2_7, rfN_2_7, okF_2_9, rfN_2_9, okF_2_10, rfN_2_10, okA_4, lnN_4, o_R, o_le, o_lt, o_nlt, o_nle, o_eq, o_ne, sp_16y H h0 h1, e1]
  (repeat' split) <;> first | rfl | (exfalso; omega)
/-! ===== open words as bits ===== -/
theorem openN_tb {wh : Int → Int} {h l w : Int} (h0 : 0 ≤ w) (h1 : w < 32) : ∀ n : Nat, n ≤ 32 → tb (openN g wh h l n) w = (decide (w < n) && mayB g wh h l w)
  | 0, _ => by
    rw [show openN g wh h l 0 = 0 from rfl, tb_0, decide_eq_false (by omega)]
    rfl
  | n + 1, hn => by
    rw [openN_s]
    have ih := openN_tb (wh := wh) (h := h) (l := l) h0 h1 n (by omega)
    by_cases hm : mayB g wh h l n = true
    · rw [if_pos hm, tb_or, ih, tb_shl (by omega) (by omega) h0 h1]
      by_cases he : w = n
      · rw [he, hm, decide_eq_true (show (n : Int) = n from rfl), decide_eq_true (show (n : Int) < ((n + 1 : Nat) : Int) by omega), Bool.or_true]
        rfl
      · rw [decide_eq_false he, Bool.or_false]
        congr 1
        exact decide_eq_decide.mpr (by omega)
    · rw [if_neg hm, ih]
      by_cases he : w = n
      · rw [he, Bool.not_eq_true _ |>.mp hm, Bool.and_false, Bool.and_false]
      · congr 1
        exact decide_eq_decide.mpr (by omega)
theorem openN_R {wh : Int → Int} {h l : Int} : ∀ n : Nat, inR (openN g wh h l n)
  | 0 => inR_0
  | n + 1 => by
    rw [openN_s]
    split
    · exact inR_or
    · exact openN_R n
end
