/-! ===== the text: the class reads ===== -/
section
variable {x : RO} {d : Nat} {Q : QT} {I I0 : MI} {J : MJ} {n : Nat} {b : HV} {len a : Int}
/-- what reading leaves as it was -/
def Kp (I0 I : MI) : Prop := (∀ c, (c < 10 ∨ 17 < c) → c ≠ 19 → I c = I0 c) ∧ I 19 3 = I0 19 3 ∧ (∀ w : Int, 0 ≤ w → w < 8 → I 14 w = I0 14 w ∨ I 14 w = -1000000) ∧ (I0 19 2 = 0 → I 19 2 = 0) ∧ (I 19 4 = I0 19 4 ∨ I 19 2 = 0)
theorem Kp_rfl : Kp I I := ⟨fun _ _ _ => rfl, rfl, fun _ _ _ => Or.inl rfl, fun h => h, Or.inl rfl⟩
theorem Kp_trans {I1 I2 : MI} (h1 : Kp I I1) (h2 : Kp I1 I2) : Kp I I2 := ⟨fun c a b => (h2.1 c a b).trans (h1.1 c a b), h2.2.1.trans h1.2.1, fun w a b => by
  rcases h2.2.2.1 w a b with h | h
  · rcases h1.2.2.1 w a b with k | k
    · exact Or.inl (h.trans k)
    · exact Or.inr (h.trans k)
  · exact Or.inr h, fun h => h2.2.2.2.1 (h1.2.2.2.1 h), by
  rcases h1.2.2.2.2 with h | h
  · rcases h2.2.2.2.2 with k | k
    · exact Or.inl (k.trans h)
    · exact Or.inr k
  · exact Or.inr (h2.2.2.2.1 h)⟩
theorem Kp_up {c : Nat} {j v : Int} (h : c = 10 ∨ c = 11 ∨ c = 12 ∨ c = 13 ∨ c = 15 ∨ c = 16 ∨ c = 17) : Kp I (up I c j v) := ⟨fun c' h1 h2 => up_ne (by omega), by rw [up_ne (by omega)], fun w _ _ => Or.inl (by rw [up_ne (by omega)]), fun h => by rw [up_ne (by omega)]; exact h, Or.inl (by rw [up_ne (by omega)])⟩
theorem Kp_19 {j v : Int} (h : j ≠ 3 ∧ j ≠ 2 ∧ j ≠ 4) : Kp I (up I 19 j v) := ⟨fun c' h1 h2 => up_ne h2, up_nj (by omega), fun w _ _ => Or.inl (by rw [up_ne (by omega)]), fun z => by rw [up_nj (by omega)]; exact z, Or.inl (up_nj (by omega))⟩
theorem Kp_14 {j : Int} : Kp I (up I 14 j (-1000000)) := ⟨fun c' h1 h2 => up_ne (by omega), by rw [up_ne (by omega)], fun w _ _ => by
  by_cases hw : w = j
  · rw [hw, up_same]; exact Or.inr rfl
  · rw [up_nj hw]; exact Or.inl rfl, fun h => by rw [up_ne (by omega)]; exact h, Or.inl (by rw [up_ne (by omega)])⟩
theorem Kp_fail {e : Int × Int} : Kp I (failM I e) := ⟨fun c h1 h2 => by unfold failM; rw [up_ne h2, up_ne h2, up_ne h2], by unfold failM; simp (disch := omega) only [up_nj], fun w _ _ => Or.inl (by unfold failM; simp (disch := omega) only [up_ne]), fun _ => by unfold failM; simp (disch := omega) only [up_nj, up_same], Or.inr (by unfold failM; simp (disch := omega) only [up_nj, up_same])⟩
theorem TP_K {I1 : MI} (T : TPc I b len) (h : Kp I I1) : TPc I1 b len := ⟨h.2.1.trans T.1, T.2.1, T.2.2.1, fun k a b => by rw [h.1 20 (by omega) (by omega)]; exact T.2.2.2 k a b⟩
def FaC (I : MI) (e : Int × Int) : Prop := I 19 2 = 0 ∧ I 19 4 = e.1 ∧ I 19 5 = e.2
theorem Fa_fail {e : Int × Int} : FaC (failM I e) e := by
  unfold FaC failM
  simp (disch := omega) only [up_same, up_nj, and_self]
theorem Fa_c {I1 : MI} {e : Int × Int} (h : I1 19 = I 19) (f : FaC I e) : FaC I1 e := by unfold FaC at f ⊢; rw [h]; exact f
theorem fail_n {e : Int × Int} {c : Nat} (h : c ≠ 19) : failM I e c = I c := by unfold failM; rw [up_ne h, up_ne h, up_ne h]
theorem lp_57n {e : Int × Int} (hq : ∀ I', Kp I I' → FaC I' e → Q none I' J) : ∀ (q c : Nat) (I1 : MI), c + q = 4 → Kp I I1 → FaC I1 e → GO x (d + 2) 57 Q 19 [some (.inr (.inr (.inl 19))), some (.inr (.inr (.inl 10))), some (.inl c)] [] I1 J := by
  intro q
  induction q with
  | zero =>
    intro c I1 h1 k1 f1
    rw [@g_57_19]
    simp (disch := omega) only [@g_57_0, @g_57_1, @g_57_3, @g_57_6, @g_57_7, @g_57_8, @g_57_9, @g_57_11, @g_57_14, @g_57_17, @g_57_18, @g_57_20, @g_57_21, @g_57_24, @g_57_25, @g_57_27, @g_57_30, @g_57_31, @g_57_34, @g_57_35, @g_57_36, @g_57_37, @g_57_39, @g_57_42, @g_57_43, @g_57_46, @g_57_49, @g_57_50, @g_57_52, @g_57_55, nlO_n, nlO_i, nlO_r, ret01_0, ret01_1, ret01_if, ret01_fi, true_and, Option.toList_some, Option.toList_none, List.cons_append, List.nil_append, ii_1, ii_0, ii_R, ij_1, ij_0, ij_R, ite_not, if_true, if_false, Int.one_ne_zero, one_e1, not_true_eq_false, not_false_eq_true, and_true, and_false, false_and, or_false, false_or, or_true, true_or, and_self, or_self, inr_n1000100, inr_n1000010, inr_n1000003, inr_n1000002, inr_n1000001, inr_n1000000, inr_n1, inr_0, inr_1, inr_2, inr_3, inr_4, inr_5, inr_6, inr_7, inr_8, inr_10, inr_11, inr_12, inr_13, inr_14, inr_15, inr_16, inr_20, inr_21, inr_22, inr_23, inr_24, inr_29, inr_30, inr_31, inr_32, inr_39, inr_40, inr_44, inr_48, inr_53, inr_54, inr_57, inr_59, inr_63, inr_97, inr_100, inr_101, inr_102, inr_104, inr_105, inr_106, inr_110, inr_112, inr_116, inr_120, inr_122, inr_144, inr_255, inr_256, inr_320, inr_552, inr_576, inr_999, inr_1000, inr_1023, inr_1024, inr_2048, inr_1000000, inr_252645135, inr_858993459, inr_1431655765, okO_19, okF_19_0, rfN_19_0, o_R, o_le, o_lt, o_nlt, o_nle, o_eq, o_ne, sp_60n f1.1]
    exact hq I1 k1 f1
  | succ q ih =>
    intro c I1 h1 k1 f1
    rw [@g_57_19]
    simp (disch := omega) only [@g_57_0, @g_57_1, @g_57_3, @g_57_6, @g_57_7, @g_57_8, @g_57_9, @g_57_11, @g_57_14, @g_57_17, @g_57_18, @g_57_20, @g_57_21, @g_57_24, @g_57_25, @g_57_27, @g_57_30, @g_57_31, @g_57_34, @g_57_35, @g_57_36, @g_57_37, @g_57_39, @g_57_42, @g_57_43, @g_57_46, @g_57_49, @g_57_50, @g_57_52, @g_57_55, nlO_n, nlO_i, nlO_r, ret01_0, ret01_1, ret01_if, ret01_fi, true_and, Option.toList_some, Option.toList_none, List.cons_append, List.nil_append, ii_1, ii_0, ii_R, ij_1, ij_0, ij_R, ite_not, if_true, if_false, Int.one_ne_zero, one_e1, not_true_eq_false, not_false_eq_true, and_true, and_false, false_and, or_false, false_or, or_true, true_or, and_self, or_self, inr_n1000100, inr_n1000010, inr_n1000003, inr_n1000002, inr_n1000001, inr_n1000000, inr_n1, inr_0, inr_1, inr_2, inr_3, inr_4, inr_5, inr_6, inr_7, inr_8, inr_10, inr_11, inr_12, inr_13, inr_14, inr_15, inr_16, inr_20, inr_21, inr_22, inr_23, inr_24, inr_29, inr_30, inr_31, inr_32, inr_39, inr_40, inr_44, inr_48, inr_53, inr_54, inr_57, inr_59, inr_63, inr_97, inr_100, inr_101, inr_102, inr_104, inr_105, inr_106, inr_110, inr_112, inr_116, inr_120, inr_122, inr_144, inr_255, inr_256, inr_320, inr_552, inr_576, inr_999, inr_1000, inr_1023, inr_1024, inr_2048, inr_1000000, inr_252645135, inr_858993459, inr_1431655765, okO_10, okF_10_2, rfN_10_2, okF_10_4, rfN_10_4, okF_10_5, rfN_10_5, okF_10_6, rfN_10_6, okF_10_7, rfN_10_7, okF_10_9, rfN_10_9, okF_10_10, rfN_10_10, okA_11, lnN_11, okO_19, okF_19_0, rfN_19_0, o_R, o_le, o_lt, o_nlt, o_nle, o_eq, o_ne, sp_60n f1.1, sp_61n f1.1]
    exact ih (c + 1) _ (by omega) (Kp_trans k1 (Kp_up (by omega))) (Fa_c (up_ne (by omega)) f1)
/-- the law read so far -/
def LwC (I0 I : MI) (a m : Int) (c : Nat) (s : HV) : Prop := Kp I0 I ∧ I 19 2 = 1 ∧ I 19 1 = a ∧ (∀ j : Int, j ≠ 1 → I 10 j = I0 10 j) ∧ I 10 1 = m ∧ (∀ k : Int, 0 ≤ k → k < c → I 11 k = s (4 + k)) ∧ (∀ k, 12 ≤ k → k ≤ 17 → I k = I0 k)
theorem lp_57k {m : Int} (T : TPc I b len) :
    ∀ (q c : Nat) (a : Int) (s : HV) (I1 : MI), c + q = 4 → 0 ≤ a → a ≤ len → LwC I I1 a m c s →
    (∀ I' e, (match pBeh b len q c a s with | .inl e => .inl e | .inr q3 => (match pSgn b len q3.1 59 with | .inl e => .inl e | .inr a4 => .inr (a4, q3.2))) = (.inl e : RP) → Kp I I' → FaC I' e → Q none I' J) →
    (∀ I' a4 s4, (match pBeh b len q c a s with | .inl e => .inl e | .inr q3 => (match pSgn b len q3.1 59 with | .inl e => .inl e | .inr a4 => .inr (a4, q3.2))) = (.inr (a4, s4) : RP) → LwC I I' a4 m 4 s4 → 0 ≤ a4 → a4 ≤ len → Q none I' J) →
    GO x (d + 2) 57 Q 19 [some (.inr (.inr (.inl 19))), some (.inr (.inr (.inl 10))), some (.inl c)] [] I1 J := by
  have t3 := T.2.2.1
  intro q
  induction q with
  | zero =>
    intro c a s I1 h1 a0 a1 hl hf hk
    obtain ⟨l1, l2, l3, l4, l5, l6, l7⟩ := hl
    have T1 := TP_K T l1
    have ec : c = 4 := by omega
    subst ec
    rw [@g_57_19]
    simp only [pBeh] at hf hk
    cases h : pSgn b len a 59 with
    | inl e =>
      rw [h] at hf
      simp (disch := omega) only [@g_57_0, @g_57_1, @g_57_3, @g_57_6, @g_57_7, @g_57_8, @g_57_9, @g_57_11, @g_57_14, @g_57_17, @g_57_18, @g_57_20, @g_57_21, @g_57_24, @g_57_25, @g_57_27, @g_57_30, @g_57_31, @g_57_34, @g_57_35, @g_57_36, @g_57_37, @g_57_39, @g_57_42, @g_57_43, @g_57_46, @g_57_49, @g_57_50, @g_57_52, @g_57_55, nlO_n, nlO_i, nlO_r, ret01_0, ret01_1, ret01_if, ret01_fi, true_and, Option.toList_some, Option.toList_none, List.cons_append, List.nil_append, ii_1, ii_0, ii_R, ij_1, ij_0, ij_R, ite_not, if_true, if_false, Int.one_ne_zero, one_e1, not_true_eq_false, not_false_eq_true, and_true, and_false, false_and, or_false, false_or, or_true, true_or, and_self, or_self, inr_n1000100, inr_n1000010, inr_n1000003, inr_n1000002, inr_n1000001, inr_n1000000, inr_n1, inr_0, inr_1, inr_2, inr_3, inr_4, inr_5, inr_6, inr_7, inr_8, inr_10, inr_11, inr_12, inr_13, inr_14, inr_15, inr_16, inr_20, inr_21, inr_22, inr_23, inr_24, inr_29, inr_30, inr_31, inr_32, inr_39, inr_40, inr_44, inr_48, inr_53, inr_54, inr_57, inr_59, inr_63, inr_97, inr_100, inr_101, inr_102, inr_104, inr_105, inr_106, inr_110, inr_112, inr_116, inr_120, inr_122, inr_144, inr_255, inr_256, inr_320, inr_552, inr_576, inr_999, inr_1000, inr_1023, inr_1024, inr_2048, inr_1000000, inr_252645135, inr_858993459, inr_1431655765, okO_19, okF_19_0, rfN_19_0, o_R, o_le, o_lt, o_nlt, o_nle, o_eq, o_ne, sp_60f T1 l2 l3 a0 (show a ≤ 200 by omega) (show (0 : Int) ≤ 59 by omega) (show (59 : Int) ≤ 255 by omega) h]
      exact hf _ e rfl (Kp_trans l1 Kp_fail) Fa_fail
    | inr a4 =>
      rw [h] at hk
      obtain ⟨z1, z2, z3⟩ := pSgn_k h (by omega)
      simp (disch := omega) only [@g_57_0, @g_57_1, @g_57_3, @g_57_6, @g_57_7, @g_57_8, @g_57_9, @g_57_11, @g_57_14, @g_57_17, @g_57_18, @g_57_20, @g_57_21, @g_57_24, @g_57_25, @g_57_27, @g_57_30, @g_57_31, @g_57_34, @g_57_35, @g_57_36, @g_57_37, @g_57_39, @g_57_42, @g_57_43, @g_57_46, @g_57_49, @g_57_50, @g_57_52, @g_57_55, nlO_n, nlO_i, nlO_r, ret01_0, ret01_1, ret01_if, ret01_fi, true_and, Option.toList_some, Option.toList_none, List.cons_append, List.nil_append, ii_1, ii_0, ii_R, ij_1, ij_0, ij_R, ite_not, if_true, if_false, Int.one_ne_zero, one_e1, not_true_eq_false, not_false_eq_true, and_true, and_false, false_and, or_false, false_or, or_true, true_or, and_self, or_self, inr_n1000100, inr_n1000010, inr_n1000003, inr_n1000002, inr_n1000001, inr_n1000000, inr_n1, inr_0, inr_1, inr_2, inr_3, inr_4, inr_5, inr_6, inr_7, inr_8, inr_10, inr_11, inr_12, inr_13, inr_14, inr_15, inr_16, inr_20, inr_21, inr_22, inr_23, inr_24, inr_29, inr_30, inr_31, inr_32, inr_39, inr_40, inr_44, inr_48, inr_53, inr_54, inr_57, inr_59, inr_63, inr_97, inr_100, inr_101, inr_102, inr_104, inr_105, inr_106, inr_110, inr_112, inr_116, inr_120, inr_122, inr_144, inr_255, inr_256, inr_320, inr_552, inr_576, inr_999, inr_1000, inr_1023, inr_1024, inr_2048, inr_1000000, inr_252645135, inr_858993459, inr_1431655765, okO_19, okF_19_0, rfN_19_0, o_R, o_le, o_lt, o_nlt, o_nle, o_eq, o_ne, sp_60k T1 l2 l3 a0 (show a ≤ 200 by omega) (show (0 : Int) ≤ 59 by omega) (show (59 : Int) ≤ 255 by omega) h]
      refine hk _ a4 s rfl ⟨Kp_trans l1 (Kp_19 (by omega)), by rw [up_nj (by omega)]; exact l2, up_same, fun j hj => by rw [up_ne (by omega)]; exact l4 j hj, by rw [up_ne (by omega)]; exact l5, fun k k0 k1 => by rw [up_ne (by omega)]; exact l6 k k0 k1, fun k k0 k1 => by rw [up_ne (by omega)]; exact l7 k k0 k1⟩ (by omega) (by omega)
  | succ q ih =>
    intro c a s I1 h1 a0 a1 hl hf hk
    obtain ⟨l1, l2, l3, l4, l5, l6, l7⟩ := hl
    have T1 := TP_K T l1
    rw [@g_57_19]
    simp only [pBeh] at hf hk
    cases h : pSgn b len a 44 with
    | inl e =>
      rw [h] at hf
      have f1 : FaC (failM I1 e) e := Fa_fail
      simp (disch := omega) only [@g_57_0, @g_57_1, @g_57_3, @g_57_6, @g_57_7, @g_57_8, @g_57_9, @g_57_11, @g_57_14, @g_57_17, @g_57_18, @g_57_20, @g_57_21, @g_57_24, @g_57_25, @g_57_27, @g_57_30, @g_57_31, @g_57_34, @g_57_35, @g_57_36, @g_57_37, @g_57_39, @g_57_42, @g_57_43, @g_57_46, @g_57_49, @g_57_50, @g_57_52, @g_57_55, nlO_n, nlO_i, nlO_r, ret01_0, ret01_1, ret01_if, ret01_fi, true_and, Option.toList_some, Option.toList_none, List.cons_append, List.nil_append, ii_1, ii_0, ii_R, ij_1, ij_0, ij_R, ite_not, if_true, if_false, Int.one_ne_zero, one_e1, not_true_eq_false, not_false_eq_true, and_true, and_false, false_and, or_false, false_or, or_true, true_or, and_self, or_self, inr_n1000100, inr_n1000010, inr_n1000003, inr_n1000002, inr_n1000001, inr_n1000000, inr_n1, inr_0, inr_1, inr_2, inr_3, inr_4, inr_5, inr_6, inr_7, inr_8, inr_10, inr_11, inr_12, inr_13, inr_14, inr_15, inr_16, inr_20, inr_21, inr_22, inr_23, inr_24, inr_29, inr_30, inr_31, inr_32, inr_39, inr_40, inr_44, inr_48, inr_53, inr_54, inr_57, inr_59, inr_63, inr_97, inr_100, inr_101, inr_102, inr_104, inr_105, inr_106, inr_110, inr_112, inr_116, inr_120, inr_122, inr_144, inr_255, inr_256, inr_320, inr_552, inr_576, inr_999, inr_1000, inr_1023, inr_1024, inr_2048, inr_1000000, inr_252645135, inr_858993459, inr_1431655765, okO_10, okF_10_2, rfN_10_2, okF_10_4, rfN_10_4, okF_10_5, rfN_10_5, okF_10_6, rfN_10_6, okF_10_7, rfN_10_7, okF_10_9, rfN_10_9, okF_10_10, rfN_10_10, okA_11, lnN_11, okO_19, okF_19_0, rfN_19_0, o_R, o_le, o_lt, o_nlt, o_nle, o_eq, o_ne, sp_60f T1 l2 l3 a0 (show a ≤ 200 by omega) (show (0 : Int) ≤ 44 by omega) (show (44 : Int) ≤ 255 by omega) h, sp_61n f1.1]
      exact lp_57n (fun I' k f => hf I' e rfl k f) q (c + 1) _ (by omega) (Kp_trans (Kp_trans l1 Kp_fail) (Kp_up (by omega))) (Fa_c (up_ne (by omega)) f1)
    | inr a2 =>
      rw [h] at hf hk
      obtain ⟨z1, z2, z3⟩ := pSgn_k h (by omega)
      have k2 : Kp I (up I1 19 1 a2) := Kp_trans l1 (Kp_19 (by omega))
      have T2 := TP_K T k2
      simp (disch := omega) only [@g_57_0, @g_57_1, @g_57_3, @g_57_6, @g_57_7, @g_57_8, @g_57_9, @g_57_11, @g_57_14, @g_57_17, @g_57_18, @g_57_20, @g_57_21, @g_57_24, @g_57_25, @g_57_27, @g_57_30, @g_57_31, @g_57_34, @g_57_35, @g_57_36, @g_57_37, @g_57_39, @g_57_42, @g_57_43, @g_57_46, @g_57_49, @g_57_50, @g_57_52, @g_57_55, nlO_n, nlO_i, nlO_r, ret01_0, ret01_1, ret01_if, ret01_fi, true_and, Option.toList_some, Option.toList_none, List.cons_append, List.nil_append, ii_1, ii_0, ii_R, ij_1, ij_0, ij_R, ite_not, if_true, if_false, Int.one_ne_zero, one_e1, not_true_eq_false, not_false_eq_true, and_true, and_false, false_and, or_false, false_or, or_true, true_or, and_self, or_self, inr_n1000100, inr_n1000010, inr_n1000003, inr_n1000002, inr_n1000001, inr_n1000000, inr_n1, inr_0, inr_1, inr_2, inr_3, inr_4, inr_5, inr_6, inr_7, inr_8, inr_10, inr_11, inr_12, inr_13, inr_14, inr_15, inr_16, inr_20, inr_21, inr_22, inr_23, inr_24, inr_29, inr_30, inr_31, inr_32, inr_39, inr_40, inr_44, inr_48, inr_53, inr_54, inr_57, inr_59, inr_63, inr_97, inr_100, inr_101, inr_102, inr_104, inr_105, inr_106, inr_110, inr_112, inr_116, inr_120, inr_122, inr_144, inr_255, inr_256, inr_320, inr_552, inr_576, inr_999, inr_1000, inr_1023, inr_1024, inr_2048, inr_1000000, inr_252645135, inr_858993459, inr_1431655765, okO_10, okF_10_2, rfN_10_2, okF_10_4, rfN_10_4, okF_10_5, rfN_10_5, okF_10_6, rfN_10_6, okF_10_7, rfN_10_7, okF_10_9, rfN_10_9, okF_10_10, rfN_10_10, okA_11, lnN_11, okO_19, okF_19_0, rfN_19_0, o_R, o_le, o_lt, o_nlt, o_nle, o_eq, o_ne, sp_60k T1 l2 l3 a0 (show a ≤ 200 by omega) (show (0 : Int) ≤ 44 by omega) (show (44 : Int) ≤ 255 by omega) h]
      refine sp_61 (a := a2) T2 (by rw [up_nj (by omega)]; exact l2) up_same (by omega) (by omega) (by omega) (by omega) (by omega) (by omega) (fun e he => ?_) (fun p hp => ?_)
      · simp only [he] at hf
        have f1 : FaC (failM (up I1 19 1 a2) e) e := Fa_fail
        simp (disch := omega) only [@g_57_0, @g_57_1, @g_57_3, @g_57_6, @g_57_7, @g_57_8, @g_57_9, @g_57_11, @g_57_14, @g_57_17, @g_57_18, @g_57_20, @g_57_21, @g_57_24, @g_57_25, @g_57_27, @g_57_30, @g_57_31, @g_57_34, @g_57_35, @g_57_36, @g_57_37, @g_57_39, @g_57_42, @g_57_43, @g_57_46, @g_57_49, @g_57_50, @g_57_52, @g_57_55, nlO_n, nlO_i, nlO_r, ret01_0, ret01_1, ret01_if, ret01_fi, true_and, Option.toList_some, Option.toList_none, List.cons_append, List.nil_append, ii_1, ii_0, ii_R, ij_1, ij_0, ij_R, ite_not, if_true, if_false, Int.one_ne_zero, one_e1, not_true_eq_false, not_false_eq_true, and_true, and_false, false_and, or_false, false_or, or_true, true_or, and_self, or_self, inr_n1000100, inr_n1000010, inr_n1000003, inr_n1000002, inr_n1000001, inr_n1000000, inr_n1, inr_0, inr_1, inr_2, inr_3, inr_4, inr_5, inr_6, inr_7, inr_8, inr_10, inr_11, inr_12, inr_13, inr_14, inr_15, inr_16, inr_20, inr_21, inr_22, inr_23, inr_24, inr_29, inr_30, inr_31, inr_32, inr_39, inr_40, inr_44, inr_48, inr_53, inr_54, inr_57, inr_59, inr_63, inr_97, inr_100, inr_101, inr_102, inr_104, inr_105, inr_106, inr_110, inr_112, inr_116, inr_120, inr_122, inr_144, inr_255, inr_256, inr_320, inr_552, inr_576, inr_999, inr_1000, inr_1023, inr_1024, inr_2048, inr_1000000, inr_252645135, inr_858993459, inr_1431655765, okO_10, okF_10_2, rfN_10_2, okF_10_4, rfN_10_4, okF_10_5, rfN_10_5, okF_10_6, rfN_10_6, okF_10_7, rfN_10_7, okF_10_9, rfN_10_9, okF_10_10, rfN_10_10, okA_11, lnN_11, okO_19, okF_19_0, rfN_19_0, o_R, o_le, o_lt, o_nlt, o_nle, o_eq, o_ne]
        exact lp_57n (fun I' k f => hf I' e rfl k f) q (c + 1) _ (by omega) (Kp_trans (Kp_trans k2 Kp_fail) (Kp_up (by omega))) (Fa_c (up_ne (by omega)) f1)
      · simp only [hp] at hf hk
        obtain ⟨y1, y2, y3, y4, y5, y6⟩ := pNum_k (by omega) (by omega) hp
        simp (disch := omega) only [@g_57_0, @g_57_1, @g_57_3, @g_57_6, @g_57_7, @g_57_8, @g_57_9, @g_57_11, @g_57_14, @g_57_17, @g_57_18, @g_57_20, @g_57_21, @g_57_24, @g_57_25, @g_57_27, @g_57_30, @g_57_31, @g_57_34, @g_57_35, @g_57_36, @g_57_37, @g_57_39, @g_57_42, @g_57_43, @g_57_46, @g_57_49, @g_57_50, @g_57_52, @g_57_55, nlO_n, nlO_i, nlO_r, ret01_0, ret01_1, ret01_if, ret01_fi, true_and, Option.toList_some, Option.toList_none, List.cons_append, List.nil_append, ii_1, ii_0, ii_R, ij_1, ij_0, ij_R, ite_not, if_true, if_false, Int.one_ne_zero, one_e1, not_true_eq_false, not_false_eq_true, and_true, and_false, false_and, or_false, false_or, or_true, true_or, and_self, or_self, inr_n1000100, inr_n1000010, inr_n1000003, inr_n1000002, inr_n1000001, inr_n1000000, inr_n1, inr_0, inr_1, inr_2, inr_3, inr_4, inr_5, inr_6, inr_7, inr_8, inr_10, inr_11, inr_12, inr_13, inr_14, inr_15, inr_16, inr_20, inr_21, inr_22, inr_23, inr_24, inr_29, inr_30, inr_31, inr_32, inr_39, inr_40, inr_44, inr_48, inr_53, inr_54, inr_57, inr_59, inr_63, inr_97, inr_100, inr_101, inr_102, inr_104, inr_105, inr_106, inr_110, inr_112, inr_116, inr_120, inr_122, inr_144, inr_255, inr_256, inr_320, inr_552, inr_576, inr_999, inr_1000, inr_1023, inr_1024, inr_2048, inr_1000000, inr_252645135, inr_858993459, inr_1431655765, okO_10, okF_10_2, rfN_10_2, okF_10_4, rfN_10_4, okF_10_5, rfN_10_5, okF_10_6, rfN_10_6, okF_10_7, rfN_10_7, okF_10_9, rfN_10_9, okF_10_10, rfN_10_10, okA_11, lnN_11, okO_19, okF_19_0, rfN_19_0, o_R, o_le, o_lt, o_nlt, o_nle, o_eq, o_ne]
        rw [show (c : Int) + 1 = ((c + 1 : Nat) : Int) from rfl] at hf hk ⊢
        refine ih (c + 1) p.1 _ _ (by omega) (by omega) y2 ⟨Kp_trans (Kp_trans k2 (Kp_19 (by omega))) (Kp_up (by omega)), ?_, ?_, fun j hj => ?_, ?_, fun k k0 k1 => ?_, fun k k0 k1 => ?_⟩ hf hk
        · simp (disch := omega) only [up_ne, up_same, up_nj, flI_ne, flI_in, flI_out, cpI_ne, cpI_in, cpI_out, l2]
        · simp (disch := omega) only [up_ne, up_same, up_nj, flI_ne, flI_in, flI_out, cpI_ne, cpI_in, cpI_out]
        · simp (disch := omega) only [up_ne, up_same, up_nj, flI_ne, flI_in, flI_out, cpI_ne, cpI_in, cpI_out]
          exact l4 j hj
        · simp (disch := omega) only [up_ne, up_same, up_nj, flI_ne, flI_in, flI_out, cpI_ne, cpI_in, cpI_out]
          exact l5
        · by_cases hkc : k = c
          · rw [hkc, up_same, sv_s]
          · simp (disch := omega) only [up_ne, up_same, up_nj, flI_ne, flI_in, flI_out, cpI_ne, cpI_in, cpI_out, sv_n]
            exact l6 k k0 (by omega)
        · simp (disch := omega) only [up_ne, up_same, up_nj, flI_ne, flI_in, flI_out, cpI_ne, cpI_in, cpI_out]
          exact l7 k k0 k1
theorem sp_57 {s : HV} (T : TPc I b len) (h2 : I 19 2 = 1) (h1 : I 19 1 = 0) (hf : ∀ I' e, pLaw b len s = .inl e → Kp I I' → FaC I' e → Q none I' J) (hk : ∀ I' a4 s4 m, pLaw b len s = .inr (a4, s4) → LwC I I' a4 m 4 s4 → m = s4 3 → 0 ≤ a4 → a4 ≤ len → Q none I' J) : EX x (d + 3) 57 [.inr (.inr (.inl 19)), .inr (.inr (.inl 10))] I J Q := by
  have t2 := T.2.1
  have t3 := T.2.2.1
  unfold pLaw at hf hk
  cases h : pSgn b len 0 104 with
  | inl e =>
    rw [h] at hf
    have f1 : FaC (failM I e) e := Fa_fail
    simp (disch := omega) only [@g_57_0, @g_57_1, @g_57_3, @g_57_6, @g_57_7, @g_57_8, @g_57_9, @g_57_11, @g_57_14, @g_57_17, @g_57_18, @g_57_20, @g_57_21, @g_57_24, @g_57_25, @g_57_27, @g_57_30, @g_57_31, @g_57_34, @g_57_35, @g_57_36, @g_57_37, @g_57_39, @g_57_42, @g_57_43, @g_57_46, @g_57_49, @g_57_50, @g_57_52, @g_57_55, @e_57, nlO_n, nlO_i, nlO_r, ret01_0, ret01_1, ret01_if, ret01_fi, true_and, Option.toList_some, Option.toList_none, List.cons_append, List.nil_append, ii_1, ii_0, ii_R, ij_1, ij_0, ij_R, ite_not, if_true, if_false, Int.one_ne_zero, one_e1, not_true_eq_false, not_false_eq_true, and_true, and_false, false_and, or_false, false_or, or_true, true_or, and_self, or_self, inr_n1000100, inr_n1000010, inr_n1000003, inr_n1000002, inr_n1000001, inr_n1000000, inr_n1, inr_0, inr_1, inr_2, inr_3, inr_4, inr_5, inr_6, inr_7, inr_8, inr_10, inr_11, inr_12, inr_13, inr_14, inr_15, inr_16, inr_20, inr_21, inr_22, inr_23, inr_24, inr_29, inr_30, inr_31, inr_32, inr_39, inr_40, inr_44, inr_48, inr_53, inr_54, inr_57, inr_59, inr_63, inr_97, inr_100, inr_101, inr_102, inr_104, inr_105, inr_106, inr_110, inr_112, inr_116, inr_120, inr_122, inr_144, inr_255, inr_256, inr_320, inr_552, inr_576, inr_999, inr_1000, inr_1023, inr_1024, inr_2048, inr_1000000, inr_252645135, inr_858993459, inr_1431655765, okO_10, okF_10_2, rfN_10_2, okF_10_4, rfN_10_4, okF_10_5, rfN_10_5, okF_10_6, rfN_10_6, okF_10_7, rfN_10_7, okF_10_9, rfN_10_9, okF_10_10, rfN_10_10, okO_19, okF_19_0, rfN_19_0, o_R, o_le, o_lt, o_nlt, o_nle, o_eq, o_ne, sp_60f T h2 h1 (Int.le_refl 0) (show (0 : Int) ≤ 200 by omega) (show (0 : Int) ≤ 104 by omega) (show (104 : Int) ≤ 255 by omega) h, sp_61n f1.1]
    exact lp_57n (fun I' k f => hf I' e rfl k f) 4 0 _ rfl (Kp_trans Kp_fail (Kp_up (by omega))) (Fa_c (up_ne (by omega)) f1)
  | inr a2 =>
    rw [h] at hf hk
    obtain ⟨z1, z2, z3⟩ := pSgn_k h (by omega)
    have k2 : Kp I (up I 19 1 a2) := Kp_19 (by omega)
    have T2 := TP_K T k2
    simp (disch := omega) only [@g_57_0, @g_57_1, @g_57_3, @g_57_6, @g_57_7, @g_57_8, @g_57_9, @g_57_11, @g_57_14, @g_57_17, @g_57_18, @g_57_20, @g_57_21, @g_57_24, @g_57_25, @g_57_27, @g_57_30, @g_57_31, @g_57_34, @g_57_35, @g_57_36, @g_57_37, @g_57_39, @g_57_42, @g_57_43, @g_57_46, @g_57_49, @g_57_50, @g_57_52, @g_57_55, @e_57, nlO_n, nlO_i, nlO_r, ret01_0, ret01_1, ret01_if, ret01_fi, true_and, Option.toList_some, Option.toList_none, List.cons_append, List.nil_append, ii_1, ii_0, ii_R, ij_1, ij_0, ij_R, ite_not, if_true, if_false, Int.one_ne_zero, one_e1, not_true_eq_false, not_false_eq_true, and_true, and_false, false_and, or_false, false_or, or_true, true_or, and_self, or_self, inr_n1000100, inr_n1000010, inr_n1000003, inr_n1000002, inr_n1000001, inr_n1000000, inr_n1, inr_0, inr_1, inr_2, inr_3, inr_4, inr_5, inr_6, inr_7, inr_8, inr_10, inr_11, inr_12, inr_13, inr_14, inr_15, inr_16, inr_20, inr_21, inr_22, inr_23, inr_24, inr_29, inr_30, inr_31, inr_32, inr_39, inr_40, inr_44, inr_48, inr_53, inr_54, inr_57, inr_59, inr_63, inr_97, inr_100, inr_101, inr_102, inr_104, inr_105, inr_106, inr_110, inr_112, inr_116, inr_120, inr_122, inr_144, inr_255, inr_256, inr_320, inr_552, inr_576, inr_999, inr_1000, inr_1023, inr_1024, inr_2048, inr_1000000, inr_252645135, inr_858993459, inr_1431655765, okO_10, okF_10_2, rfN_10_2, okF_10_4, rfN_10_4, okF_10_5, rfN_10_5, okF_10_6, rfN_10_6, okF_10_7, rfN_10_7, okF_10_9, rfN_10_9, okF_10_10, rfN_10_10, okO_19, okF_19_0, rfN_19_0, o_R, o_le, o_lt, o_nlt, o_nle, o_eq, o_ne, sp_60k T h2 h1 (Int.le_refl 0) (show (0 : Int) ≤ 200 by omega) (show (0 : Int) ≤ 104 by omega) (show (104 : Int) ≤ 255 by omega) h]
    refine sp_61 (a := a2) T2 (by rw [up_nj (by omega)]; exact h2) up_same (by omega) (by omega) (by omega) (by omega) (by omega) (by omega) (fun e he => ?_) (fun p hp => ?_)
    · simp only [he] at hf
      have f1 : FaC (failM (up I 19 1 a2) e) e := Fa_fail
      simp (disch := omega) only [@g_57_0, @g_57_1, @g_57_3, @g_57_6, @g_57_7, @g_57_8, @g_57_9, @g_57_11, @g_57_14, @g_57_17, @g_57_18, @g_57_20, @g_57_21, @g_57_24, @g_57_25, @g_57_27, @g_57_30, @g_57_31, @g_57_34, @g_57_35, @g_57_36, @g_57_37, @g_57_39, @g_57_42, @g_57_43, @g_57_46, @g_57_49, @g_57_50, @g_57_52, @g_57_55, nlO_n, nlO_i, nlO_r, ret01_0, ret01_1, ret01_if, ret01_fi, true_and, Option.toList_some, Option.toList_none, List.cons_append, List.nil_append, ii_1, ii_0, ii_R, ij_1, ij_0, ij_R, ite_not, if_true, if_false, Int.one_ne_zero, one_e1, not_true_eq_false, not_false_eq_true, and_true, and_false, false_and, or_false, false_or, or_true, true_or, and_self, or_self, inr_n1000100, inr_n1000010, inr_n1000003, inr_n1000002, inr_n1000001, inr_n1000000, inr_n1, inr_0, inr_1, inr_2, inr_3, inr_4, inr_5, inr_6, inr_7, inr_8, inr_10, inr_11, inr_12, inr_13, inr_14, inr_15, inr_16, inr_20, inr_21, inr_22, inr_23, inr_24, inr_29, inr_30, inr_31, inr_32, inr_39, inr_40, inr_44, inr_48, inr_53, inr_54, inr_57, inr_59, inr_63, inr_97, inr_100, inr_101, inr_102, inr_104, inr_105, inr_106, inr_110, inr_112, inr_116, inr_120, inr_122, inr_144, inr_255, inr_256, inr_320, inr_552, inr_576, inr_999, inr_1000, inr_1023, inr_1024, inr_2048, inr_1000000, inr_252645135, inr_858993459, inr_1431655765, okO_10, okF_10_2, rfN_10_2, okF_10_4, rfN_10_4, okF_10_5, rfN_10_5, okF_10_6, rfN_10_6, okF_10_7, rfN_10_7, okF_10_9, rfN_10_9, okF_10_10, rfN_10_10, okO_19, okF_19_0, rfN_19_0, o_R, o_le, o_lt, o_nlt, o_nle, o_eq, o_ne]
      exact lp_57n (fun I' k f => hf I' e rfl k f) 4 0 _ rfl (Kp_trans (Kp_trans k2 Kp_fail) (Kp_up (by omega))) (Fa_c (up_ne (by omega)) f1)
    · simp only [hp] at hf hk
      obtain ⟨y1, y2, y3, y4, y5, y6⟩ := pNum_k (by omega) (by omega) hp
      simp (disch := omega) only [@g_57_0, @g_57_1, @g_57_3, @g_57_6, @g_57_7, @g_57_8, @g_57_9, @g_57_11, @g_57_14, @g_57_17, @g_57_18, @g_57_20, @g_57_21, @g_57_24, @g_57_25, @g_57_27, @g_57_30, @g_57_31, @g_57_34, @g_57_35, @g_57_36, @g_57_37, @g_57_39, @g_57_42, @g_57_43, @g_57_46, @g_57_49, @g_57_50, @g_57_52, @g_57_55, nlO_n, nlO_i, nlO_r, ret01_0, ret01_1, ret01_if, ret01_fi, true_and, Option.toList_some, Option.toList_none, List.cons_append, List.nil_append, ii_1, ii_0, ii_R, ij_1, ij_0, ij_R, ite_not, if_true, if_false, Int.one_ne_zero, one_e1, not_true_eq_false, not_false_eq_true, and_true, and_false, false_and, or_false, false_or, or_true, true_or, and_self, or_self, inr_n1000100, inr_n1000010, inr_n1000003, inr_n1000002, inr_n1000001, inr_n1000000, inr_n1, inr_0, inr_1, inr_2, inr_3, inr_4, inr_5, inr_6, inr_7, inr_8, inr_10, inr_11, inr_12, inr_13, inr_14, inr_15, inr_16, inr_20, inr_21, inr_22, inr_23, inr_24, inr_29, inr_30, inr_31, inr_32, inr_39, inr_40, inr_44, inr_48, inr_53, inr_54, inr_57, inr_59, inr_63, inr_97, inr_100, inr_101, inr_102, inr_104, inr_105, inr_106, inr_110, inr_112, inr_116, inr_120, inr_122, inr_144, inr_255, inr_256, inr_320, inr_552, inr_576, inr_999, inr_1000, inr_1023, inr_1024, inr_2048, inr_1000000, inr_252645135, inr_858993459, inr_1431655765, okO_10, okF_10_2, rfN_10_2, okF_10_4, rfN_10_4, okF_10_5, rfN_10_5, okF_10_6, rfN_10_6, okF_10_7, rfN_10_7, okF_10_9, rfN_10_9, okF_10_10, rfN_10_10, okO_19, okF_19_0, rfN_19_0, o_R, o_le, o_lt, o_nlt, o_nle, o_eq, o_ne]
      have hs3 : ∀ (q : Nat) (c : Nat) (a : Int) (s : HV) (a4 : Int) (s4 : HV), (match pBeh b len q c a s with | .inl e => .inl e | .inr q3 => (match pSgn b len q3.1 59 with | .inl e => .inl e | .inr a4 => .inr (a4, q3.2))) = (.inr (a4, s4) : RP) → s4 3 = s 3 := by
        intro q
        induction q with
        | zero =>
          intro c a s a4 s4 hh
          simp only [pBeh] at hh
          cases h9 : pSgn b len a 59 with
          | inl e => rw [h9] at hh; cases hh
          | inr a9 => rw [h9] at hh; cases hh; rfl
        | succ q ih =>
          intro c a s a4 s4 hh
          simp only [pBeh] at hh
          cases h9 : pSgn b len a 44 with
          | inl e => rw [h9] at hh; cases hh
          | inr a9 =>
            rw [h9] at hh
            cases h8 : pNum b len a9 0 15 with
            | inl e => simp only [h8] at hh; cases hh
            | inr p8 =>
              simp only [h8] at hh
              have := ih (c + 1) p8.1 (sv s (4 + (c : Int)) p8.2) a4 s4 hh
              rw [this, sv_n (by omega)]
      refine lp_57k (m := p.2) T 4 0 p.1 _ _ rfl (by omega) y2 ⟨Kp_trans (Kp_trans k2 (Kp_19 (by omega))) (Kp_up (by omega)), ?_, ?_, fun j hj => ?_, ?_, fun k k0 k1 => by omega, fun k k0 k1 => ?_⟩ hf (fun I' a4 s4 hh hl e1 e2 => hk I' a4 s4 p.2 hh hl (by rw [hs3 4 0 _ _ _ _ hh, sv_s]) e1 e2)
      · simp (disch := omega) only [up_ne, up_same, up_nj, flI_ne, flI_in, flI_out, cpI_ne, cpI_in, cpI_out, h2]
      · simp (disch := omega) only [up_ne, up_same, up_nj, flI_ne, flI_in, flI_out, cpI_ne, cpI_in, cpI_out]
      · simp (disch := omega) only [up_ne, up_same, up_nj, flI_ne, flI_in, flI_out, cpI_ne, cpI_in, cpI_out]
      · simp (disch := omega) only [up_ne, up_same, up_nj, flI_ne, flI_in, flI_out, cpI_ne, cpI_in, cpI_out]
      · simp (disch := omega) only [up_ne, up_same, up_nj, flI_ne, flI_in, flI_out, cpI_ne, cpI_in, cpI_out]
end
