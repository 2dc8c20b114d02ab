/-! ===== family ===== -/
theorem cnt_true {a : Int} : ∀ {m : Nat}, (∀ w : Int, 0 ≤ w → w < m → tb a w = true) → cnt a m = m
  | 0, _ => rfl
  | m + 1, h => by
    unfold cnt
    rw [cnt_true (fun w h0 h1 => h w h0 (by omega)), if_pos (h m (by omega) (by omega))]
    rfl
theorem cnt_all {a : Int} : ∀ {m : Nat}, cnt a m = m → ∀ w : Int, 0 ≤ w → w < m → tb a w = true
  | 0, _, w, h0, h1 => by omega
  | m + 1, h, w, h0, h1 => by
    unfold cnt at h
    have hl := cnt_le a m
    have hb : tb a m = true := by
      by_cases hq : tb a m = true
      · exact hq
      · rw [if_neg hq] at h
        omega
    rw [if_pos hb] at h
    by_cases hw : w = m
    · rw [hw]; exact hb
    · exact cnt_all (m := m) (by omega) w h0 (by omega)
theorem tb_full : ∀ W : Nat, W ≤ 8 → ∀ w : Nat, w < 32 → tb (2 ^ W - 1) (w : Int) = decide (w < W) := by decide +kernel
theorem tb_ful {W : Nat} (hW : W ≤ 8) {w : Int} (h0 : 0 ≤ w) (h1 : w < 32) : tb (2 ^ W - 1) w = decide (w < W) := by
  have h := tb_full W hW w.toNat (by omega)
  rw [show ((w.toNat : Nat) : Int) = w by omega] at h
  rw [h]
  exact decide_eq_decide.mpr (by omega)
theorem p2_1 : ∀ W : Nat, W ≤ 8 → (1 : Int) ≤ 2 ^ W := by decide
theorem cnt_8 {a : Int} (h0 : 0 ≤ a) (h1 : a < 256) : cnt a 32 = cnt a 8 := cnt_more (n := 8) 24 (fun w a1 b1 => tb_lt (n := 8) h0 (by omega) a1 (by omega))
theorem cnt_ful {W : Nat} (hW : W ≤ 8) : cnt (2 ^ W - 1) 32 = W := by
  obtain ⟨k, hk⟩ : ∃ k, 32 = W + k := ⟨32 - W, by omega⟩
  rw [hk, cnt_more k (fun w a b => by rw [tb_ful hW (by omega) (by omega)]; exact decide_eq_false (by omega)), cnt_true (fun w a b => by rw [tb_ful hW a (by omega)]; exact decide_eq_true b)]
theorem cnt_part {W : Nat} (hW : W ≤ 8) {m : Int} (h0 : 0 ≤ m) (h1 : m < 2 ^ W - 1) : cnt m 32 < cnt (2 ^ W - 1) 32 := by
  rw [cnt_ful hW]
  obtain ⟨k, hk⟩ : ∃ k, 32 = W + k := ⟨32 - W, by omega⟩
  have hz : ∀ w : Int, (W : Int) ≤ w → w < 32 → tb m w = false := fun w a b => tb_lt (n := W) h0 (by omega) a b
  rw [hk, cnt_more k (fun w a b => hz w a (by omega))]
  have hl := cnt_le m W
  by_cases hc : cnt m W = W
  · have ha := cnt_all hc
    have hp := p28 W hW
    have hp1 := p2_1 W hW
    have e : m = 2 ^ W - 1 := tb_ext ⟨by omega, by omega⟩ ⟨by omega, by omega⟩ (fun w a b => by
      rw [tb_ful hW a b]
      by_cases hw : w < W
      · rw [ha w a hw, decide_eq_true hw]
      · rw [hz w (by omega) b, decide_eq_false hw])
    omega
  · omega
section
variable {x : RO} {d : Nat} {Q : QT} {I : MI} {J : MJ} {n : Nat} {g : HV}
/-- c has a word for each of the family -/
def svN (g : HV) (fam c : Int) : Nat → Bool
  | 0 => true
  | m + 1 => svN g fam c m && (!tb fam m || !decide (andI (g (24 + (m : Int))) c = 0))
theorem svN_s {fam c : Int} {m : Nat} : svN g fam c (m + 1) = (svN g fam c m && (!tb fam m || !decide (andI (g (24 + (m : Int))) c = 0))) := rfl
theorem svN_f {fam c : Int} {m : Nat} (h : svN g fam c m = false) : ∀ k : Nat, svN g fam c (m + k) = false
  | 0 => h
  | k + 1 => by
    show svN g fam c ((m + k) + 1) = false
    rw [svN_s, svN_f h k]
    rfl
theorem sv_full {B fam : Int} (M : MOK B g) : ∀ m : Nat, (m : Int) ≤ g 2 → svN g fam (2 ^ (g 1).toNat - 1) m = true
  | 0, _ => rfl
  | m + 1, hm => by
    have b1 := B_1 M
    rw [svN_s, sv_full M m (by omega), Bool.true_and]
    have ht := B_t M (t := m) (by omega) (by omega)
    have hn : ¬ andI (g (24 + (m : Int))) (2 ^ (g 1).toNat - 1) = 0 := by
      intro hz
      have hz2 := and_eq0.mp hz
      have hp := p28 (g 1).toNat (by omega)
      have e : g (24 + (m : Int)) = 0 := tb_ext ⟨by omega, by omega⟩ ⟨by decide, by decide⟩ (fun w a b => by
        rw [tb_0]
        by_cases hw : w < g 1
        · have h3 := hz2 w a b
          rw [tb_ful (by omega) a b, decide_eq_true (by omega)] at h3
          cases hq : tb (g (24 + (m : Int))) w
          · rfl
          · exact absurd ⟨hq, rfl⟩ h3
        · exact tb_lt (n := (g 1).toNat) (by omega) ht.2 (by omega) b)
      omega
    rw [decide_eq_false hn, Bool.not_false, Bool.or_true]
theorem lp_30 {B c fam : Int} (H : ROK B I 2 g) : ∀ (q m : Nat), svN g fam c m = true → (m : Int) ≤ g 2 → (g 2 - m).toNat = q → GO x (d + 1) 30 Q 2 [some (.inr (.inr (.inl 2))), some (.inl c), some (.inl fam), some (.inl m)] [] I J = Q (some (.inl (if svN g fam c (g 2).toNat = true then 1 else 0))) I J := by
  have hb := B_2 H.1
  intro q
  induction q with
  | zero =>
    intro m hs h1 h2
    have e : (g 2).toNat = m := by omega
    rw [e, @g_30_2, hs]
    simp (disch := omega) only [@g_30_0, @g_30_1, @g_30_3, @g_30_4, @g_30_7, @g_30_10, @g_30_11, @g_30_12, @g_30_15, @g_30_18, @g_30_19, @g_30_22, @g_30_23, @h_30_23, @g_30_24, @g_30_25, @g_30_26, @g_30_29, @g_30_30, @g_30_31, @g_30_34, @g_30_37, @g_30_38, @e_30, nlO_n, nlO_i, nlO_r, ret01_0, ret01_1, ret01_if, ret01_fi, true_and, Option.toList_some, Option.toList_none, List.cons_append, List.nil_append, ii_1, ii_0, ii_R, ij_1, ij_0, ij_R, ite_not, if_true, if_false, Int.one_ne_zero, one_e1, not_true_eq_false, not_false_eq_true, and_true, and_false, false_and, or_false, false_or, or_true, true_or, and_self, or_self, inr_n1000100, inr_n1000010, inr_n1000003, inr_n1000002, inr_n1000001, inr_n1000000, inr_n1, inr_0, inr_1, inr_2, inr_3, inr_4, inr_5, inr_6, inr_7, inr_8, inr_10, inr_11, inr_12, inr_13, inr_14, inr_15, inr_16, inr_20, inr_21, inr_22, inr_23, inr_24, inr_29, inr_30, inr_31, inr_32, inr_39, inr_40, inr_44, inr_48, inr_53, inr_54, inr_57, inr_59, inr_63, inr_97, inr_100, inr_101, inr_102, inr_104, inr_105, inr_106, inr_110, inr_112, inr_116, inr_120, inr_122, inr_144, inr_255, inr_256, inr_320, inr_552, inr_576, inr_999, inr_1000, inr_1023, inr_1024, inr_2048, inr_1000000, inr_252645135, inr_858993459, inr_1431655765, okO_2, okF_2_2, rfN_2_2, okF_2_4, rfN_2_4, okF_2_5, rfN_2_5, okF_2_6, rfN_2_6, okF_2_7, rfN_2_7, okF_2_9, rfN_2_9, okF_2_10, rfN_2_10, H_0 H, H_3 H, H_8 H, H_11 H, H_12 H, H_13 H, R_0 H.1, R_1 H.1, R_2 H.1, R_29 H.1, R_30 H.1, R_31 H.1, o_R, o_le, o_lt, o_nlt, o_nle, o_eq, o_ne]
  | succ q ih =>
    intro m hs h1 h2
    have e1 : I 8 (m : Int) = g (24 + m) := (H_t H (Int.natCast_nonneg m) (show (m : Int) < g 2 by omega)).1
    have hR : inR (andI (g (24 + m)) c) := inR_and
    rw [@g_30_2]
    cases hn : svN g fam c (m + 1)
    · have hf : svN g fam c (g 2).toNat = false := by
        have h3 := svN_f hn ((g 2).toNat - (m + 1))
        rw [show m + 1 + ((g 2).toNat - (m + 1)) = (g 2).toNat by omega] at h3
        exact h3
      rw [svN_s, hs, Bool.true_and, Bool.or_eq_false_iff] at hn
      obtain ⟨hn1, hn2⟩ := hn
      have hn3 : tb fam m = true := by cases hq : tb fam m <;> simp_all
      have hn4 : andI (g (24 + (m : Int))) c = 0 := by
        by_cases hq : andI (g (24 + (m : Int))) c = 0
        · exact hq
        · rw [decide_eq_false hq] at hn2
          cases hn2
      rw [hf]
      simp (disch := omega) only [@g_30_0, @g_30_1, @g_30_3, @g_30_4, @g_30_7, @g_30_10, @g_30_11, @g_30_12, @g_30_15, @g_30_18, @g_30_19, @g_30_22, @g_30_23, @h_30_23, @g_30_24, @g_30_25, @g_30_26, @g_30_29, @g_30_30, @g_30_31, @g_30_34, @g_30_37, @g_30_38, @e_30, nlO_n, nlO_i, nlO_r, ret01_0, ret01_1, ret01_if, ret01_fi, true_and, Option.toList_some, Option.toList_none, List.cons_append, List.nil_append, ii_1, ii_0, ii_R, ij_1, ij_0, ij_R, ite_not, if_true, if_false, Int.one_ne_zero, one_e1, not_true_eq_false, not_false_eq_true, and_true, and_false, false_and, or_false, false_or, or_true, true_or, and_self, or_self, inr_n1000100, inr_n1000010, inr_n1000003, inr_n1000002, inr_n1000001, inr_n1000000, inr_n1, inr_0, inr_1, inr_2, inr_3, inr_4, inr_5, inr_6, inr_7, inr_8, inr_10, inr_11, inr_12, inr_13, inr_14, inr_15, inr_16, inr_20, inr_21, inr_22, inr_23, inr_24, inr_29, inr_30, inr_31, inr_32, inr_39, inr_40, inr_44, inr_48, inr_53, inr_54, inr_57, inr_59, inr_63, inr_97, inr_100, inr_101, inr_102, inr_104, inr_105, inr_106, inr_110, inr_112, inr_116, inr_120, inr_122, inr_144, inr_255, inr_256, inr_320, inr_552, inr_576, inr_999, inr_1000, inr_1023, inr_1024, inr_2048, inr_1000000, inr_252645135, inr_858993459, inr_1431655765, okO_2, okF_2_2, rfN_2_2, okF_2_4, rfN_2_4, okF_2_5, rfN_2_5, okF_2_6, rfN_2_6, okF_2_7, rfN_2_7, okF_2_9, rfN_2_9, okF_2_10, rfN_2_10, okA_8, lnN_8, H_0 H, H_3 H, H_8 H, H_11 H, H_12 H, H_13 H, R_0 H.1, R_1 H.1, R_2 H.1, R_29 H.1, R_30 H.1, R_31 H.1, o_R, o_le, o_lt, o_nlt, o_nle, o_eq, o_ne, sp_105, hn3, e1, hn4, if_true, if_false, Bool.false_eq_true, Bool.not_false, Bool.not_true, Bool.and_true, Bool.and_false, Bool.true_and, Bool.false_and, Bool.or_true, Bool.or_false, Bool.true_or, Bool.false_or, ite_self]
    · have ih2 := ih (m + 1) hn (by omega) (by omega)
      rw [show ((m + 1 : Nat) : Int) = (m : Int) + 1 from rfl] at ih2
      rw [svN_s, hs, Bool.true_and] at hn
      cases hq : tb fam m
      · simp (disch := omega) only [@g_30_0, @g_30_1, @g_30_3, @g_30_4, @g_30_7, @g_30_10, @g_30_11, @g_30_12, @g_30_15, @g_30_18, @g_30_19, @g_30_22, @g_30_23, @h_30_23, @g_30_24, @g_30_25, @g_30_26, @g_30_29, @g_30_30, @g_30_31, @g_30_34, @g_30_37, @g_30_38, @e_30, nlO_n, nlO_i, nlO_r, ret01_0, ret01_1, ret01_if, ret01_fi, true_and, Option.toList_some, Option.toList_none, List.cons_append, List.nil_append, ii_1, ii_0, ii_R, ij_1, ij_0, ij_R, ite_not, if_true, if_false, Int.one_ne_zero, one_e1, not_true_eq_false, not_false_eq_true, and_true, and_false, false_and, or_false, false_or, or_true, true_or, and_self, or_self, inr_n1000100, inr_n1000010, inr_n1000003, inr_n1000002, inr_n1000001, inr_n1000000, inr_n1, inr_0, inr_1, inr_2, inr_3, inr_4, inr_5, inr_6, inr_7, inr_8, inr_10, inr_11, inr_12, inr_13, inr_14, inr_15, inr_16, inr_20, inr_21, inr_22, inr_23, inr_24, inr_29, inr_30, inr_31, inr_32, inr_39, inr_40, inr_44, inr_48, inr_53, inr_54, inr_57, inr_59, inr_63, inr_97, inr_100, inr_101, inr_102, inr_104, inr_105, inr_106, inr_110, inr_112, inr_116, inr_120, inr_122, inr_144, inr_255, inr_256, inr_320, inr_552, inr_576, inr_999, inr_1000, inr_1023, inr_1024, inr_2048, inr_1000000, inr_252645135, inr_858993459, inr_1431655765, okO_2, okF_2_2, rfN_2_2, okF_2_4, rfN_2_4, okF_2_5, rfN_2_5, okF_2_6, rfN_2_6, okF_2_7, rfN_2_7, okF_2_9, rfN_2_9, okF_2_10, rfN_2_10, okA_8, lnN_8, H_0 H, H_3 H, H_8 H, H_11 H, H_12 H, H_13 H, R_0 H.1, R_1 H.1, R_2 H.1, R_29 H.1, R_30 H.1, R_31 H.1, o_R, o_le, o_lt, o_nlt, o_nle, o_eq, o_ne, sp_105, hq, if_true, if_false, Bool.false_eq_true, Bool.not_false, Bool.not_true, Bool.and_true, Bool.and_false, Bool.true_and, Bool.false_and, Bool.or_true, Bool.or_false, Bool.true_or, Bool.false_or, ite_self, ih2]
      · rw [hq, Bool.not_true, Bool.false_or] at hn
        have hn4 : ¬ andI (g (24 + (m : Int))) c = 0 := fun z => by rw [decide_eq_true z] at hn; cases hn
        simp (disch := omega) only [@g_30_0, @g_30_1, @g_30_3, @g_30_4, @g_30_7, @g_30_10, @g_30_11, @g_30_12, @g_30_15, @g_30_18, @g_30_19, @g_30_22, @g_30_23, @h_30_23, @g_30_24, @g_30_25, @g_30_26, @g_30_29, @g_30_30, @g_30_31, @g_30_34, @g_30_37, @g_30_38, @e_30, nlO_n, nlO_i, nlO_r, ret01_0, ret01_1, ret01_if, ret01_fi, true_and, Option.toList_some, Option.toList_none, List.cons_append, List.nil_append, ii_1, ii_0, ii_R, ij_1, ij_0, ij_R, ite_not, if_true, if_false, Int.one_ne_zero, one_e1, not_true_eq_false, not_false_eq_true, and_true, and_false, false_and, or_false, false_or, or_true, true_or, and_self, or_self, inr_n1000100, inr_n1000010, inr_n1000003, inr_n1000002, inr_n1000001, inr_n1000000, inr_n1, inr_0, inr_1, inr_2, inr_3, inr_4, inr_5, inr_6, inr_7, inr_8, inr_10, inr_11, inr_12, inr_13, inr_14, inr_15, inr_16, inr_20, inr_21, inr_22, inr_23, inr_24, inr_29, inr_30, inr_31, inr_32, inr_39, inr_40, inr_44, inr_48, inr_53, inr_54, inr_57, inr_59, inr_63, inr_97, inr_100, inr_101, inr_102, inr_104, inr_105, inr_106, inr_110, inr_112, inr_116, inr_120, inr_122, inr_144, inr_255, inr_256, inr_320, inr_552, inr_576, inr_999, inr_1000, inr_1023, inr_1024, inr_2048, inr_1000000, inr_252645135, inr_858993459, inr_1431655765, okO_2, okF_2_2, rfN_2_2, okF_2_4, rfN_2_4, okF_2_5, rfN_2_5, okF_2_6, rfN_2_6, okF_2_7, rfN_2_7, okF_2_9, rfN_2_9, okF_2_10, rfN_2_10, okA_8, lnN_8, H_0 H, H_3 H, H_8 H, H_11 H, H_12 H, H_13 H, R_0 H.1, R_1 H.1, R_2 H.1, R_29 H.1, R_30 H.1, R_31 H.1, o_R, o_le, o_lt, o_nlt, o_nle, o_eq, o_ne, sp_105, hq, e1, hn4, hR, if_true, if_false, Bool.false_eq_true, Bool.not_false, Bool.not_true, Bool.and_true, Bool.and_false, Bool.true_and, Bool.false_and, Bool.or_true, Bool.or_false, Bool.true_or, Bool.false_or, ite_self, ih2]
theorem sp_30 {B c fam : Int} (H : ROK B I 2 g) : EX x (d + 2) 30 [.inr (.inr (.inl 2)), .inl c, .inl fam] I J Q = Q (some (.inl (if svN g fam c (g 2).toNat = true then 1 else 0))) I J := by
  simp only [@g_30_0, @g_30_1, @g_30_3, @g_30_4, @g_30_7, @g_30_10, @g_30_11, @g_30_12, @g_30_15, @g_30_18, @g_30_19, @g_30_22, @g_30_23, @h_30_23, @g_30_24, @g_30_25, @g_30_26, @g_30_29, @g_30_30, @g_30_31, @g_30_34, @g_30_37, @g_30_38, @e_30, nlO_n, nlO_i, nlO_r, ret01_0, ret01_1, ret01_if, ret01_fi, true_and, Option.toList_some, Option.toList_none, List.cons_append, List.nil_append, ii_1, ii_0, ii_R, ij_1, ij_0, ij_R, ite_not, if_true, if_false, Int.one_ne_zero, one_e1, not_true_eq_false, not_false_eq_true, and_true, and_false, false_and, or_false, false_or, or_true, true_or, and_self, or_self, inr_n1000100, inr_n1000010, inr_n1000003, inr_n1000002, inr_n1000001, inr_n1000000, inr_n1, inr_0, inr_1, inr_2, inr_3, inr_4, inr_5, inr_6, inr_7, inr_8, inr_10, inr_11, inr_12, inr_13, inr_14, inr_15, inr_16, inr_20, inr_21, inr_22, inr_23, inr_24, inr_29, inr_30, inr_31, inr_32, inr_39, inr_40, inr_44, inr_48, inr_53, inr_54, inr_57, inr_59, inr_63, inr_97, inr_100, inr_101, inr_102, inr_104, inr_105, inr_106, inr_110, inr_112, inr_116, inr_120, inr_122, inr_144, inr_255, inr_256, inr_320, inr_552, inr_576, inr_999, inr_1000, inr_1023, inr_1024, inr_2048, inr_1000000, inr_252645135, inr_858993459, inr_1431655765]
  exact lp_30 H _ 0 rfl (B_2 H.1).1 rfl
def fewC (g : HV) (fam A : Int) : Nat → Int
  | 0 => A
  | m + 1 => if cnt m 32 < cnt (fewC g fam A m) 32 ∧ svN g fam m (g 2).toNat = true then (m : Int) else fewC g fam A m
theorem fewC_s {fam A : Int} {m : Nat} : fewC g fam A (m + 1) = if cnt m 32 < cnt (fewC g fam A m) 32 ∧ svN g fam m (g 2).toNat = true then (m : Int) else fewC g fam A m := rfl
theorem lp_29 {B fam P : Int} (H : ROK B I 2 g) (hP : shlI 1 (g 1) = P) (hP1 : 1 ≤ P) (hP2 : P ≤ 256) : ∀ (q m : Nat), (m : Int) ≤ P → (P - m).toNat = q → GO x (d + 2) 29 Q 11 [some (.inr (.inr (.inl 2))), some (.inl fam), some (.inl (fewC g fam (P - 1) m)), some (.inl m)] [] I J = Q (some (.inl (fewC g fam (P - 1) P.toNat))) I J := by
  intro q
  induction q with
  | zero =>
    intro m h1 h2
    have e : P.toNat = m := by omega
    rw [e, @g_29_11]
    simp (disch := omega) only [@g_29_0, @g_29_1, @g_29_2, @g_29_5, @g_29_6, @g_29_7, @g_29_8, @g_29_9, @g_29_10, @g_29_12, @g_29_13, @g_29_14, @g_29_17, @g_29_18, @g_29_21, @g_29_22, @g_29_25, @g_29_26, @g_29_29, @g_29_32, @g_29_33, @g_29_34, @g_29_35, @g_29_38, @g_29_41, @g_29_42, @g_29_43, @g_29_46, @g_29_49, @g_29_50, @e_29, nlO_n, nlO_i, nlO_r, ret01_0, ret01_1, ret01_if, ret01_fi, true_and, Option.toList_some, Option.toList_none, List.cons_append, List.nil_append, ii_1, ii_0, ii_R, ij_1, ij_0, ij_R, ite_not, if_true, if_false, Int.one_ne_zero, one_e1, not_true_eq_false, not_false_eq_true, and_true, and_false, false_and, or_false, false_or, or_true, true_or, and_self, or_self, inr_n1000100, inr_n1000010, inr_n1000003, inr_n1000002, inr_n1000001, inr_n1000000, inr_n1, inr_0, inr_1, inr_2, inr_3, inr_4, inr_5, inr_6, inr_7, inr_8, inr_10, inr_11, inr_12, inr_13, inr_14, inr_15, inr_16, inr_20, inr_21, inr_22, inr_23, inr_24, inr_29, inr_30, inr_31, inr_32, inr_39, inr_40, inr_44, inr_48, inr_53, inr_54, inr_57, inr_59, inr_63, inr_97, inr_100, inr_101, inr_102, inr_104, inr_105, inr_106, inr_110, inr_112, inr_116, inr_120, inr_122, inr_144, inr_255, inr_256, inr_320, inr_552, inr_576, inr_999, inr_1000, inr_1023, inr_1024, inr_2048, inr_1000000, inr_252645135, inr_858993459, inr_1431655765, okO_2, okF_2_2, rfN_2_2, okF_2_4, rfN_2_4, okF_2_5, rfN_2_5, okF_2_6, rfN_2_6, okF_2_7, rfN_2_7, okF_2_9, rfN_2_9, okF_2_10, rfN_2_10, H_0 H, H_3 H, H_8 H, H_11 H, H_12 H, H_13 H, R_0 H.1, R_1 H.1, R_2 H.1, R_29 H.1, R_30 H.1, R_31 H.1, o_R, o_le, o_lt, o_nlt, o_nle, o_eq, o_ne, hP]
  | succ q ih =>
    intro m h1 h2
    have ih2 := ih (m + 1) (by omega) (by omega)
    rw [show ((m + 1 : Nat) : Int) = (m : Int) + 1 from rfl, fewC_s] at ih2
    have l1 := cnt_le m 32
    have l2 := cnt_le (fewC g fam (P - 1) m) 32
    rw [@g_29_11]
    by_cases hc : cnt m 32 < cnt (fewC g fam (P - 1) m) 32
    · cases hs : svN g fam m (g 2).toNat
      · rw [if_neg (fun z => by rw [hs] at z; cases z.2)] at ih2
        simp (disch := omega) only [@g_29_0, @g_29_1, @g_29_2, @g_29_5, @g_29_6, @g_29_7, @g_29_8, @g_29_9, @g_29_10, @g_29_12, @g_29_13, @g_29_14, @g_29_17, @g_29_18, @g_29_21, @g_29_22, @g_29_25, @g_29_26, @g_29_29, @g_29_32, @g_29_33, @g_29_34, @g_29_35, @g_29_38, @g_29_41, @g_29_42, @g_29_43, @g_29_46, @g_29_49, @g_29_50, @e_29, nlO_n, nlO_i, nlO_r, ret01_0, ret01_1, ret01_if, ret01_fi, true_and, Option.toList_some, Option.toList_none, List.cons_append, List.nil_append, ii_1, ii_0, ii_R, ij_1, ij_0, ij_R, ite_not, if_true, if_false, Int.one_ne_zero, one_e1, not_true_eq_false, not_false_eq_true, and_true, and_false, false_and, or_false, false_or, or_true, true_or, and_self, or_self, inr_n1000100, inr_n1000010, inr_n1000003, inr_n1000002, inr_n1000001, inr_n1000000, inr_n1, inr_0, inr_1, inr_2, inr_3, inr_4, inr_5, inr_6, inr_7, inr_8, inr_10, inr_11, inr_12, inr_13, inr_14, inr_15, inr_16, inr_20, inr_21, inr_22, inr_23, inr_24, inr_29, inr_30, inr_31, inr_32, inr_39, inr_40, inr_44, inr_48, inr_53, inr_54, inr_57, inr_59, inr_63, inr_97, inr_100, inr_101, inr_102, inr_104, inr_105, inr_106, inr_110, inr_112, inr_116, inr_120, inr_122, inr_144, inr_255, inr_256, inr_320, inr_552, inr_576, inr_999, inr_1000, inr_1023, inr_1024, inr_2048, inr_1000000, inr_252645135, inr_858993459, inr_1431655765, okO_2, okF_2_2, rfN_2_2, okF_2_4, rfN_2_4, okF_2_5, rfN_2_5, okF_2_6, rfN_2_6, okF_2_7, rfN_2_7, okF_2_9, rfN_2_9, okF_2_10, rfN_2_10, H_0 H, H_3 H, H_8 H, H_11 H, H_12 H, H_13 H, R_0 H.1, R_1 H.1, R_2 H.1, R_29 H.1, R_30 H.1, R_31 H.1, o_R, o_le, o_lt, o_nlt, o_nle, o_eq, o_ne, hP, sp_182, sp_30 H, hs, if_true, if_false, Bool.false_eq_true, Bool.not_false, Bool.not_true, Bool.and_true, Bool.and_false, Bool.true_and, Bool.false_and, Bool.or_true, Bool.or_false, Bool.true_or, Bool.false_or, ite_self, ih2]
      · rw [if_pos ⟨hc, hs⟩] at ih2
        simp (disch := omega) only [@g_29_0, @g_29_1, @g_29_2, @g_29_5, @g_29_6, @g_29_7, @g_29_8, @g_29_9, @g_29_10, @g_29_12, @g_29_13, @g_29_14, @g_29_17, @g_29_18, @g_29_21, @g_29_22, @g_29_25, @g_29_26, @g_29_29, @g_29_32, @g_29_33, @g_29_34, @g_29_35, @g_29_38, @g_29_41, @g_29_42, @g_29_43, @g_29_46, @g_29_49, @g_29_50, @e_29, nlO_n, nlO_i, nlO_r, ret01_0, ret01_1, ret01_if, ret01_fi, true_and, Option.toList_some, Option.toList_none, List.cons_append, List.nil_append, ii_1, ii_0, ii_R, ij_1, ij_0, ij_R, ite_not, if_true, if_false, Int.one_ne_zero, one_e1, not_true_eq_false, not_false_eq_true, and_true, and_false, false_and, or_false, false_or, or_true, true_or, and_self, or_self, inr_n1000100, inr_n1000010, inr_n1000003, inr_n1000002, inr_n1000001, inr_n1000000, inr_n1, inr_0, inr_1, inr_2, inr_3, inr_4, inr_5, inr_6, inr_7, inr_8, inr_10, inr_11, inr_12, inr_13, inr_14, inr_15, inr_16, inr_20, inr_21, inr_22, inr_23, inr_24, inr_29, inr_30, inr_31, inr_32, inr_39, inr_40, inr_44, inr_48, inr_53, inr_54, inr_57, inr_59, inr_63, inr_97, inr_100, inr_101, inr_102, inr_104, inr_105, inr_106, inr_110, inr_112, inr_116, inr_120, inr_122, inr_144, inr_255, inr_256, inr_320, inr_552, inr_576, inr_999, inr_1000, inr_1023, inr_1024, inr_2048, inr_1000000, inr_252645135, inr_858993459, inr_1431655765, okO_2, okF_2_2, rfN_2_2, okF_2_4, rfN_2_4, okF_2_5, rfN_2_5, okF_2_6, rfN_2_6, okF_2_7, rfN_2_7, okF_2_9, rfN_2_9, okF_2_10, rfN_2_10, H_0 H, H_3 H, H_8 H, H_11 H, H_12 H, H_13 H, R_0 H.1, R_1 H.1, R_2 H.1, R_29 H.1, R_30 H.1, R_31 H.1, o_R, o_le, o_lt, o_nlt, o_nle, o_eq, o_ne, hP, sp_182, sp_30 H, hs, if_true, if_false, Bool.false_eq_true, Bool.not_false, Bool.not_true, Bool.and_true, Bool.and_false, Bool.true_and, Bool.false_and, Bool.or_true, Bool.or_false, Bool.true_or, Bool.false_or, ite_self, ih2]
    · rw [if_neg (fun z => hc z.1)] at ih2
      simp (disch := omega) only [@g_29_0, @g_29_1, @g_29_2, @g_29_5, @g_29_6, @g_29_7, @g_29_8, @g_29_9, @g_29_10, @g_29_12, @g_29_13, @g_29_14, @g_29_17, @g_29_18, @g_29_21, @g_29_22, @g_29_25, @g_29_26, @g_29_29, @g_29_32, @g_29_33, @g_29_34, @g_29_35, @g_29_38, @g_29_41, @g_29_42, @g_29_43, @g_29_46, @g_29_49, @g_29_50, @e_29, nlO_n, nlO_i, nlO_r, ret01_0, ret01_1, ret01_if, ret01_fi, true_and, Option.toList_some, Option.toList_none, List.cons_append, List.nil_append, ii_1, ii_0, ii_R, ij_1, ij_0, ij_R, ite_not, if_true, if_false, Int.one_ne_zero, one_e1, not_true_eq_false, not_false_eq_true, and_true, and_false, false_and, or_false, false_or, or_true, true_or, and_self, or_self, inr_n1000100, inr_n1000010, inr_n1000003, inr_n1000002, inr_n1000001, inr_n1000000, inr_n1, inr_0, inr_1, inr_2, inr_3, inr_4, inr_5, inr_6, inr_7, inr_8, inr_10, inr_11, inr_12, inr_13, inr_14, inr_15, inr_16, inr_20, inr_21, inr_22, inr_23, inr_24, inr_29, inr_30, inr_31, inr_32, inr_39, inr_40, inr_44, inr_48, inr_53, inr_54, inr_57, inr_59, inr_63, inr_97, inr_100, inr_101, inr_102, inr_104, inr_105, inr_106, inr_110, inr_112, inr_116, inr_120, inr_122, inr_144, inr_255, inr_256, inr_320, inr_552, inr_576, inr_999, inr_1000, inr_1023, inr_1024, inr_2048, inr_1000000, inr_252645135, inr_858993459, inr_1431655765, okO_2, okF_2_2, rfN_2_2, okF_2_4, rfN_2_4, okF_2_5, rfN_2_5, okF_2_6, rfN_2_6, okF_2_7, rfN_2_7, okF_2_9, rfN_2_9, okF_2_10, rfN_2_10, H_0 H, H_3 H, H_8 H, H_11 H, H_12 H, H_13 H, R_0 H.1, R_1 H.1, R_2 H.1, R_29 H.1, R_30 H.1, R_31 H.1, o_R, o_le, o_lt, o_nlt, o_nle, o_eq, o_ne, hP, sp_182, ih2]
theorem sp_29 {B fam P : Int} (H : ROK B I 2 g) (hP : shlI 1 (g 1) = P) (hP1 : 1 ≤ P) (hP2 : P ≤ 256) : EX x (d + 3) 29 [.inr (.inr (.inl 2)), .inl fam] I J Q = Q (some (.inl (fewC g fam (P - 1) P.toNat))) I J := by
  simp only [@g_29_0, @g_29_1, @g_29_2, @g_29_5, @g_29_6, @g_29_7, @g_29_8, @g_29_9, @g_29_10, @g_29_12, @g_29_13, @g_29_14, @g_29_17, @g_29_18, @g_29_21, @g_29_22, @g_29_25, @g_29_26, @g_29_29, @g_29_32, @g_29_33, @g_29_34, @g_29_35, @g_29_38, @g_29_41, @g_29_42, @g_29_43, @g_29_46, @g_29_49, @g_29_50, @e_29, nlO_n, nlO_i, nlO_r, ret01_0, ret01_1, ret01_if, ret01_fi, true_and, Option.toList_some, Option.toList_none, List.cons_append, List.nil_append, ii_1, ii_0, ii_R, ij_1, ij_0, ij_R, ite_not, if_true, if_false, Int.one_ne_zero, one_e1, not_true_eq_false, not_false_eq_true, and_true, and_false, false_and, or_false, false_or, or_true, true_or, and_self, or_self, inr_n1000100, inr_n1000010, inr_n1000003, inr_n1000002, inr_n1000001, inr_n1000000, inr_n1, inr_0, inr_1, inr_2, inr_3, inr_4, inr_5, inr_6, inr_7, inr_8, inr_10, inr_11, inr_12, inr_13, inr_14, inr_15, inr_16, inr_20, inr_21, inr_22, inr_23, inr_24, inr_29, inr_30, inr_31, inr_32, inr_39, inr_40, inr_44, inr_48, inr_53, inr_54, inr_57, inr_59, inr_63, inr_97, inr_100, inr_101, inr_102, inr_104, inr_105, inr_106, inr_110, inr_112, inr_116, inr_120, inr_122, inr_144, inr_255, inr_256, inr_320, inr_552, inr_576, inr_999, inr_1000, inr_1023, inr_1024, inr_2048, inr_1000000, inr_252645135, inr_858993459, inr_1431655765, okO_2, okF_2_2, rfN_2_2, okF_2_4, rfN_2_4, okF_2_5, rfN_2_5, okF_2_6, rfN_2_6, okF_2_7, rfN_2_7, okF_2_9, rfN_2_9, okF_2_10, rfN_2_10, H_0 H, H_3 H, H_8 H, H_11 H, H_12 H, H_13 H, R_0 H.1, R_1 H.1, R_2 H.1, R_29 H.1, R_30 H.1, R_31 H.1, hP]
  exact lp_29 H hP hP1 hP2 _ 0 (by omega) rfl
theorem lp_158 {a : Int} : ∀ (q m : Nat), m + q = 8 → GO x d 158 Q 4 [some (.inl a), some (.inl (cnt a m)), some (.inl m)] [] I J = Q (some (.inl (cnt a 8))) I J := by
  intro q
  induction q with
  | zero =>
    intro m h1
    have e : m = 8 := by omega
    subst e
    rw [@g_158_4]
    simp (disch := omega) only [@g_158_0, @g_158_1, @g_158_2, @g_158_3, @g_158_5, @g_158_7, @g_158_10, @g_158_11, @g_158_12, @g_158_13, @g_158_14, @g_158_15, @g_158_16, @g_158_17, @g_158_18, @g_158_21, @g_158_24, @g_158_25, @e_158, nlO_n, nlO_i, nlO_r, ret01_0, ret01_1, ret01_if, ret01_fi, true_and, Option.toList_some, Option.toList_none, List.cons_append, List.nil_append, ii_1, ii_0, ii_R, ij_1, ij_0, ij_R, ite_not, if_true, if_false, Int.one_ne_zero, one_e1, not_true_eq_false, not_false_eq_true, and_true, and_false, false_and, or_false, false_or, or_true, true_or, and_self, or_self, inr_n1000100, inr_n1000010, inr_n1000003, inr_n1000002, inr_n1000001, inr_n1000000, inr_n1, inr_0, inr_1, inr_2, inr_3, inr_4, inr_5, inr_6, inr_7, inr_8, inr_10, inr_11, inr_12, inr_13, inr_14, inr_15, inr_16, inr_20, inr_21, inr_22, inr_23, inr_24, inr_29, inr_30, inr_31, inr_32, inr_39, inr_40, inr_44, inr_48, inr_53, inr_54, inr_57, inr_59, inr_63, inr_97, inr_100, inr_101, inr_102, inr_104, inr_105, inr_106, inr_110, inr_112, inr_116, inr_120, inr_122, inr_144, inr_255, inr_256, inr_320, inr_552, inr_576, inr_999, inr_1000, inr_1023, inr_1024, inr_2048, inr_1000000, inr_252645135, inr_858993459, inr_1431655765, o_R, o_le, o_lt, o_nlt, o_nle, o_eq, o_ne]
  | succ q ih =>
    intro m h1
    have ih2 := ih (m + 1) (by omega)
    rw [show ((m + 1 : Nat) : Int) = (m : Int) + 1 from rfl, show cnt a (m + 1) = cnt a m + (if tb a m = true then 1 else 0) from rfl] at ih2
    rw [@g_158_4]
    simp (disch := omega) only [@g_158_0, @g_158_1, @g_158_2, @g_158_3, @g_158_5, @g_158_7, @g_158_10, @g_158_11, @g_158_12, @g_158_13, @g_158_14, @g_158_15, @g_158_16, @g_158_17, @g_158_18, @g_158_21, @g_158_24, @g_158_25, @e_158, nlO_n, nlO_i, nlO_r, ret01_0, ret01_1, ret01_if, ret01_fi, true_and, Option.toList_some, Option.toList_none, List.cons_append, List.nil_append, ii_1, ii_0, ii_R, ij_1, ij_0, ij_R, ite_not, if_true, if_false, Int.one_ne_zero, one_e1, not_true_eq_false, not_false_eq_true, and_true, and_false, false_and, or_false, false_or, or_true, true_or, and_self, or_self, inr_n1000100, inr_n1000010, inr_n1000003, inr_n1000002, inr_n1000001, inr_n1000000, inr_n1, inr_0, inr_1, inr_2, inr_3, inr_4, inr_5, inr_6, inr_7, inr_8, inr_10, inr_11, inr_12, inr_13, inr_14, inr_15, inr_16, inr_20, inr_21, inr_22, inr_23, inr_24, inr_29, inr_30, inr_31, inr_32, inr_39, inr_40, inr_44, inr_48, inr_53, inr_54, inr_57, inr_59, inr_63, inr_97, inr_100, inr_101, inr_102, inr_104, inr_105, inr_106, inr_110, inr_112, inr_116, inr_120, inr_122, inr_144, inr_255, inr_256, inr_320, inr_552, inr_576, inr_999, inr_1000, inr_1023, inr_1024, inr_2048, inr_1000000, inr_252645135, inr_858993459, inr_1431655765, o_R, o_le, o_lt, o_nlt, o_nle, o_eq, o_ne, holdS, ih2]
theorem sp_158 {a : Int} : EX x (d + 1) 158 [.inl a] I J Q = Q (some (.inl (cnt a 8))) I J := by
  simp only [@g_158_0, @g_158_1, @g_158_2, @g_158_3, @g_158_5, @g_158_7, @g_158_10, @g_158_11, @g_158_12, @g_158_13, @g_158_14, @g_158_15, @g_158_16, @g_158_17, @g_158_18, @g_158_21, @g_158_24, @g_158_25, @e_158, nlO_n, nlO_i, nlO_r, ret01_0, ret01_1, ret01_if, ret01_fi, true_and, Option.toList_some, Option.toList_none, List.cons_append, List.nil_append, ii_1, ii_0, ii_R, ij_1, ij_0, ij_R, ite_not, if_true, if_false, Int.one_ne_zero, one_e1, not_true_eq_false, not_false_eq_true, and_true, and_false, false_and, or_false, false_or, or_true, true_or, and_self, or_self, inr_n1000100, inr_n1000010, inr_n1000003, inr_n1000002, inr_n1000001, inr_n1000000, inr_n1, inr_0, inr_1, inr_2, inr_3, inr_4, inr_5, inr_6, inr_7, inr_8, inr_10, inr_11, inr_12, inr_13, inr_14, inr_15, inr_16, inr_20, inr_21, inr_22, inr_23, inr_24, inr_29, inr_30, inr_31, inr_32, inr_39, inr_40, inr_44, inr_48, inr_53, inr_54, inr_57, inr_59, inr_63, inr_97, inr_100, inr_101, inr_102, inr_104, inr_105, inr_106, inr_110, inr_112, inr_116, inr_120, inr_122, inr_144, inr_255, inr_256, inr_320, inr_552, inr_576, inr_999, inr_1000, inr_1023, inr_1024, inr_2048, inr_1000000, inr_252645135, inr_858993459, inr_1431655765]
  exact lp_158 8 0 rfl
end
