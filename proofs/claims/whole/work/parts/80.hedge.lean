/-! ===== hedge: the call ===== -/
section
variable {x : RO} {d : Nat} {Q : QT} {I I0 : MI} {J : MJ} {n : Nat} {b : HV} {len a : Int}
theorem scN_cg {b b' : HV} {len : Int} : ∀ (m : Nat) (i f v : Int), i + m ≤ len → 0 ≤ i → (∀ k : Int, 0 ≤ k → k < len → b' k = b k) → scN b' len m i f v = scN b len m i f v
  | 0, _, _, _, _, _, _ => rfl
  | m + 1, i, f, v, h1, h0, h => by rw [scN_s, scN_s, h i h0 (by omega), scN_cg m (i + 1) _ _ (by omega) (by omega) h]
theorem pM_cg {len : Int} {s s' : HV} : True := trivial
/-- a draft that the model makes is one, whatever lies beyond -/
theorem pBeh_ex {b : HV} {len : Int} : ∀ (r : Nat) (c a : Int) (s s' : HV), (∀ i : Int, 0 ≤ i → i < 53 → s' i = s i) → 0 ≤ c → c + r ≤ 4 → (∃ e, pBeh b len r c a s = .inl e ∧ pBeh b len r c a s' = .inl e) ∨ (∃ a4 s4 s4', pBeh b len r c a s = .inr (a4, s4) ∧ pBeh b len r c a s' = .inr (a4, s4') ∧ ∀ i : Int, 0 ≤ i → i < 53 → s4' i = s4 i)
  | 0, c, a, s, s', h, _, _ => Or.inr ⟨a, s, s', rfl, rfl, h⟩
  | r + 1, c, a, s, s', h, c0, c1 => by
    simp only [pBeh]
    cases h9 : pSgn b len a 44 with
    | inl e => exact Or.inl ⟨e, rfl, rfl⟩
    | inr a9 =>
      simp only []
      cases h8 : pNum b len a9 0 15 with
      | inl e => exact Or.inl ⟨e, rfl, rfl⟩
      | inr p8 =>
        simp only []
        refine pBeh_ex r (c + 1) p8.1 _ _ (fun i i0 i1 => ?_) (by omega) (by omega)
        unfold sv
        rw [h i i0 i1]
theorem pM_ex {b : HV} {len : Int} : ∀ (m : Nat) (a : Int) (s s' : HV), (∀ i : Int, 0 ≤ i → i < 53 → s' i = s i) → (∃ e, pM b len m a s = .inl e ∧ pM b len m a s' = .inl e) ∨ (∃ a4 s4 s4', pM b len m a s = .inr (a4, s4) ∧ pM b len m a s' = .inr (a4, s4') ∧ ∀ i : Int, 0 ≤ i → i < 53 → s4' i = s4 i)
  | 0, a, s, s', h => Or.inr ⟨a, s, s', rfl, rfl, h⟩
  | m + 1, a, s, s', h => by
    have e1 := h 1 (by omega) (by omega)
    have e2 := h 2 (by omega) (by omega)
    rw [pM_s, pM_s, e1, e2]
    by_cases c1 : len ≤ a
    · rw [if_pos c1, if_pos c1]
      exact Or.inr ⟨a, s, s', rfl, rfl, h⟩
    · rw [if_neg c1, if_neg c1]
      by_cases c2 : b a = 116
      · rw [if_pos c2, if_pos c2]
        by_cases c3 : s 2 = 5
        · rw [if_pos c3, if_pos c3]
          exact Or.inl ⟨_, rfl, rfl⟩
        · rw [if_neg c3, if_neg c3]
          cases h9 : pOne b len (a + 1) 1 (shlI 1 (s 1) - 1) with
          | inl e => exact Or.inl ⟨e, rfl, rfl⟩
          | inr p8 =>
            simp only []
            refine pM_ex m p8.1 _ _ (fun i i0 i1 => ?_)
            unfold addT sv
            rw [h i i0 i1, e2]
      · rw [if_neg c2, if_neg c2]
        by_cases c3 : kol (b a) = 0 ∨ 0 < s 2
        · rw [if_pos c3, if_pos c3]
          exact Or.inl ⟨_, rfl, rfl⟩
        · rw [if_neg c3, if_neg c3]
          by_cases c4 : s 1 = 8
          · rw [if_pos c4, if_pos c4]
            exact Or.inl ⟨_, rfl, rfl⟩
          · rw [if_neg c4, if_neg c4]
            cases h9 : pOne b len (a + 1) 0 3 with
            | inl e => exact Or.inl ⟨e, rfl, rfl⟩
            | inr p8 =>
              simp only []
              refine pM_ex m p8.1 _ _ (fun i i0 i1 => ?_)
              unfold addW sv
              rw [h i i0 i1, e1]
def prS (b : HV) (len : Int) (s : HV) : RP := match pLaw b len s with
  | .inl e => .inl e
  | .inr q => pM b len 14 q.1 q.2
theorem prs_ex {b : HV} {len : Int} {s' : HV} (h : ∀ i : Int, 0 ≤ i → i < 53 → s' i = eS i) : (∃ e, prs b len = .inl e ∧ prS b len s' = .inl e) ∨ (∃ a4 s4 s4', prs b len = .inr (a4, s4) ∧ prS b len s' = .inr (a4, s4') ∧ ∀ i : Int, 0 ≤ i → i < 53 → s4' i = s4 i) := by
  unfold prs prS pLaw
  cases h9 : pSgn b len 0 104 with
  | inl e => exact Or.inl ⟨e, rfl, rfl⟩
  | inr a1 =>
    simp only []
    cases h8 : pNum b len a1 1 24 with
    | inl e => exact Or.inl ⟨e, rfl, rfl⟩
    | inr p8 =>
      simp only []
      rcases pBeh_ex (b := b) (len := len) 4 0 p8.1 (sv eS 3 p8.2) (sv s' 3 p8.2) (fun i i0 i1 => by unfold sv; rw [h i i0 i1]) (by omega) (by omega) with ⟨e, g1, g2⟩ | ⟨a4, s4, s4', g1, g2, g3⟩
      · rw [g1, g2]
        exact Or.inl ⟨e, rfl, rfl⟩
      · rw [g1, g2]
        simp only []
        cases h6 : pSgn b len a4 59 with
        | inl e => exact Or.inl ⟨e, rfl, rfl⟩
        | inr a6 =>
          simp only []
          exact pM_ex 14 a6 s4 s4' g3
theorem sp_130 (T : TPm I b len) (hf : ∀ I' e, prs b len = .inl e → Km I I' → FaM I' e → Q (some (.inl 0)) I' J) (hk : ∀ I' a s, prs b len = .inr (a, s) → Km I I' → (∀ i : Int, 0 ≤ i → i < 53 → I' 95 i = s i) → Q (some (.inl 1)) I' J) : EX x (d + 5) 130 [.inr (.inr (.inl 92))] I J Q := by
  have t2 := T.2.1
  simp (disch := omega) only [@e_130, @g_130_0, @g_130_1, nlO_n, nlO_i, nlO_r, ret01_0, ret01_1, ret01_if, ret01_fi, true_and, Option.toList_some, Option.toList_none, List.cons_append, List.nil_append, ii_1, ii_0, ii_R, ij_1, ij_0, ij_R, ite_not, if_true, if_false, Int.one_ne_zero, one_e1, not_true_eq_false, not_false_eq_true, and_true, and_false, false_and, or_false, false_or, or_true, true_or, and_self, or_self, inr_n1000100, inr_n1000010, inr_n1000003, inr_n1000002, inr_n1000001, inr_n1000000, inr_n1, inr_0, inr_1, inr_2, inr_3, inr_4, inr_5, inr_6, inr_7, inr_8, inr_10, inr_11, inr_12, inr_13, inr_14, inr_15, inr_16, inr_20, inr_21, inr_22, inr_23, inr_24, inr_29, inr_30, inr_31, inr_32, inr_39, inr_40, inr_44, inr_48, inr_53, inr_54, inr_57, inr_59, inr_63, inr_97, inr_100, inr_101, inr_102, inr_104, inr_105, inr_106, inr_110, inr_112, inr_116, inr_120, inr_122, inr_144, inr_255, inr_256, inr_320, inr_552, inr_576, inr_999, inr_1000, inr_1023, inr_1024, inr_2048, inr_1000000, inr_252645135, inr_858993459, inr_1431655765, okO_92, okF_92_0, rfN_92_0, okF_92_2, rfN_92_2, okF_92_3, rfN_92_3, okF_92_4, rfN_92_4, okF_92_6, rfN_92_6, okF_92_7, rfN_92_7, okF_92_8, rfN_92_8, okF_92_9, rfN_92_9, okF_92_10, rfN_92_10, okF_92_11, rfN_92_11, okF_92_20, rfN_92_20, okF_92_21, rfN_92_21, okF_92_22, rfN_92_22, okF_92_23, rfN_92_23, okF_92_25, rfN_92_25, okF_92_26, rfN_92_26, okF_92_27, rfN_92_27]
  refine sp_126 (fun I1 f1 f2 => ?_)
  have k1 : Km I I1 := ⟨Fr_mono (fun c hc => by simp at hc ⊢; omega) f1, fun j hj => by rw [f1 92 (by simp)]⟩
  simp (disch := omega) only [@g_130_4, @g_130_5, @g_130_8, @g_130_9, @g_130_10, @g_130_11, @g_130_12, @g_130_13, @g_130_16, @g_130_17, nlO_n, nlO_i, nlO_r, ret01_0, ret01_1, ret01_if, ret01_fi, true_and, Option.toList_some, Option.toList_none, List.cons_append, List.nil_append, ii_1, ii_0, ii_R, ij_1, ij_0, ij_R, ite_not, if_true, if_false, Int.one_ne_zero, one_e1, not_true_eq_false, not_false_eq_true, and_true, and_false, false_and, or_false, false_or, or_true, true_or, and_self, or_self, inr_n1000100, inr_n1000010, inr_n1000003, inr_n1000002, inr_n1000001, inr_n1000000, inr_n1, inr_0, inr_1, inr_2, inr_3, inr_4, inr_5, inr_6, inr_7, inr_8, inr_10, inr_11, inr_12, inr_13, inr_14, inr_15, inr_16, inr_20, inr_21, inr_22, inr_23, inr_24, inr_29, inr_30, inr_31, inr_32, inr_39, inr_40, inr_44, inr_48, inr_53, inr_54, inr_57, inr_59, inr_63, inr_97, inr_100, inr_101, inr_102, inr_104, inr_105, inr_106, inr_110, inr_112, inr_116, inr_120, inr_122, inr_144, inr_255, inr_256, inr_320, inr_552, inr_576, inr_999, inr_1000, inr_1023, inr_1024, inr_2048, inr_1000000, inr_252645135, inr_858993459, inr_1431655765, okO_92, okF_92_0, rfN_92_0, okF_92_2, rfN_92_2, okF_92_3, rfN_92_3, okF_92_4, rfN_92_4, okF_92_6, rfN_92_6, okF_92_7, rfN_92_7, okF_92_8, rfN_92_8, okF_92_9, rfN_92_9, okF_92_10, rfN_92_10, okF_92_11, rfN_92_11, okF_92_20, rfN_92_20, okF_92_21, rfN_92_21, okF_92_22, rfN_92_22, okF_92_23, rfN_92_23, okF_92_25, rfN_92_25, okF_92_26, rfN_92_26, okF_92_27, rfN_92_27, okA_95, lnN_95, o_R, o_le, o_lt, o_nlt, o_nle, o_eq, o_ne]
  have k2 : Km I (up (up I1 95 0 1) 92 15 0) := Km_trans (Km_trans k1 Km_95) (Km_92 (by omega))
  have T2 := TPm_K T k2
  have e95 : ∀ i : Int, 0 ≤ i → i < 53 → up (up I1 95 0 1) 92 15 0 95 i = eS i := fun i i0 i1 => by
    rw [up_ne (by omega)]
    unfold eS
    by_cases hi : i = 0
    · rw [if_pos hi, hi, up_same]
    · rw [if_neg hi, up_nj hi, f2 i i0 i1]
  have hex := prs_ex (b := b) (len := len) e95
  have hf' : ∀ I' e, prS b len (up (up I1 95 0 1) 92 15 0 95) = .inl e → Km I I' → FaM I' e → Q (some (.inl 0)) I' J := fun I' e he g1 g2 => by
    rcases hex with ⟨e2, q1, q2⟩ | ⟨a4, s4, s4', q1, q2, q3⟩
    · rw [he] at q2
      cases q2
      exact hf I' e q1 g1 g2
    · rw [he] at q2
      cases q2
  have hk' : ∀ I' a s, prS b len (up (up I1 95 0 1) 92 15 0 95) = .inr (a, s) → Km I I' → I' 95 = s → Q (some (.inl 1)) I' J := fun I' a s he g1 g2 => by
    rcases hex with ⟨e2, q1, q2⟩ | ⟨a4, s4, s4', q1, q2, q3⟩
    · rw [he] at q2
      cases q2
    · rw [he] at q2
      cases q2
      exact hk I' a s4 q1 g1 (fun i i0 i1 => by rw [g2]; exact q3 i i0 i1)
  unfold prS at hf' hk'
  refine sp_127 (s := up (up I1 95 0 1) 92 15 0 95) T2 (by rw [up_same]) rfl (fun I2 e he k3 f3 => ?_) (fun I2 a4 s4 he k3 f3 f4 a40 a41 => ?_)
  · rw [he] at hf'
    simp (disch := omega) only [@g_130_0, @g_130_1, @g_130_4, @g_130_5, @g_130_8, @g_130_9, @g_130_10, @g_130_11, @g_130_12, @g_130_13, @g_130_16, @g_130_17, @g_130_20, @g_130_23, @g_130_24, @g_130_25, @g_130_26, @g_130_30, @g_130_33, @g_130_36, @g_130_37, @g_130_40, @g_130_43, @g_130_44, @g_130_45, @g_130_46, @g_130_49, @g_130_52, @g_130_53, nlO_n, nlO_i, nlO_r, ret01_0, ret01_1, ret01_if, ret01_fi, true_and, Option.toList_some, Option.toList_none, List.cons_append, List.nil_append, ii_1, ii_0, ii_R, ij_1, ij_0, ij_R, ite_not, if_true, if_false, Int.one_ne_zero, one_e1, not_true_eq_false, not_false_eq_true, and_true, and_false, false_and, or_false, false_or, or_true, true_or, and_self, or_self, inr_n1000100, inr_n1000010, inr_n1000003, inr_n1000002, inr_n1000001, inr_n1000000, inr_n1, inr_0, inr_1, inr_2, inr_3, inr_4, inr_5, inr_6, inr_7, inr_8, inr_10, inr_11, inr_12, inr_13, inr_14, inr_15, inr_16, inr_20, inr_21, inr_22, inr_23, inr_24, inr_29, inr_30, inr_31, inr_32, inr_39, inr_40, inr_44, inr_48, inr_53, inr_54, inr_57, inr_59, inr_63, inr_97, inr_100, inr_101, inr_102, inr_104, inr_105, inr_106, inr_110, inr_112, inr_116, inr_120, inr_122, inr_144, inr_255, inr_256, inr_320, inr_552, inr_576, inr_999, inr_1000, inr_1023, inr_1024, inr_2048, inr_1000000, inr_252645135, inr_858993459, inr_1431655765, o_R, o_le, o_lt, o_nlt, o_nle, o_eq, o_ne]
    exact hf' I2 e rfl (Km_trans k2 k3) f3
  · rw [he] at hf' hk'
    have hz : s4 1 = 0 ∧ s4 2 = 0 := by
      have hA : ∀ (s : HV) (a4 : Int) (s4 : HV), pLaw b len s = .inr (a4, s4) → s4 1 = s 1 ∧ s4 2 = s 2 := fun s a4 s4 h => by
        unfold pLaw at h
        cases h9 : pSgn b len 0 104 with
        | inl e => rw [h9] at h; cases h
        | inr a1 =>
          rw [h9] at h
          obtain ⟨z1, z2, z3⟩ := pSgn_k h9 (by omega)
          cases h8 : pNum b len a1 1 24 with
          | inl e => simp only [h8] at h; cases h
          | inr p8 =>
            simp only [h8] at h
            obtain ⟨y1, y2, y3, y4, y5, y6⟩ := pNum_k (by omega) (by omega) h8
            cases h7 : pBeh b len 4 0 p8.1 (sv s 3 p8.2) with
            | inl e => rw [h7] at h; cases h
            | inr p7 =>
              simp only [h7] at h
              cases h6 : pSgn b len p7.1 59 with
              | inl e => rw [h6] at h; cases h
              | inr a6 =>
                rw [h6] at h
                cases h
                obtain ⟨q1, -⟩ := pBeh_ok 4 0 p8.1 (sv s 3 p8.2) p7.1 p7.2 rfl (by omega) y2 h7
                exact ⟨by rw [q1 1 (by omega), sv_n (by omega)], by rw [q1 2 (by omega), sv_n (by omega)]⟩
      obtain ⟨q1, q2⟩ := hA _ _ _ he
      exact ⟨by rw [q1, e95 1 (by omega) (by omega)]; rfl, by rw [q2, e95 2 (by omega) (by omega)]; rfl⟩
    have T3 := TPm_K T2 k3
    simp (disch := omega) only [@g_130_0, @g_130_1, @g_130_4, @g_130_5, @g_130_8, @g_130_9, @g_130_10, @g_130_11, @g_130_12, @g_130_13, @g_130_16, @g_130_17, @g_130_20, @g_130_23, @g_130_24, @g_130_25, @g_130_26, @g_130_30, @g_130_33, @g_130_36, @g_130_37, @g_130_40, @g_130_43, @g_130_44, @g_130_45, @g_130_46, @g_130_49, @g_130_52, @g_130_53, nlO_n, nlO_i, nlO_r, ret01_0, ret01_1, ret01_if, ret01_fi, true_and, Option.toList_some, Option.toList_none, List.cons_append, List.nil_append, ii_1, ii_0, ii_R, ij_1, ij_0, ij_R, ite_not, if_true, if_false, Int.one_ne_zero, one_e1, not_true_eq_false, not_false_eq_true, and_true, and_false, false_and, or_false, false_or, or_true, true_or, and_self, or_self, inr_n1000100, inr_n1000010, inr_n1000003, inr_n1000002, inr_n1000001, inr_n1000000, inr_n1, inr_0, inr_1, inr_2, inr_3, inr_4, inr_5, inr_6, inr_7, inr_8, inr_10, inr_11, inr_12, inr_13, inr_14, inr_15, inr_16, inr_20, inr_21, inr_22, inr_23, inr_24, inr_29, inr_30, inr_31, inr_32, inr_39, inr_40, inr_44, inr_48, inr_53, inr_54, inr_57, inr_59, inr_63, inr_97, inr_100, inr_101, inr_102, inr_104, inr_105, inr_106, inr_110, inr_112, inr_116, inr_120, inr_122, inr_144, inr_255, inr_256, inr_320, inr_552, inr_576, inr_999, inr_1000, inr_1023, inr_1024, inr_2048, inr_1000000, inr_252645135, inr_858993459, inr_1431655765, okO_92, okF_92_0, rfN_92_0, okF_92_2, rfN_92_2, okF_92_3, rfN_92_3, okF_92_4, rfN_92_4, okF_92_6, rfN_92_6, okF_92_7, rfN_92_7, okF_92_8, rfN_92_8, okF_92_9, rfN_92_9, okF_92_10, rfN_92_10, okF_92_11, rfN_92_11, okF_92_20, rfN_92_20, okF_92_21, rfN_92_21, okF_92_22, rfN_92_22, okF_92_23, rfN_92_23, okF_92_25, rfN_92_25, okF_92_26, rfN_92_26, okF_92_27, rfN_92_27, o_R, o_le, o_lt, o_nlt, o_nle, o_eq, o_ne]
    refine sp_122 T3 f3 a40 a41 (fun I3 hI => ?_)
    obtain ⟨q1, q2, q3, q4, q5, q6, q7⟩ := hI
    simp (disch := omega) only [@g_130_0, @g_130_1, @g_130_4, @g_130_5, @g_130_8, @g_130_9, @g_130_10, @g_130_11, @g_130_12, @g_130_13, @g_130_16, @g_130_17, @g_130_20, @g_130_23, @g_130_24, @g_130_25, @g_130_26, @g_130_30, @g_130_33, @g_130_36, @g_130_37, @g_130_40, @g_130_43, @g_130_44, @g_130_45, @g_130_46, @g_130_49, @g_130_52, @g_130_53, nlO_n, nlO_i, nlO_r, ret01_0, ret01_1, ret01_if, ret01_fi, true_and, Option.toList_some, Option.toList_none, List.cons_append, List.nil_append, ii_1, ii_0, ii_R, ij_1, ij_0, ij_R, ite_not, if_true, if_false, Int.one_ne_zero, one_e1, not_true_eq_false, not_false_eq_true, and_true, and_false, false_and, or_false, false_or, or_true, true_or, and_self, or_self, inr_n1000100, inr_n1000010, inr_n1000003, inr_n1000002, inr_n1000001, inr_n1000000, inr_n1, inr_0, inr_1, inr_2, inr_3, inr_4, inr_5, inr_6, inr_7, inr_8, inr_10, inr_11, inr_12, inr_13, inr_14, inr_15, inr_16, inr_20, inr_21, inr_22, inr_23, inr_24, inr_29, inr_30, inr_31, inr_32, inr_39, inr_40, inr_44, inr_48, inr_53, inr_54, inr_57, inr_59, inr_63, inr_97, inr_100, inr_101, inr_102, inr_104, inr_105, inr_106, inr_110, inr_112, inr_116, inr_120, inr_122, inr_144, inr_255, inr_256, inr_320, inr_552, inr_576, inr_999, inr_1000, inr_1023, inr_1024, inr_2048, inr_1000000, inr_252645135, inr_858993459, inr_1431655765]
    exact lp_130 T 14 a4 s4 I3 (by omega) (by omega) (by omega) (by omega) (by omega) a40 a41 (Km_trans (Km_trans k2 k3) q1) ⟨q4, q5, q6, q7⟩ (q2.trans f4) hf' hk'
end
