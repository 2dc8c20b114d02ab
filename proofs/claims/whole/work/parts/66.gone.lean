/-! ===== gone by: the calls' parts ===== -/
theorem Inv_S0 {n : Nat} {I I' : MI} {J : MJ} (h : Inv n I J) (hs : Sm I I') : Inv n I' J := by
  obtain ⟨h1, h2, h3, h4, h5, h6, h7, h8, h9⟩ := h
  have hB := h4.1.2.2
  obtain ⟨b0, b1, b2, b3, b4, b5, b6, b7, b8, b9⟩ := hs
  have q : ∀ c, ((2 ≤ c ∧ c ≤ 9) ∨ c = 14 ∨ (20 ≤ c ∧ c ≤ 46) ∨ (59 ≤ c ∧ c < 92) ∨ c = 93 ∨ c = 94 ∨ (96 ≤ c ∧ c ≤ 102)) → I' c = I c := b0
  exact ⟨RRs_cong (fun c _ _ => q c (by omega)) (q 99 (by omega)) (q 100 (by omega)) (q 101 (by omega)) h1, RTp_cong b2 b3 (q 20 (by omega)) b5 b9 (q 93 (by omega)) h2, RSt_cong b1 b8 h3,
    ROK_cong (by omega) (by omega) (fun c _ _ => q c (by omega)) (q 94 (by omega)) h4, RIm_cong (by omega) (by omega) (fun c _ _ => q c (by omega)) (q 97 (by omega)) (q 98 (by omega)) h5,
    RAs_cong (by omega) (fun c _ _ => q c (by omega)) b6 (q 94 (by omega)) (q 96 (by omega)) h6, RTr_cong b4 (q 59 (by omega)) b7 (q 102 (by omega)) h7,
    RAk_cong (by omega) (q 6 (by omega)) (q 14 (by omega)) (q 80 (by omega)) (q 88 (by omega)) h8, h9⟩
def mtN (ord : Int → Int) : Nat → Int
  | 0 => 0
  | m + 1 => orI (mtN ord m) (shlI 1 (ord m))
theorem mtN_s {ord : Int → Int} {m : Nat} : mtN ord (m + 1) = orI (mtN ord m) (shlI 1 (ord m)) := rfl
def okN (g : HV) (ord : Int → Int) : Nat → Bool
  | 0 => true
  | m + 1 => okN g ord m && (decide (0 ≤ ord m ∧ ord m < g 2) && !tb (mtN ord m) (ord m))
theorem okN_s {g : HV} {ord : Int → Int} {m : Nat} : okN g ord (m + 1) = (okN g ord m && (decide (0 ≤ ord m ∧ ord m < g 2) && !tb (mtN ord m) (ord m))) := rfl
theorem okN_f {g : HV} {ord : Int → Int} {m : Nat} (h : okN g ord m = false) : ∀ k : Nat, okN g ord (m + k) = false
  | 0 => h
  | k + 1 => by
    show okN g ord ((m + k) + 1) = false
    rw [okN_s, okN_f h k]
    rfl
theorem ok_rng {g : HV} {ord : Int → Int} : ∀ m : Nat, okN g ord m = true → ∀ j : Int, 0 ≤ j → j < m → 0 ≤ ord j ∧ ord j < g 2
  | 0, _, j, h0, h1 => by omega
  | m + 1, h, j, h0, h1 => by
    rw [okN_s, Bool.and_eq_true, Bool.and_eq_true, decide_eq_true_eq] at h
    by_cases hj : j = m
    · rw [hj]; exact h.2.1
    · exact ok_rng m h.1 j h0 (by omega)
theorem mt_tb {g : HV} {ord : Int → Int} (h2 : g 2 ≤ 5) : ∀ m : Nat, okN g ord m = true → ∀ i : Int, 0 ≤ i → i < m → tb (mtN ord m) (ord i) = true
  | 0, _, i, h0, h1 => by omega
  | m + 1, h, i, h0, h1 => by
    have hr := ok_rng (m + 1) h
    have r1 := hr i h0 h1
    have r2 := hr m (by omega) (by omega)
    rw [okN_s, Bool.and_eq_true] at h
    rw [mtN_s, tb_or]
    by_cases hi : i = m
    · rw [hi, tb_shl r2.1 (by omega) r2.1 (by omega), decide_eq_true rfl, Bool.or_true]
    · rw [mt_tb h2 m h.1 i h0 (by omega), Bool.true_or]
theorem ok_dist {g : HV} {ord : Int → Int} (h2 : g 2 ≤ 5) : ∀ m : Nat, okN g ord m = true → ∀ i j : Int, 0 ≤ i → i < j → j < m → ord i ≠ ord j
  | 0, _, i, j, h0, h1, h3 => by omega
  | m + 1, h, i, j, h0, h1, h3 => by
    rw [okN_s, Bool.and_eq_true, Bool.and_eq_true, Bool.not_eq_true'] at h
    by_cases hj : j = m
    · intro he
      have q := mt_tb h2 m h.1 i h0 (by omega)
      rw [he, hj, h.2.2] at q
      cases q
    · exact ok_dist h2 m h.1 i j h0 h1 (by omega)
/-- the hedge as it began -/
def zS (g : HV) : HV := fun i => if 29 ≤ i ∧ i < 53 then (if i = 30 ∨ (32 ≤ i ∧ i ≤ 39) ∨ 48 ≤ i then -1 else 0) else g i
theorem zS_o {g : HV} {i : Int} (h : i < 29 ∨ 53 ≤ i) : zS g i = g i := by unfold zS; rw [if_neg (by omega)]
theorem zS_m {g : HV} {i : Int} (h : i = 30 ∨ (32 ≤ i ∧ i ≤ 39) ∨ (48 ≤ i ∧ i < 53)) : zS g i = -1 := by unfold zS; rw [if_pos (by omega), if_pos (by omega)]
theorem zS_z {g : HV} {i : Int} (h : i = 29 ∨ i = 31 ∨ (40 ≤ i ∧ i < 48)) : zS g i = 0 := by unfold zS; rw [if_pos (by omega), if_neg (by omega)]
theorem zS_ok {B : Int} {g : HV} (M : MOK B g) : MOK B (zS g) := by
  have b1 := B_1 M
  have b2 := B_2 M
  have b29 := M.2.1.1
  have b29b := M.2.1.2.1
  refine ⟨WTo_ext (fun i a b => zS_o (by omega)) M.1, ⟨?_, ?_, ?_, ?_, ?_, ?_, fun w a b => ?_, fun t a b => ?_⟩, M.2.2⟩
  · rw [zS_z (by omega)]; omega
  · rw [zS_z (by omega)]; omega
  · rw [zS_m (by omega)]; omega
  · rw [zS_m (by omega)]; omega
  · rw [zS_z (by omega)]; omega
  · rw [zS_z (by omega)]; exact (nPas_le _ _).1
  · rw [zS_o (by omega)] at b
    rw [zS_m (by omega), zS_z (by omega)]
    omega
  · rw [zS_o (by omega)] at b
    rw [zS_m (by omega)]
    omega
section
variable {x : RO} {d : Nat} {Q : QT} {I : MI} {J : MJ} {n : Nat} {g : HV}
theorem lp_67 {B fr N : Int} {m : Nat} {ord : Int → Int} (H : ROK B I 2 g) (hm : m < 8) (hf0 : 0 ≤ fr) (hf1 : fr + N ≤ 40) (hN0 : 0 ≤ N) (hN1 : N ≤ 5) (hit : ∀ k : Int, 0 ≤ k → k < N → I (61 + 2 * m) (fr + k) = ord k ∧ inR (ord k))
    (hq1 : okN g ord N.toNat = true → ∀ I', Fr [55, 57] I I' → I' 55 2 = N → (∀ j : Int, 0 ≤ j → j < N → I' 57 j = ord j) → Q (some (.inl 1)) I' J) (hq0 : okN g ord N.toNat = false → ∀ I', Fr [55, 57] I I' → Q (some (.inl 0)) I' J) :
    ∀ (q k : Nat) (u : Option AV) (I1 : MI), (k : Int) ≤ N → (N - k).toNat = q → Fr [55, 57] I I1 → I1 55 2 = N → (∀ j : Int, 0 ≤ j → j < k → I1 57 j = ord j) → okN g ord k = true → GO x (d + 1) 67 Q 16 [some (.inr (.inr (.inl 55))), some (.inr (.inr (.inl 2))), some (.inr (.inr (.inl (60 + 2 * m)))), some (.inl fr), some (.inl N), some (.inl (mtN ord k)), some (.inl k), u] [] I1 J := by
  have b2 := B_2 H.1
  intro q
  induction q with
  | zero =>
    intro k u I1 h1 h2 f1 f2 f3 f4
    have e : N.toNat = k := by omega
    have e2 : N = k := by omega
    rw [@g_67_16]
    simp (disch := omega) only [@g_67_0, @g_67_1, @g_67_3, @g_67_4, @g_67_7, @g_67_10, @g_67_11, @g_67_13, @g_67_14, @g_67_18, @g_67_19, @g_67_22, @g_67_25, @g_67_26, @g_67_29, @g_67_30, @g_67_32, @g_67_33, @h_67_33, @g_67_34, @g_67_36, @g_67_37, @g_67_39, @g_67_42, @g_67_45, @g_67_47, @g_67_49, @g_67_52, @g_67_55, @g_67_56, @g_67_57, @g_67_59, @g_67_60, @g_67_62, @g_67_63, @g_67_64, @g_67_66, @g_67_67, @g_67_70, @g_67_72, @g_67_74, @g_67_75, @g_67_78, @g_67_81, @g_67_82, nlO_n, nlO_i, nlO_r, ret01_0, ret01_1, ret01_if, ret01_fi, true_and, Option.toList_some, Option.toList_none, List.cons_append, List.nil_append, ii_1, ii_0, ii_R, ij_1, ij_0, ij_R, ite_not, if_true, if_false, Int.one_ne_zero, one_e1, not_true_eq_false, not_false_eq_true, and_true, and_false, false_and, or_false, false_or, or_true, true_or, and_self, or_self, inr_n1000100, inr_n1000010, inr_n1000003, inr_n1000002, inr_n1000001, inr_n1000000, inr_n1, inr_0, inr_1, inr_2, inr_3, inr_4, inr_5, inr_6, inr_7, inr_8, inr_10, inr_11, inr_12, inr_13, inr_14, inr_15, inr_16, inr_20, inr_21, inr_22, inr_23, inr_24, inr_29, inr_30, inr_31, inr_32, inr_39, inr_40, inr_44, inr_48, inr_53, inr_54, inr_57, inr_59, inr_63, inr_97, inr_100, inr_101, inr_102, inr_104, inr_105, inr_106, inr_110, inr_112, inr_116, inr_120, inr_122, inr_144, inr_255, inr_256, inr_320, inr_552, inr_576, inr_999, inr_1000, inr_1023, inr_1024, inr_2048, inr_1000000, inr_252645135, inr_858993459, inr_1431655765, okO_55, okF_55_0, rfN_55_0, okF_55_1, rfN_55_1, o_R, o_le, o_lt, o_nlt, o_nle, o_eq, o_ne, f2]
    exact hq1 (by rw [e]; exact f4) I1 f1 f2 (by rw [e2]; exact f3)
  | succ q ih =>
    intro k u I1 h1 h2 f1 f2 f3 f4
    obtain ⟨i1, i2, i3⟩ := hit k (by omega) (by omega)
    have H1 : ROK B I1 2 g := ROK_cong (Int.le_refl _) H.1.2.2 (fun c a b => f1 c (by simp; omega)) rfl H
    have i1' : I1 (61 + 2 * m) (fr + k) = ord k := by rw [f1 _ (by simp; omega)]; exact i1
    rw [@g_67_16]
    cases hs : okN g ord (k + 1)
    · have hf : okN g ord N.toNat = false := by
        have h3 := okN_f hs (N.toNat - (k + 1))
        rw [show k + 1 + (N.toNat - (k + 1)) = N.toNat by omega] at h3
        exact h3
      rw [okN_s, f4, Bool.true_and] at hs
      by_cases ho : 0 ≤ ord k ∧ ord k < g 2
      · rw [decide_eq_true ho, Bool.true_and] at hs
        have hs2 : tb (mtN ord k) (ord k) = true := by cases hq : tb (mtN ord k) (ord k) <;> simp_all
        simp (disch := omega) only [@g_67_0, @g_67_1, @g_67_3, @g_67_4, @g_67_7, @g_67_10, @g_67_11, @g_67_13, @g_67_14, @g_67_18, @g_67_19, @g_67_22, @g_67_25, @g_67_26, @g_67_29, @g_67_30, @g_67_32, @g_67_33, @h_67_33, @g_67_34, @g_67_36, @g_67_37, @g_67_39, @g_67_42, @g_67_45, @g_67_47, @g_67_49, @g_67_52, @g_67_55, @g_67_56, @g_67_57, @g_67_59, @g_67_60, @g_67_62, @g_67_63, @g_67_64, @g_67_66, @g_67_67, @g_67_70, @g_67_72, @g_67_74, @g_67_75, @g_67_78, @g_67_81, @g_67_82, nlO_n, nlO_i, nlO_r, ret01_0, ret01_1, ret01_if, ret01_fi, true_and, Option.toList_some, Option.toList_none, List.cons_append, List.nil_append, ii_1, ii_0, ii_R, ij_1, ij_0, ij_R, ite_not, if_true, if_false, Int.one_ne_zero, one_e1, not_true_eq_false, not_false_eq_true, and_true, and_false, false_and, or_false, false_or, or_true, true_or, and_self, or_self, inr_n1000100, inr_n1000010, inr_n1000003, inr_n1000002, inr_n1000001, inr_n1000000, inr_n1, inr_0, inr_1, inr_2, inr_3, inr_4, inr_5, inr_6, inr_7, inr_8, inr_10, inr_11, inr_12, inr_13, inr_14, inr_15, inr_16, inr_20, inr_21, inr_22, inr_23, inr_24, inr_29, inr_30, inr_31, inr_32, inr_39, inr_40, inr_44, inr_48, inr_53, inr_54, inr_57, inr_59, inr_63, inr_97, inr_100, inr_101, inr_102, inr_104, inr_105, inr_106, inr_110, inr_112, inr_116, inr_120, inr_122, inr_144, inr_255, inr_256, inr_320, inr_552, inr_576, inr_999, inr_1000, inr_1023, inr_1024, inr_2048, inr_1000000, inr_252645135, inr_858993459, inr_1431655765, okO_2, okF_2_2, rfN_2_2, okF_2_4, rfN_2_4, okF_2_5, rfN_2_5, okF_2_6, rfN_2_6, okF_2_7, rfN_2_7, okF_2_9, rfN_2_9, okF_2_10, rfN_2_10, okO_55, okF_55_0, rfN_55_0, okF_55_1, rfN_55_1, o_R, o_le, o_lt, o_nlt, o_nle, o_eq, o_ne, f2, okF_row, rfN_row, okA_row, lnN_row, okO_row, i1', sp_17y H1 ho.1 ho.2, sp_105, hs2, if_true, if_false, Bool.false_eq_true, Bool.not_false, Bool.not_true, Bool.and_true, Bool.and_false, Bool.true_and, Bool.false_and, Bool.or_true, Bool.or_false, Bool.true_or, Bool.false_or, ite_self]
        exact hq0 hf I1 f1
      · simp (disch := omega) only [@g_67_0, @g_67_1, @g_67_3, @g_67_4, @g_67_7, @g_67_10, @g_67_11, @g_67_13, @g_67_14, @g_67_18, @g_67_19, @g_67_22, @g_67_25, @g_67_26, @g_67_29, @g_67_30, @g_67_32, @g_67_33, @h_67_33, @g_67_34, @g_67_36, @g_67_37, @g_67_39, @g_67_42, @g_67_45, @g_67_47, @g_67_49, @g_67_52, @g_67_55, @g_67_56, @g_67_57, @g_67_59, @g_67_60, @g_67_62, @g_67_63, @g_67_64, @g_67_66, @g_67_67, @g_67_70, @g_67_72, @g_67_74, @g_67_75, @g_67_78, @g_67_81, @g_67_82, nlO_n, nlO_i, nlO_r, ret01_0, ret01_1, ret01_if, ret01_fi, true_and, Option.toList_some, Option.toList_none, List.cons_append, List.nil_append, ii_1, ii_0, ii_R, ij_1, ij_0, ij_R, ite_not, if_true, if_false, Int.one_ne_zero, one_e1, not_true_eq_false, not_false_eq_true, and_true, and_false, false_and, or_false, false_or, or_true, true_or, and_self, or_self, inr_n1000100, inr_n1000010, inr_n1000003, inr_n1000002, inr_n1000001, inr_n1000000, inr_n1, inr_0, inr_1, inr_2, inr_3, inr_4, inr_5, inr_6, inr_7, inr_8, inr_10, inr_11, inr_12, inr_13, inr_14, inr_15, inr_16, inr_20, inr_21, inr_22, inr_23, inr_24, inr_29, inr_30, inr_31, inr_32, inr_39, inr_40, inr_44, inr_48, inr_53, inr_54, inr_57, inr_59, inr_63, inr_97, inr_100, inr_101, inr_102, inr_104, inr_105, inr_106, inr_110, inr_112, inr_116, inr_120, inr_122, inr_144, inr_255, inr_256, inr_320, inr_552, inr_576, inr_999, inr_1000, inr_1023, inr_1024, inr_2048, inr_1000000, inr_252645135, inr_858993459, inr_1431655765, okO_2, okF_2_2, rfN_2_2, okF_2_4, rfN_2_4, okF_2_5, rfN_2_5, okF_2_6, rfN_2_6, okF_2_7, rfN_2_7, okF_2_9, rfN_2_9, okF_2_10, rfN_2_10, okO_55, okF_55_0, rfN_55_0, okF_55_1, rfN_55_1, o_R, o_le, o_lt, f2, okF_row, rfN_row, okA_row, lnN_row, okO_row, i1', sp_17 H1, ho]
        exact hq0 hf I1 f1
    · have hs' := hs
      rw [okN_s, f4, Bool.true_and, Bool.and_eq_true, decide_eq_true_eq, Bool.not_eq_true'] at hs
      obtain ⟨ho, hs2⟩ := hs
      have ih2 := ih (k + 1) (some (.inl (ord k))) (up I1 57 k (ord k)) (by omega) (by omega) (Fr_trans f1 (Fr_up (by simp))) (by rw [up_ne (by omega)]; exact f2) (fun j a b => by
        by_cases hj : j = k
        · rw [hj, up_same]
        · rw [up_nj hj]
          exact f3 j a (by omega)) hs'
      rw [show ((k + 1 : Nat) : Int) = (k : Int) + 1 from rfl, mtN_s] at ih2
      simp (disch := omega) only [@g_67_0, @g_67_1, @g_67_3, @g_67_4, @g_67_7, @g_67_10, @g_67_11, @g_67_13, @g_67_14, @g_67_18, @g_67_19, @g_67_22, @g_67_25, @g_67_26, @g_67_29, @g_67_30, @g_67_32, @g_67_33, @h_67_33, @g_67_34, @g_67_36, @g_67_37, @g_67_39, @g_67_42, @g_67_45, @g_67_47, @g_67_49, @g_67_52, @g_67_55, @g_67_56, @g_67_57, @g_67_59, @g_67_60, @g_67_62, @g_67_63, @g_67_64, @g_67_66, @g_67_67, @g_67_70, @g_67_72, @g_67_74, @g_67_75, @g_67_78, @g_67_81, @g_67_82, nlO_n, nlO_i, nlO_r, ret01_0, ret01_1, ret01_if, ret01_fi, true_and, Option.toList_some, Option.toList_none, List.cons_append, List.nil_append, ii_1, ii_0, ii_R, ij_1, ij_0, ij_R, ite_not, if_true, if_false, Int.one_ne_zero, one_e1, not_true_eq_false, not_false_eq_true, and_true, and_false, false_and, or_false, false_or, or_true, true_or, and_self, or_self, inr_n1000100, inr_n1000010, inr_n1000003, inr_n1000002, inr_n1000001, inr_n1000000, inr_n1, inr_0, inr_1, inr_2, inr_3, inr_4, inr_5, inr_6, inr_7, inr_8, inr_10, inr_11, inr_12, inr_13, inr_14, inr_15, inr_16, inr_20, inr_21, inr_22, inr_23, inr_24, inr_29, inr_30, inr_31, inr_32, inr_39, inr_40, inr_44, inr_48, inr_53, inr_54, inr_57, inr_59, inr_63, inr_97, inr_100, inr_101, inr_102, inr_104, inr_105, inr_106, inr_110, inr_112, inr_116, inr_120, inr_122, inr_144, inr_255, inr_256, inr_320, inr_552, inr_576, inr_999, inr_1000, inr_1023, inr_1024, inr_2048, inr_1000000, inr_252645135, inr_858993459, inr_1431655765, okO_2, okF_2_2, rfN_2_2, okF_2_4, rfN_2_4, okF_2_5, rfN_2_5, okF_2_6, rfN_2_6, okF_2_7, rfN_2_7, okF_2_9, rfN_2_9, okF_2_10, rfN_2_10, okO_55, okF_55_0, rfN_55_0, okF_55_1, rfN_55_1, okA_57, lnN_57, o_R, o_le, o_lt, o_nlt, o_nle, o_eq, o_ne, f2, okF_row, rfN_row, okA_row, lnN_row, okO_row, i1', sp_17y H1 ho.1 ho.2, sp_105, hs2, if_true, if_false, Bool.false_eq_true, Bool.not_false, Bool.not_true, Bool.and_true, Bool.and_false, Bool.true_and, Bool.false_and, Bool.or_true, Bool.or_false, Bool.true_or, Bool.false_or, ite_self]
      exact ih2
theorem sp_67 {B fr N : Int} {m : Nat} {ord : Int → Int} (H : ROK B I 2 g) (hm : m < 8) (hf0 : 0 ≤ fr) (hf1 : fr + N ≤ 40) (hN0 : 0 ≤ N) (hN1 : N ≤ 5) (hit : ∀ k : Int, 0 ≤ k → k < N → I (61 + 2 * m) (fr + k) = ord k ∧ inR (ord k))
    (hq1 : okN g ord N.toNat = true → ∀ I', Fr [55, 57] I I' → I' 55 2 = N → (∀ j : Int, 0 ≤ j → j < N → I' 57 j = ord j) → Q (some (.inl 1)) I' J) (hq0 : okN g ord N.toNat = false → ∀ I', Fr [55, 57] I I' → Q (some (.inl 0)) I' J) :
    EX x (d + 2) 67 [.inr (.inr (.inl 55)), .inr (.inr (.inl 2)), .inr (.inr (.inl (60 + 2 * m))), .inl fr, .inl N] I J Q := by
  simp (disch := omega) only [@g_67_0, @g_67_1, @g_67_3, @g_67_4, @g_67_7, @g_67_10, @g_67_11, @g_67_13, @g_67_14, @g_67_18, @g_67_19, @g_67_22, @g_67_25, @g_67_26, @g_67_29, @g_67_30, @g_67_32, @g_67_33, @h_67_33, @g_67_34, @g_67_36, @g_67_37, @g_67_39, @g_67_42, @g_67_45, @g_67_47, @g_67_49, @g_67_52, @g_67_55, @g_67_56, @g_67_57, @g_67_59, @g_67_60, @g_67_62, @g_67_63, @g_67_64, @g_67_66, @g_67_67, @g_67_70, @g_67_72, @g_67_74, @g_67_75, @g_67_78, @g_67_81, @g_67_82, @e_67, nlO_n, nlO_i, nlO_r, ret01_0, ret01_1, ret01_if, ret01_fi, true_and, Option.toList_some, Option.toList_none, List.cons_append, List.nil_append, ii_1, ii_0, ii_R, ij_1, ij_0, ij_R, ite_not, if_true, if_false, Int.one_ne_zero, one_e1, not_true_eq_false, not_false_eq_true, and_true, and_false, false_and, or_false, false_or, or_true, true_or, and_self, or_self, inr_n1000100, inr_n1000010, inr_n1000003, inr_n1000002, inr_n1000001, inr_n1000000, inr_n1, inr_0, inr_1, inr_2, inr_3, inr_4, inr_5, inr_6, inr_7, inr_8, inr_10, inr_11, inr_12, inr_13, inr_14, inr_15, inr_16, inr_20, inr_21, inr_22, inr_23, inr_24, inr_29, inr_30, inr_31, inr_32, inr_39, inr_40, inr_44, inr_48, inr_53, inr_54, inr_57, inr_59, inr_63, inr_97, inr_100, inr_101, inr_102, inr_104, inr_105, inr_106, inr_110, inr_112, inr_116, inr_120, inr_122, inr_144, inr_255, inr_256, inr_320, inr_552, inr_576, inr_999, inr_1000, inr_1023, inr_1024, inr_2048, inr_1000000, inr_252645135, inr_858993459, inr_1431655765, okO_55, okF_55_0, rfN_55_0, okF_55_1, rfN_55_1, o_R, o_le, o_lt, o_nlt, o_nle, o_eq, o_ne, catS, Nat.zero_le]
  have key : ∀ v : Int, v = N → GO x (d + 1) 67 Q 16 [some (.inr (.inr (.inl 55))), some (.inr (.inr (.inl 2))), some (.inr (.inr (.inl (60 + 2 * m)))), some (.inl fr), some (.inl N), some (.inl 0), some (.inl 0), none] [] (up I 55 2 v) J := fun v hv => lp_67 H hm hf0 hf1 hN0 hN1 hit hq1 hq0 _ 0 none _ hN0 rfl (Fr_up (by simp)) (by rw [up_same]; exact hv) (fun j a b => by omega) rfl
  first
    | exact ⟨by omega, key _ rfl⟩
    | exact ⟨by omega, key _ (by omega)⟩
    | exact key _ (by omega)
theorem sp_68 {B L : Int} {ord : Int → Int} (H : ROK B I 2 g) (hL0 : 0 ≤ L) (hL1 : L ≤ 5) (hok : okN g ord L.toNat = true) (h55 : I 55 2 = L) (h57 : ∀ j : Int, 0 ≤ j → j < L → I 57 j = ord j) (hB : B + 20 ≤ 100000) (hq : ∀ I', Fr [56] I I' → Q (some (.inl (wyN ord L.toNat 0 (zS g)))) I' J) : EX x (d + 15) 68 [.inr (.inr (.inl 55)), .inr (.inr (.inl 2))] I J Q := by
  have b1 := B_1 H.1
  have b2 := B_2 H.1
  have hr := ok_rng L.toNat hok
  have hd := ok_dist (by omega) L.toNat hok
  simp (disch := omega) only [@g_68_0, @g_68_1, @g_68_4, @g_68_6, @g_68_9, @g_68_10, @g_68_11, @g_68_12, @g_68_13, @g_68_14, @g_68_17, @e_68, nlO_n, nlO_i, nlO_r, ret01_0, ret01_1, ret01_if, ret01_fi, true_and, Option.toList_some, Option.toList_none, List.cons_append, List.nil_append, ii_1, ii_0, ii_R, ij_1, ij_0, ij_R, ite_not, if_true, if_false, Int.one_ne_zero, one_e1, not_true_eq_false, not_false_eq_true, and_true, and_false, false_and, or_false, false_or, or_true, true_or, and_self, or_self, inr_n1000100, inr_n1000010, inr_n1000003, inr_n1000002, inr_n1000001, inr_n1000000, inr_n1, inr_0, inr_1, inr_2, inr_3, inr_4, inr_5, inr_6, inr_7, inr_8, inr_10, inr_11, inr_12, inr_13, inr_14, inr_15, inr_16, inr_20, inr_21, inr_22, inr_23, inr_24, inr_29, inr_30, inr_31, inr_32, inr_39, inr_40, inr_44, inr_48, inr_53, inr_54, inr_57, inr_59, inr_63, inr_97, inr_100, inr_101, inr_102, inr_104, inr_105, inr_106, inr_110, inr_112, inr_116, inr_120, inr_122, inr_144, inr_255, inr_256, inr_320, inr_552, inr_576, inr_999, inr_1000, inr_1023, inr_1024, inr_2048, inr_1000000, inr_252645135, inr_858993459, inr_1431655765, okO_55, okF_55_0, rfN_55_0, okF_55_1, rfN_55_1]
  refine sp_fill (L := 8) (of_eq_true okA_56) lnN_56 (by omega) (by omega) (by unfold okL; decide) ?_
  have f1 : Fr [56] I (flI I 56 0 8 (-1000000)) := fun c hc => flI_ne (by simpa using hc)
  have h1 := sp_69 (x := x) (J := J) (g := g) (B := B) (L := L) (ord := ord) hL0 hL1 (fun i j a b c => hd i j a b (by omega)) (fun j a b => hr j a (by omega)) L.toNat (d + 14) 0 B (zS g) (flI I 56 0 8 (-1000000)) (by omega) (by omega) (by omega) (ROK_cong (Int.le_refl _) H.1.2.2 (fun c a b => f1 c (by simp; omega)) rfl H) (by rw [f1 55 (by simp)]; exact h55) (fun j a b => by rw [f1 57 (by simp)]; exact h57 j a b) (fun i a b => zS_o (by omega)) (zS_ok H.1) (by omega) (fun w a b => by
    rw [flI_in (by omega) (by omega), zS_m (by omega)]
    rfl) (fun j a b => by
    have r := hr j a (by omega)
    unfold passB
    rw [zS_m (by omega)]
    rfl)
  rw [zS_z (by omega), zS_m (by omega)] at h1
  simp (disch := omega) only [@g_68_0, @g_68_1, @g_68_4, @g_68_6, @g_68_9, @g_68_10, @g_68_11, @g_68_12, @g_68_13, @g_68_14, @g_68_17, nlO_n, nlO_i, nlO_r, ret01_0, ret01_1, ret01_if, ret01_fi, true_and, Option.toList_some, Option.toList_none, List.cons_append, List.nil_append, ii_1, ii_0, ii_R, ij_1, ij_0, ij_R, ite_not, if_true, if_false, Int.one_ne_zero, one_e1, not_true_eq_false, not_false_eq_true, and_true, and_false, false_and, or_false, false_or, or_true, true_or, and_self, or_self, inr_n1000100, inr_n1000010, inr_n1000003, inr_n1000002, inr_n1000001, inr_n1000000, inr_n1, inr_0, inr_1, inr_2, inr_3, inr_4, inr_5, inr_6, inr_7, inr_8, inr_10, inr_11, inr_12, inr_13, inr_14, inr_15, inr_16, inr_20, inr_21, inr_22, inr_23, inr_24, inr_29, inr_30, inr_31, inr_32, inr_39, inr_40, inr_44, inr_48, inr_53, inr_54, inr_57, inr_59, inr_63, inr_97, inr_100, inr_101, inr_102, inr_104, inr_105, inr_106, inr_110, inr_112, inr_116, inr_120, inr_122, inr_144, inr_255, inr_256, inr_320, inr_552, inr_576, inr_999, inr_1000, inr_1023, inr_1024, inr_2048, inr_1000000, inr_252645135, inr_858993459, inr_1431655765, okO_55, okF_55_0, rfN_55_0, okF_55_1, rfN_55_1, h1]
  exact hq _ f1
end
