/-! ===== plan: the class's search ===== -/
theorem st_pass {s : HV} {t c : Int} (hp : passB s t = true) (h0 : 16 * t ≤ c) (h1 : c < 16 * t + 16) : stB s c = false := by
  have e : c / 16 = t := by omega
  unfold stB
  rw [e]
  split
  · rw [hp]; rfl
  · unfold askB
    rw [hp]
    simp
theorem st_no {s : HV} {c : Int} (h8 : c % 16 ≠ 8) (h : s 1 ≤ c % 16) : stB s c = false := by
  unfold stB
  rw [if_neg h8, decide_eq_false (by omega)]
  rfl
theorem st_no8 {s : HV} {c : Int} (h8 : c % 16 = 8) (h : s 31 ≤ 0) : stB s c = false := by
  unfold stB
  rw [if_pos h8, decide_eq_false (by omega), Bool.and_false]
theorem impS_no {n : Nat} {k : Int} {s : HV} {tr : Int → Int} {c : Int} {a : AC} (h : stB s c = false) : impS n k s tr c a = a := by
  unfold impS
  rw [h, if_neg (by decide)]
theorem impS_yes {n : Nat} {k : Int} {s : HV} {tr : Int → Int} {c : Int} {a : AC} (h : stB s c = true) : impS n k s tr c a = imp n (k + 1) (nxS s c) (rowU tr k c) a := by
  unfold impS
  rw [h, if_pos rfl]
theorem AkO_of {g s s' : HV} {I I' : MI} (h : AkO g s I) (e : I' 48 = I 48) (h2 : ∀ w : Int, 0 ≤ w → w < g 1 → s' (32 + w) = s (32 + w)) : AkO g s' I' := by
  obtain ⟨h1, h3⟩ := h
  refine ⟨fun w a b => ?_, fun w a b => ?_⟩
  · rw [e, h2 w a b]; exact h1 w a b
  · rw [e]; exact h3 w a b
theorem se_cal2 {x : RO} {g : HV} {B st N : Int} {m n' E : Nat} {k B2 : Int} {s : HV} {tr : Int → Int} {A : AC} {S : HV → Prop} {I I1 I2 : MI} {J J1 : MJ} {Q : QT} {p v29 v30 v31 : Int} (c : Int) (hrec : SE x g B st N m n') (hE : n' + 7 ≤ E) (hk : k + (n' + 1 : Nat) = N) (k0 : 0 ≤ k) (hT : TE g s) (M : MOK B2 s) (hB : B2 + 2 * (n' + 1 : Nat) ≤ 100000) (hn : ((n' + 1 : Nat) : Int) = lft s) (t0 : st ≤ s 29) (t1 : s 29 + 2 * (n' + 1 : Nat) ≤ st + 10) (H : ROK B I 2 g) (hst : I 47 5 = st) (hJ : J 47 4 = Int64.ofNat m) (htr : ∀ j : Int, 0 ≤ j → j < k → I 49 j = tr j) (hS : ∀ σ, S σ → nPas σ (σ 2).toNat ≤ nPas s (s 2).toNat) (a0 : 0 ≤ A.1) (a1 : A.1 ≤ 1000000)
    (hSI : SI g st N k m S I J A I1 J1) (hs : stB s c = true) (c0 : 0 ≤ c) (c1 : c < 16 * s 2) (f1 : ∀ c', c' ≠ 48 → c' ≠ 49 → I2 c' = I1 c') (f49 : ∀ j : Int, j ≠ k → I2 49 j = I1 49 j) (f49k : I2 49 k = c) (hAk : AkO g (nxS s c) I2) (hp : p = orI (pasN s (s 2).toNat) (shlI 1 (c / 16))) (h29 : v29 = nxS s c 29) (h30 : v30 = nxS s c 30) (h31 : v31 = nxS s c 31) (hq : ∀ I' J', SI g st N (k + 1) m S I2 J1 (imp n' (k + 1) (nxS s c) (rowU tr k c) A) I' J' → Q none I' J') :
    EX x E 38 [.inr (.inr (.inl 47)), .inr (.inr (.inl 2)), .inl (k + 1), .inl p, .inl v29, .inl v30, .inl v31] I2 J1 Q := by
  rw [hp, h29, h30, h31]
  exact se_call hrec hE hk k0 hT M hB hn t0 t1 H hst hJ htr hS a0 a1 hSI hs c0 c1 f1 f49 f49k hAk hq
section
variable {x : RO}
theorem se_one {g : HV} {B st N : Int} {m n : Nat} (hg0 : g 0 = 1) (hm : m ≤ 1000) (hN : N ≤ 5) (st0 : 0 ≤ st) (hrec : ∀ n', n = n' + 1 → SE x g B st N m n') : SE x g B st N m n := by
  intro D k B2 s tr a S I J Q hD hk k0 hT M hB hn t0 t1 H hst hJ hAk htr a0 a1 hS hSI hq
  obtain ⟨E, rfl⟩ : ∃ E, D = E + 7 := ⟨D - 7, by omega⟩
  have b1 := B_1 M
  have b2 := B_2 M
  have b29 := B_29 M
  have b30 := B_30 M
  have b31 := B_31 M
  have hBB := M.2.2
  have hSI0 := hSI
  obtain ⟨g1, g2, g3, g4, g5, g6, g7, g8, g9⟩ := hSI
  have e1 : s 1 = g 1 := hT 1 (by omega) (by omega)
  have e2 : s 2 = g 2 := hT 2 (by omega) (by omega)
  have hpR := pas_R (s := s) (m := (s 2).toNat) (by omega)
  have hc : cnt (pasN s (s 2).toNat) 32 = nPas s (s 2).toNat := cnt_pas32 (by omega)
  have hl : lft s = s 2 - nPas s (s 2).toNat := rfl
  have V : VS g st s := ⟨hT, ⟨M.1, b30.1, b30.2⟩, b31.1, b31.2, t0, by omega⟩
  have e8 : I 2 8 = s 2 := by rw [H_8 H, e2]
  have hA : ∀ w : Int, 0 ≤ w → w < g 1 → I 48 w = encN (s (32 + w)) ∧ -1 ≤ s (32 + w) ∧ s (32 + w) ≤ 200000 := fun w p q => by
    have hz := B_a M p (by omega)
    exact ⟨hAk.1 w p q, by omega, by omega⟩
  by_cases c1 : s 29 + n < a.1
  case neg =>
    have ei : imp n k s tr a = a := imp_id _ _ _ _ _ (by
      have := mh_ge n s (by omega)
      omega)
    rw [ei] at hq
    rw [@e_38]
    simp (disch := omega) only [@g_38_0, @g_38_1, @g_38_4, @g_38_5, @g_38_8, @g_38_9, @g_38_11, @g_38_13, @g_38_15, @g_38_16, @g_38_17, @g_38_20, @g_38_23, nlO_n, nlO_i, nlO_r, ret01_0, ret01_1, ret01_if, ret01_fi, true_and, Option.toList_some, Option.toList_none, List.cons_append, List.nil_append, ii_1, ii_0, ii_R, ij_1, ij_0, ij_R, ite_not, if_true, if_false, Int.one_ne_zero, one_e1, not_true_eq_false, not_false_eq_true, and_true, and_false, false_and, or_false, false_or, or_true, true_or, and_self, or_self, inr_n1000100, inr_n1000010, inr_n1000003, inr_n1000002, inr_n1000001, inr_n1000000, inr_n1, inr_0, inr_1, inr_2, inr_3, inr_4, inr_5, inr_6, inr_7, inr_8, inr_10, inr_11, inr_12, inr_13, inr_14, inr_15, inr_16, inr_20, inr_21, inr_22, inr_23, inr_24, inr_29, inr_30, inr_31, inr_32, inr_39, inr_40, inr_44, inr_48, inr_53, inr_54, inr_57, inr_59, inr_63, inr_97, inr_100, inr_101, inr_102, inr_104, inr_105, inr_106, inr_110, inr_112, inr_116, inr_120, inr_122, inr_144, inr_255, inr_256, inr_320, inr_552, inr_576, inr_999, inr_1000, inr_1023, inr_1024, inr_2048, inr_1000000, inr_252645135, inr_858993459, inr_1431655765, okO_2, okF_2_2, rfN_2_2, okF_2_4, rfN_2_4, okF_2_5, rfN_2_5, okF_2_6, rfN_2_6, okF_2_7, rfN_2_7, okF_2_9, rfN_2_9, okF_2_10, rfN_2_10, okO_47, okF_47_0, rfN_47_0, okF_47_1, rfN_47_1, okF_47_2, rfN_47_2, okF_47_3, rfN_47_3, o_R, o_le, o_lt, o_nlt, o_nle, o_eq, o_ne, e8, sp_182, hc, g5]
    exact hq I J hSI0
  rcases n with _ | n'
  · have ei : imp 0 k s tr a = (s 29, tr) := by
      show (if s 29 < a.1 then (s 29, tr) else a) = _
      rw [if_pos (by omega)]
    rw [ei] at hq
    rw [@e_38]
    simp (disch := omega) only [@g_38_0, @g_38_1, @g_38_4, @g_38_5, @g_38_8, @g_38_9, @g_38_11, @g_38_13, @g_38_15, @g_38_16, @g_38_17, @g_38_20, @g_38_23, @g_38_24, @g_38_26, @g_38_29, @g_38_30, @g_38_31, @g_38_34, @g_38_35, @g_38_36, @g_38_38, nlO_n, nlO_i, nlO_r, ret01_0, ret01_1, ret01_if, ret01_fi, true_and, Option.toList_some, Option.toList_none, List.cons_append, List.nil_append, ii_1, ii_0, ii_R, ij_1, ij_0, ij_R, ite_not, if_true, if_false, Int.one_ne_zero, one_e1, not_true_eq_false, not_false_eq_true, and_true, and_false, false_and, or_false, false_or, or_true, true_or, and_self, or_self, inr_n1000100, inr_n1000010, inr_n1000003, inr_n1000002, inr_n1000001, inr_n1000000, inr_n1, inr_0, inr_1, inr_2, inr_3, inr_4, inr_5, inr_6, inr_7, inr_8, inr_10, inr_11, inr_12, inr_13, inr_14, inr_15, inr_16, inr_20, inr_21, inr_22, inr_23, inr_24, inr_29, inr_30, inr_31, inr_32, inr_39, inr_40, inr_44, inr_48, inr_53, inr_54, inr_57, inr_59, inr_63, inr_97, inr_100, inr_101, inr_102, inr_104, inr_105, inr_106, inr_110, inr_112, inr_116, inr_120, inr_122, inr_144, inr_255, inr_256, inr_320, inr_552, inr_576, inr_999, inr_1000, inr_1023, inr_1024, inr_2048, inr_1000000, inr_252645135, inr_858993459, inr_1431655765, okO_2, okF_2_2, rfN_2_2, okF_2_4, rfN_2_4, okF_2_5, rfN_2_5, okF_2_6, rfN_2_6, okF_2_7, rfN_2_7, okF_2_9, rfN_2_9, okF_2_10, rfN_2_10, okO_47, okF_47_0, rfN_47_0, okF_47_1, rfN_47_1, okF_47_2, rfN_47_2, okF_47_3, rfN_47_3, o_R, o_le, o_lt, o_nlt, o_nle, o_eq, o_ne, e8, sp_182, hc, g5]
    refine sp_39 (fun I' f1 f2 f3 f4 f5 => ?_)
    simp (disch := omega) only [@g_38_41, nlO_n, nlO_i, nlO_r, ret01_0, ret01_1, ret01_if, ret01_fi, true_and, Option.toList_some, Option.toList_none, List.cons_append, List.nil_append, ii_1, ii_0, ii_R, ij_1, ij_0, ij_R, ite_not, if_true, if_false, Int.one_ne_zero, one_e1, not_true_eq_false, not_false_eq_true, and_true, and_false, false_and, or_false, false_or, or_true, true_or, and_self, or_self, inr_n1000100, inr_n1000010, inr_n1000003, inr_n1000002, inr_n1000001, inr_n1000000, inr_n1, inr_0, inr_1, inr_2, inr_3, inr_4, inr_5, inr_6, inr_7, inr_8, inr_10, inr_11, inr_12, inr_13, inr_14, inr_15, inr_16, inr_20, inr_21, inr_22, inr_23, inr_24, inr_29, inr_30, inr_31, inr_32, inr_39, inr_40, inr_44, inr_48, inr_53, inr_54, inr_57, inr_59, inr_63, inr_97, inr_100, inr_101, inr_102, inr_104, inr_105, inr_106, inr_110, inr_112, inr_116, inr_120, inr_122, inr_144, inr_255, inr_256, inr_320, inr_552, inr_576, inr_999, inr_1000, inr_1023, inr_1024, inr_2048, inr_1000000, inr_252645135, inr_858993459, inr_1431655765]
    refine hq I' J ⟨Fr_mono (fun c hc => by simp only [List.mem_cons, List.not_mem_nil, or_false] at hc ⊢; omega) f1, f1 48 (by simp), f5, fun j p q => by rw [f1 49 (by simp)], f4, fun _ => ⟨by omega, fun j p q => ?_⟩, fun hz => ?_, fun _ _ => rfl, se_mono g9 (show s 29 ≤ a.1 by omega) (fun σ h => Or.inl h)⟩
    · rw [f2 j p (by omega)]
      exact htr j p (by omega)
    · exfalso
      apply hz
      show s 29 < 1000000
      omega
  have hlN : (lft s).toNat = n' + 1 := by omega
  rw [@e_38]
  simp (disch := omega) only [@g_38_0, @g_38_1, @g_38_4, @g_38_5, @g_38_8, @g_38_9, @g_38_11, @g_38_13, @g_38_15, @g_38_16, @g_38_17, @g_38_20, @g_38_23, @g_38_24, @g_38_26, @g_38_29, @g_38_30, @g_38_31, @g_38_34, @g_38_35, @g_38_36, @g_38_38, @g_38_41, @g_38_42, @g_38_43, @g_38_44, @g_38_45, @g_38_47, @g_38_49, @g_38_51, nlO_n, nlO_i, nlO_r, ret01_0, ret01_1, ret01_if, ret01_fi, true_and, Option.toList_some, Option.toList_none, List.cons_append, List.nil_append, ii_1, ii_0, ii_R, ij_1, ij_0, ij_R, ite_not, if_true, if_false, Int.one_ne_zero, one_e1, not_true_eq_false, not_false_eq_true, and_true, and_false, false_and, or_false, false_or, or_true, true_or, and_self, or_self, inr_n1000100, inr_n1000010, inr_n1000003, inr_n1000002, inr_n1000001, inr_n1000000, inr_n1, inr_0, inr_1, inr_2, inr_3, inr_4, inr_5, inr_6, inr_7, inr_8, inr_10, inr_11, inr_12, inr_13, inr_14, inr_15, inr_16, inr_20, inr_21, inr_22, inr_23, inr_24, inr_29, inr_30, inr_31, inr_32, inr_39, inr_40, inr_44, inr_48, inr_53, inr_54, inr_57, inr_59, inr_63, inr_97, inr_100, inr_101, inr_102, inr_104, inr_105, inr_106, inr_110, inr_112, inr_116, inr_120, inr_122, inr_144, inr_255, inr_256, inr_320, inr_552, inr_576, inr_999, inr_1000, inr_1023, inr_1024, inr_2048, inr_1000000, inr_252645135, inr_858993459, inr_1431655765, okO_2, okF_2_2, rfN_2_2, okF_2_4, rfN_2_4, okF_2_5, rfN_2_5, okF_2_6, rfN_2_6, okF_2_7, rfN_2_7, okF_2_9, rfN_2_9, okF_2_10, rfN_2_10, okO_47, okF_47_0, rfN_47_0, okF_47_1, rfN_47_1, okF_47_2, rfN_47_2, okF_47_3, rfN_47_3, o_R, o_le, o_lt, o_nlt, o_nle, o_eq, o_ne, e8, sp_182, hc, g5]
  refine sp_41 (d := E + 1) (m := m) H hg0 V b29.1 (by omega) hst st0 hJ hA hAk.2 rfl (fun pl p0 p1 hz => ?_) (fun pl p0 p1 hz => ?_)
  · have hb := se_hit g9 hm V hS p0 p1 hz
    have ei : imp (n' + 1) k s tr a = a := imp_id _ _ _ _ _ (by rw [hlN] at hb; exact hb)
    rw [ei] at hq
    simp (disch := omega) only [@g_38_54, @g_38_57, nlO_n, nlO_i, nlO_r, ret01_0, ret01_1, ret01_if, ret01_fi, true_and, Option.toList_some, Option.toList_none, List.cons_append, List.nil_append, ii_1, ii_0, ii_R, ij_1, ij_0, ij_R, ite_not, if_true, if_false, Int.one_ne_zero, one_e1, not_true_eq_false, not_false_eq_true, and_true, and_false, false_and, or_false, false_or, or_true, true_or, and_self, or_self, inr_n1000100, inr_n1000010, inr_n1000003, inr_n1000002, inr_n1000001, inr_n1000000, inr_n1, inr_0, inr_1, inr_2, inr_3, inr_4, inr_5, inr_6, inr_7, inr_8, inr_10, inr_11, inr_12, inr_13, inr_14, inr_15, inr_16, inr_20, inr_21, inr_22, inr_23, inr_24, inr_29, inr_30, inr_31, inr_32, inr_39, inr_40, inr_44, inr_48, inr_53, inr_54, inr_57, inr_59, inr_63, inr_97, inr_100, inr_101, inr_102, inr_104, inr_105, inr_106, inr_110, inr_112, inr_116, inr_120, inr_122, inr_144, inr_255, inr_256, inr_320, inr_552, inr_576, inr_999, inr_1000, inr_1023, inr_1024, inr_2048, inr_1000000, inr_252645135, inr_858993459, inr_1431655765, o_R, o_le, o_lt, o_nlt, o_nle, o_eq, o_ne]
    refine hq I _ ⟨g1, g2, g3, g4, g5, g6, g7, fun c hc => ?_, se_put g9 V (Or.inr hb)⟩
    funext j
    unfold upL
    rw [if_neg (fun z => hc z.1)]
  · have hSI1 : SI g st N k m (fun σ => S σ ∨ σ = s) I J a I (upL J 51 pl (Int64.ofNat (key m st s))) := by
      refine ⟨g1, g2, g3, g4, g5, g6, g7, fun c hc => ?_, se_put (se_mono g9 (Int.le_refl _) (fun σ h => Or.inl (Or.inl h))) V (Or.inl (Or.inr rfl))⟩
      funext j
      unfold upL
      rw [if_neg (fun z => hc z.1)]
    generalize upL J 51 pl (Int64.ofNat (key m st s)) = J0 at hSI1
    have hS2 : ∀ σ, (fun σ => S σ ∨ σ = s) σ → nPas σ (σ 2).toNat ≤ nPas s (s 2).toNat := fun σ h => by
      rcases h with h | h
      · have := hS σ h
        omega
      · rw [h]
        exact Int.le_refl _
    have accR := fun c => acc_R (k := k) (tr := tr) (n := n') (a := a) (s := s) b29.1 (by omega) a0 a1 c
    simp (disch := omega) only [@g_38_54, @g_38_57, @g_38_58, @g_38_59, @g_38_60, @g_38_63, @g_38_65, @g_38_67, @g_38_70, @g_38_72, @g_38_73, nlO_n, nlO_i, nlO_r, ret01_0, ret01_1, ret01_if, ret01_fi, true_and, Option.toList_some, Option.toList_none, List.cons_append, List.nil_append, ii_1, ii_0, ii_R, ij_1, ij_0, ij_R, ite_not, if_true, if_false, Int.one_ne_zero, one_e1, not_true_eq_false, not_false_eq_true, and_true, and_false, false_and, or_false, false_or, or_true, true_or, and_self, or_self, inr_n1000100, inr_n1000010, inr_n1000003, inr_n1000002, inr_n1000001, inr_n1000000, inr_n1, inr_0, inr_1, inr_2, inr_3, inr_4, inr_5, inr_6, inr_7, inr_8, inr_10, inr_11, inr_12, inr_13, inr_14, inr_15, inr_16, inr_20, inr_21, inr_22, inr_23, inr_24, inr_29, inr_30, inr_31, inr_32, inr_39, inr_40, inr_44, inr_48, inr_53, inr_54, inr_57, inr_59, inr_63, inr_97, inr_100, inr_101, inr_102, inr_104, inr_105, inr_106, inr_110, inr_112, inr_116, inr_120, inr_122, inr_144, inr_255, inr_256, inr_320, inr_552, inr_576, inr_999, inr_1000, inr_1023, inr_1024, inr_2048, inr_1000000, inr_252645135, inr_858993459, inr_1431655765, okO_2, okF_2_2, rfN_2_2, okF_2_4, rfN_2_4, okF_2_5, rfN_2_5, okF_2_6, rfN_2_6, okF_2_7, rfN_2_7, okF_2_9, rfN_2_9, okF_2_10, rfN_2_10, okO_47, okF_47_0, rfN_47_0, okF_47_1, rfN_47_1, okF_47_2, rfN_47_2, okF_47_3, rfN_47_3, o_R, o_le, o_lt, o_nlt, o_nle, o_eq, o_ne, sp_22 H (Or.inr (Or.inl rfl)) hA]
    have loopT : ∀ (v7 : Int) (q t : Nat) (u10 u11 u12 : Option AV) (I1 : MI) (J1 : MJ), t + q = (s 2).toNat → SI g st N k m (fun σ => S σ ∨ σ = s) I J (impF (impS n' k s tr) (16 * t) a) I1 J1 → GO x (E + 6) 38 Q 75 [some (.inr (.inr (.inl 47))), some (.inr (.inr (.inl 2))), some (.inl k), some (.inl (pasN s (s 2).toNat)), some (.inl (s 29)), some (.inl (s 30)), some (.inl (s 31)), some (.inl v7), some (.inl (openN g (fun i => s (32 + i)) (s 29) (s 30) (g 1).toNat)), some (.inl t), u10, u11, u12] [] I1 J1 := by
      intro v7 q
      induction q with
      | zero =>
        intro t u10 u11 u12 I1 J1 ht hI
        have f8 : I1 2 8 = s 2 := by rw [hI.1 2 (by simp)]; exact e8
        have et : (s 2).toNat = t := by omega
        rw [@g_38_75]
        simp (disch := omega) only [@g_38_77, @g_38_78, @g_38_81, @g_38_274, nlO_n, nlO_i, nlO_r, ret01_0, ret01_1, ret01_if, ret01_fi, true_and, Option.toList_some, Option.toList_none, List.cons_append, List.nil_append, ii_1, ii_0, ii_R, ij_1, ij_0, ij_R, ite_not, if_true, if_false, Int.one_ne_zero, one_e1, not_true_eq_false, not_false_eq_true, and_true, and_false, false_and, or_false, false_or, or_true, true_or, and_self, or_self, inr_n1000100, inr_n1000010, inr_n1000003, inr_n1000002, inr_n1000001, inr_n1000000, inr_n1, inr_0, inr_1, inr_2, inr_3, inr_4, inr_5, inr_6, inr_7, inr_8, inr_10, inr_11, inr_12, inr_13, inr_14, inr_15, inr_16, inr_20, inr_21, inr_22, inr_23, inr_24, inr_29, inr_30, inr_31, inr_32, inr_39, inr_40, inr_44, inr_48, inr_53, inr_54, inr_57, inr_59, inr_63, inr_97, inr_100, inr_101, inr_102, inr_104, inr_105, inr_106, inr_110, inr_112, inr_116, inr_120, inr_122, inr_144, inr_255, inr_256, inr_320, inr_552, inr_576, inr_999, inr_1000, inr_1023, inr_1024, inr_2048, inr_1000000, inr_252645135, inr_858993459, inr_1431655765, okO_2, okF_2_2, rfN_2_2, okF_2_4, rfN_2_4, okF_2_5, rfN_2_5, okF_2_6, rfN_2_6, okF_2_7, rfN_2_7, okF_2_9, rfN_2_9, okF_2_10, rfN_2_10, o_R, o_le, o_lt, o_nlt, o_nle, o_eq, o_ne, f8]
        rw [← et, ← imp_s] at hI
        obtain ⟨q1, q2, q3, q4, q5, q6, q7, q8, q9⟩ := hI
        refine hq I1 J1 ⟨q1, q2, q3, q4, q5, q6, q7, q8, se_mono q9 (Int.le_refl _) (fun σ h => ?_)⟩
        rcases h with h | h
        · exact Or.inl h
        · right
          rw [h, hlN, imp_1 (n' + 1) k s tr a a1]
          omega
      | succ q ih =>
        intro t u10 u11 u12 I1 J1 ht hI
        have f8 : I1 2 8 = s 2 := by rw [hI.1 2 (by simp)]; exact e8
        have ep := pasN_tb (g := s) (w := t) (by omega) (by omega) (s 2).toNat (by omega)
        rw [decide_eq_true (by omega), Bool.true_and] at ep
        have H1 : ROK B I1 2 g := ROK_cong (Int.le_refl _) H.1.2.2 (fun c a b => hI.1 c (by simp; omega)) rfl H
        have next : ∀ (u10 u11 u12 : Option AV) (I2 : MI) (J2 : MJ), SI g st N k m (fun σ => S σ ∨ σ = s) I J (impF (impS n' k s tr) (16 * (t + 1)) a) I2 J2 → GO x (E + 6) 38 Q 75 [some (.inr (.inr (.inl 47))), some (.inr (.inr (.inl 2))), some (.inl k), some (.inl (pasN s (s 2).toNat)), some (.inl (s 29)), some (.inl (s 30)), some (.inl (s 31)), some (.inl v7), some (.inl (openN g (fun i => s (32 + i)) (s 29) (s 30) (g 1).toNat)), some (.inl ((t : Int) + 1)), u10, u11, u12] [] I2 J2 := fun u10 u11 u12 I2 J2 h => ih (t + 1) u10 u11 u12 I2 J2 (by omega) h
        rw [@g_38_75]
        cases hp : passB s t
        · rw [hp] at ep
          have h40 := fun Q => sp_40 (x := x) (d := E + 4) (J := J1) (Q := Q) (t := t) (s := s) H1 hT (by omega) (by omega)
          rw [← e2] at h40
          cases htw : twN s t (t : Int).toNat
          · rw [htw] at h40
            simp (disch := omega) only [@g_38_77, @g_38_78, @g_38_81, @g_38_84, @g_38_85, @g_38_87, @g_38_90, @g_38_93, @g_38_94, @g_38_95, @g_38_97, @g_38_100, @g_38_103, @g_38_106, @g_38_107, @g_38_108, @g_38_110, @g_38_111, @g_38_112, @g_38_114, @g_38_115, nlO_n, nlO_i, nlO_r, ret01_0, ret01_1, ret01_if, ret01_fi, true_and, Option.toList_some, Option.toList_none, List.cons_append, List.nil_append, ii_1, ii_0, ii_R, ij_1, ij_0, ij_R, ite_not, if_true, if_false, Int.one_ne_zero, one_e1, not_true_eq_false, not_false_eq_true, and_true, and_false, false_and, or_false, false_or, or_true, true_or, and_self, or_self, inr_n1000100, inr_n1000010, inr_n1000003, inr_n1000002, inr_n1000001, inr_n1000000, inr_n1, inr_0, inr_1, inr_2, inr_3, inr_4, inr_5, inr_6, inr_7, inr_8, inr_10, inr_11, inr_12, inr_13, inr_14, inr_15, inr_16, inr_20, inr_21, inr_22, inr_23, inr_24, inr_29, inr_30, inr_31, inr_32, inr_39, inr_40, inr_44, inr_48, inr_53, inr_54, inr_57, inr_59, inr_63, inr_97, inr_100, inr_101, inr_102, inr_104, inr_105, inr_106, inr_110, inr_112, inr_116, inr_120, inr_122, inr_144, inr_255, inr_256, inr_320, inr_552, inr_576, inr_999, inr_1000, inr_1023, inr_1024, inr_2048, inr_1000000, inr_252645135, inr_858993459, inr_1431655765, okO_2, okF_2_2, rfN_2_2, okF_2_4, rfN_2_4, okF_2_5, rfN_2_5, okF_2_6, rfN_2_6, okF_2_7, rfN_2_7, okF_2_9, rfN_2_9, okF_2_10, rfN_2_10, o_R, o_le, o_lt, o_nlt, o_nle, o_eq, o_ne, f8, sp_105, ep, h40, if_true, if_false, Bool.false_eq_true, Bool.not_false, Bool.not_true, Bool.and_true, Bool.and_false, Bool.true_and, Bool.false_and, Bool.or_true, Bool.or_false, Bool.true_or, Bool.false_or, ite_self]
            have hoc := open_can H.1 M hT hp (show (0 : Int) ≤ (t : Int) by omega) (by omega)
            have loopW : ∀ (q w : Nat) (u12 : Option AV) (I1 : MI) (J1 : MJ), w + q = (g 1).toNat → SI g st N k m (fun σ => S σ ∨ σ = s) I J (impF (impS n' k s tr) (16 * t + w) a) I1 J1 → GO x (E + 6) 38 Q 117 [some (.inr (.inr (.inl 47))), some (.inr (.inr (.inl 2))), some (.inl k), some (.inl (pasN s (s 2).toNat)), some (.inl (s 29)), some (.inl (s 30)), some (.inl (s 31)), some (.inl v7), some (.inl (openN g (fun i => s (32 + i)) (s 29) (s 30) (g 1).toNat)), some (.inl t), some (.inl (orI (pasN s (s 2).toNat) (shlI 1 t))), some (.inl w), u12] [] I1 J1 := by
              intro q
              induction q with
              | zero =>
                intro w u12 I1 J1 hw hI
                have H1 : ROK B I1 2 g := ROK_cong (Int.le_refl _) H.1.2.2 (fun c a b => hI.1 c (by simp; omega)) rfl H
                have f3 : I1 2 3 = s 1 := by rw [H_3 H1, e1]
                have ec : ∀ i : Nat, w + i ≤ 8 → impF (impS n' k s tr) (16 * t + w + i) a = impF (impS n' k s tr) (16 * t + w) a := fun i hi => imp_skip i (fun c x y => impS_no (st_no (by omega) (by omega)))
                have ec8 := ec (8 - w) (by omega)
                rw [show 16 * t + w + (8 - w) = 16 * t + 8 by omega] at ec8
                have e9 : impF (impS n' k s tr) (16 * (t + 1)) a = impS n' k s tr (16 * (t : Int) + 8) (impF (impS n' k s tr) (16 * t + w) a) := by
                  have y := imp_skip (f := impS n' k s tr) (a := a) (m := 16 * t + 9) 7 (fun c x y => impS_no (st_no (by omega) (by omega)))
                  rw [show 16 * (t + 1) = 16 * t + 9 + 7 by omega, y, show 16 * t + 9 = (16 * t + 8) + 1 from rfl, impF_s, ec8]
                  rfl
                rw [@g_38_117]
                by_cases c3 : 0 < s 31
                · have m8 : (16 * (t : Int) + 8) % 16 = 8 := by omega
                  have d8 : (16 * (t : Int) + 8) / 16 = t := by omega
                  have hs8 : stB s (16 * (t : Int) + 8) = true := by
                    unfold stB
                    rw [if_pos m8, d8, hp, decide_eq_true c3]
                    rfl
                  have en : nxS s (16 * (t : Int) + 8) = folS s t := by unfold nxS; rw [if_pos m8, d8]
                  rw [impS_yes hs8] at e9
                  simp (disch := omega) only [@g_38_119, @g_38_120, @g_38_123, @g_38_229, @g_38_231, @g_38_234, @g_38_235, @g_38_238, @g_38_239, @g_38_241, @g_38_243, @g_38_244, @g_38_246, @g_38_247, @g_38_248, @g_38_249, @g_38_250, @g_38_251, @g_38_252, @g_38_253, @g_38_255, @g_38_257, @g_38_258, @g_38_259, @g_38_261, @g_38_263, @g_38_264, @g_38_265, nlO_n, nlO_i, nlO_r, ret01_0, ret01_1, ret01_if, ret01_fi, true_and, Option.toList_some, Option.toList_none, List.cons_append, List.nil_append, ii_1, ii_0, ii_R, ij_1, ij_0, ij_R, ite_not, if_true, if_false, Int.one_ne_zero, one_e1, not_true_eq_false, not_false_eq_true, and_true, and_false, false_and, or_false, false_or, or_true, true_or, and_self, or_self, inr_n1000100, inr_n1000010, inr_n1000003, inr_n1000002, inr_n1000001, inr_n1000000, inr_n1, inr_0, inr_1, inr_2, inr_3, inr_4, inr_5, inr_6, inr_7, inr_8, inr_10, inr_11, inr_12, inr_13, inr_14, inr_15, inr_16, inr_20, inr_21, inr_22, inr_23, inr_24, inr_29, inr_30, inr_31, inr_32, inr_39, inr_40, inr_44, inr_48, inr_53, inr_54, inr_57, inr_59, inr_63, inr_97, inr_100, inr_101, inr_102, inr_104, inr_105, inr_106, inr_110, inr_112, inr_116, inr_120, inr_122, inr_144, inr_255, inr_256, inr_320, inr_552, inr_576, inr_999, inr_1000, inr_1023, inr_1024, inr_2048, inr_1000000, inr_252645135, inr_858993459, inr_1431655765, okO_2, okF_2_2, rfN_2_2, okF_2_4, rfN_2_4, okF_2_5, rfN_2_5, okF_2_6, rfN_2_6, okF_2_7, rfN_2_7, okF_2_9, rfN_2_9, okF_2_10, rfN_2_10, okO_47, okF_47_0, rfN_47_0, okF_47_1, rfN_47_1, okF_47_2, rfN_47_2, okF_47_3, rfN_47_3, okA_49, lnN_49, o_R, o_le, o_lt, o_nlt, o_nle, o_eq, o_ne, f3]
                  refine se_cal2 (16 * (t : Int) + 8) (hrec n' rfl) (by omega) hk k0 hT M hB hn t0 t1 H hst hJ htr hS2 (accR _).1 (accR _).2 hI hs8 (by omega) (by omega) (fun c' _ b => up_ne b) (fun j hj => up_nj hj) up_same ?_ (by rw [d8]) (by rw [en, fS_29]) (by rw [en, fS_n (by omega)]) (by rw [en, fS_31]) (fun I' J' hI' => ?_)
                  · exact AkO_of hAk (by rw [up_ne (by omega)]; exact hI.2.1) (fun w a b => by rw [en, fS_n (by omega)])
                  · simp (disch := omega) only [@g_38_268, @g_38_271, nlO_n, nlO_i, nlO_r, ret01_0, ret01_1, ret01_if, ret01_fi, true_and, Option.toList_some, Option.toList_none, List.cons_append, List.nil_append, ii_1, ii_0, ii_R, ij_1, ij_0, ij_R, ite_not, if_true, if_false, Int.one_ne_zero, one_e1, not_true_eq_false, not_false_eq_true, and_true, and_false, false_and, or_false, false_or, or_true, true_or, and_self, or_self, inr_n1000100, inr_n1000010, inr_n1000003, inr_n1000002, inr_n1000001, inr_n1000000, inr_n1, inr_0, inr_1, inr_2, inr_3, inr_4, inr_5, inr_6, inr_7, inr_8, inr_10, inr_11, inr_12, inr_13, inr_14, inr_15, inr_16, inr_20, inr_21, inr_22, inr_23, inr_24, inr_29, inr_30, inr_31, inr_32, inr_39, inr_40, inr_44, inr_48, inr_53, inr_54, inr_57, inr_59, inr_63, inr_97, inr_100, inr_101, inr_102, inr_104, inr_105, inr_106, inr_110, inr_112, inr_116, inr_120, inr_122, inr_144, inr_255, inr_256, inr_320, inr_552, inr_576, inr_999, inr_1000, inr_1023, inr_1024, inr_2048, inr_1000000, inr_252645135, inr_858993459, inr_1431655765]
                    refine next _ _ _ _ _ ?_
                    rw [e9]
                    exact se_back hI (fun c' _ b => up_ne b) (fun j hj => up_nj hj) hI' (fun _ _ => rfl) (by rw [hI'.2.1, up_ne (by omega)]; exact hI.2.1)
                · rw [impS_no (st_no8 (by omega) (by omega))] at e9
                  simp (disch := omega) only [@g_38_119, @g_38_120, @g_38_123, @g_38_229, @g_38_231, @g_38_268, @g_38_271, nlO_n, nlO_i, nlO_r, ret01_0, ret01_1, ret01_if, ret01_fi, true_and, Option.toList_some, Option.toList_none, List.cons_append, List.nil_append, ii_1, ii_0, ii_R, ij_1, ij_0, ij_R, ite_not, if_true, if_false, Int.one_ne_zero, one_e1, not_true_eq_false, not_false_eq_true, and_true, and_false, false_and, or_false, false_or, or_true, true_or, and_self, or_self, inr_n1000100, inr_n1000010, inr_n1000003, inr_n1000002, inr_n1000001, inr_n1000000, inr_n1, inr_0, inr_1, inr_2, inr_3, inr_4, inr_5, inr_6, inr_7, inr_8, inr_10, inr_11, inr_12, inr_13, inr_14, inr_15, inr_16, inr_20, inr_21, inr_22, inr_23, inr_24, inr_29, inr_30, inr_31, inr_32, inr_39, inr_40, inr_44, inr_48, inr_53, inr_54, inr_57, inr_59, inr_63, inr_97, inr_100, inr_101, inr_102, inr_104, inr_105, inr_106, inr_110, inr_112, inr_116, inr_120, inr_122, inr_144, inr_255, inr_256, inr_320, inr_552, inr_576, inr_999, inr_1000, inr_1023, inr_1024, inr_2048, inr_1000000, inr_252645135, inr_858993459, inr_1431655765, okO_2, okF_2_2, rfN_2_2, okF_2_4, rfN_2_4, okF_2_5, rfN_2_5, okF_2_6, rfN_2_6, okF_2_7, rfN_2_7, okF_2_9, rfN_2_9, okF_2_10, rfN_2_10, o_R, o_le, o_lt, o_nlt, o_nle, o_eq, o_ne, f3]
                  refine next _ _ _ _ _ ?_
                  rw [e9]
                  exact hI
              | succ q ihW =>
                intro w u12 I1 J1 hw hI
                have H1 : ROK B I1 2 g := ROK_cong (Int.le_refl _) H.1.2.2 (fun c a b => hI.1 c (by simp; omega)) rfl H
                have f3 : I1 2 3 = s 1 := by rw [H_3 H1, e1]
                have f8t : I1 8 t = g (24 + t) := (H_t H1 (t := t) (by omega) (by omega)).1
                have f5w : I1 5 w = g (16 + w) := (H_w H1 (w := w) (by omega) (by omega)).2.1
                have bw := B_w H.1 (w := w) (by omega) (by omega)
                have et := canN_tb (g := s) (t := t) (w := w) (by omega) (by omega) (g 1).toNat (by omega)
                rw [decide_eq_true (by omega), Bool.true_and] at et
                have mw : (16 * (t : Int) + w) % 16 = w := by omega
                have dw : (16 * (t : Int) + w) / 16 = t := by omega
                have hst8 : stB s (16 * (t : Int) + w) = askB s t w := by
                  unfold stB
                  rw [mw, dw, if_neg (by omega), decide_eq_true (by omega), Bool.true_and]
                rw [@g_38_117]
                cases ha : askB s t w
                · rw [ha] at et hst8
                  simp (disch := omega) only [@g_38_119, @g_38_120, @g_38_123, @g_38_126, @g_38_128, @g_38_129, @g_38_132, @g_38_134, @h_38_134, @g_38_135, @g_38_136, @g_38_138, @g_38_141, @g_38_144, @g_38_223, @g_38_226, nlO_n, nlO_i, nlO_r, ret01_0, ret01_1, ret01_if, ret01_fi, true_and, Option.toList_some, Option.toList_none, List.cons_append, List.nil_append, ii_1, ii_0, ii_R, ij_1, ij_0, ij_R, ite_not, if_true, if_false, Int.one_ne_zero, one_e1, not_true_eq_false, not_false_eq_true, and_true, and_false, false_and, or_false, false_or, or_true, true_or, and_self, or_self, inr_n1000100, inr_n1000010, inr_n1000003, inr_n1000002, inr_n1000001, inr_n1000000, inr_n1, inr_0, inr_1, inr_2, inr_3, inr_4, inr_5, inr_6, inr_7, inr_8, inr_10, inr_11, inr_12, inr_13, inr_14, inr_15, inr_16, inr_20, inr_21, inr_22, inr_23, inr_24, inr_29, inr_30, inr_31, inr_32, inr_39, inr_40, inr_44, inr_48, inr_53, inr_54, inr_57, inr_59, inr_63, inr_97, inr_100, inr_101, inr_102, inr_104, inr_105, inr_106, inr_110, inr_112, inr_116, inr_120, inr_122, inr_144, inr_255, inr_256, inr_320, inr_552, inr_576, inr_999, inr_1000, inr_1023, inr_1024, inr_2048, inr_1000000, inr_252645135, inr_858993459, inr_1431655765, okO_2, okF_2_2, rfN_2_2, okF_2_4, rfN_2_4, okF_2_5, rfN_2_5, okF_2_6, rfN_2_6, okF_2_7, rfN_2_7, okF_2_9, rfN_2_9, okF_2_10, rfN_2_10, okA_8, lnN_8, o_R, o_le, o_lt, o_nlt, o_nle, o_eq, o_ne, f3, f8t, hoc, sp_105, et, if_true, if_false, Bool.false_eq_true, Bool.not_false, Bool.not_true, Bool.and_true, Bool.and_false, Bool.true_and, Bool.false_and, Bool.or_true, Bool.or_false, Bool.true_or, Bool.false_or, ite_self]
                  refine ihW (w + 1) _ I1 J1 (by omega) ?_
                  rw [show 16 * t + (w + 1) = (16 * t + w) + 1 from rfl, impF_s, show ((16 * t + w : Nat) : Int) = 16 * (t : Int) + w by omega, impS_no hst8]
                  exact hI
                · rw [ha] at et hst8
                  have en : nxS s (16 * (t : Int) + w) = askS s t w := by unfold nxS; rw [mw, dw, if_neg (by omega)]
                  have f48 : -1000000 ≤ I1 48 w ∧ I1 48 w ≤ 200000 := by rw [hI.2.1]; exact hAk.2 w (by omega) (by omega)
                  have H2 : ROK B (up (up I1 48 w (s 29)) 49 k (16 * (t : Int) + w)) 2 g := ROK_cong (Int.le_refl _) H.1.2.2 (fun c a b => by rw [up_ne (by omega), up_ne (by omega)]) rfl H1
                  simp (disch := omega) only [@g_38_119, @g_38_120, @g_38_123, @g_38_126, @g_38_128, @g_38_129, @g_38_132, @g_38_134, @h_38_134, @g_38_135, @g_38_136, @g_38_138, @g_38_141, @g_38_144, @g_38_147, @g_38_148, @g_38_151, @g_38_153, @h_38_153, @g_38_154, @g_38_156, @g_38_157, @g_38_160, @g_38_162, @g_38_164, @g_38_165, @g_38_166, @g_38_169, @g_38_170, @g_38_172, @g_38_174, @g_38_175, @g_38_177, @g_38_178, @g_38_179, @g_38_180, @g_38_181, @g_38_182, @g_38_183, @g_38_184, @g_38_186, @g_38_188, @g_38_189, @g_38_191, @g_38_194, @g_38_195, @g_38_196, @g_38_199, @g_38_201, @h_38_201, @g_38_202, @g_38_204, @g_38_205, @g_38_207, @g_38_210, @g_38_211, nlO_n, nlO_i, nlO_r, ret01_0, ret01_1, ret01_if, ret01_fi, true_and, Option.toList_some, Option.toList_none, List.cons_append, List.nil_append, ii_1, ii_0, ii_R, ij_1, ij_0, ij_R, ite_not, if_true, if_false, Int.one_ne_zero, one_e1, not_true_eq_false, not_false_eq_true, and_true, and_false, false_and, or_false, false_or, or_true, true_or, and_self, or_self, inr_n1000100, inr_n1000010, inr_n1000003, inr_n1000002, inr_n1000001, inr_n1000000, inr_n1, inr_0, inr_1, inr_2, inr_3, inr_4, inr_5, inr_6, inr_7, inr_8, inr_10, inr_11, inr_12, inr_13, inr_14, inr_15, inr_16, inr_20, inr_21, inr_22, inr_23, inr_24, inr_29, inr_30, inr_31, inr_32, inr_39, inr_40, inr_44, inr_48, inr_53, inr_54, inr_57, inr_59, inr_63, inr_97, inr_100, inr_101, inr_102, inr_104, inr_105, inr_106, inr_110, inr_112, inr_116, inr_120, inr_122, inr_144, inr_255, inr_256, inr_320, inr_552, inr_576, inr_999, inr_1000, inr_1023, inr_1024, inr_2048, inr_1000000, inr_252645135, inr_858993459, inr_1431655765, okO_2, okF_2_2, rfN_2_2, okF_2_4, rfN_2_4, okF_2_5, rfN_2_5, okF_2_6, rfN_2_6, okF_2_7, rfN_2_7, okF_2_9, rfN_2_9, okF_2_10, rfN_2_10, okA_5, lnN_5, okA_8, lnN_8, okO_47, okF_47_0, rfN_47_0, okF_47_1, rfN_47_1, okF_47_2, rfN_47_2, okF_47_3, rfN_47_3, okA_48, lnN_48, okA_49, lnN_49, o_R, o_le, o_lt, o_nlt, o_nle, o_eq, o_ne, f3, f8t, hoc, sp_105, et, if_true, if_false, Bool.false_eq_true, Bool.not_false, Bool.not_true, Bool.and_true, Bool.and_false, Bool.true_and, Bool.false_and, Bool.or_true, Bool.or_false, Bool.true_or, Bool.false_or, ite_self, sp_25 H2, sp_26 H2, up_ne, f5w]
                  refine se_cal2 (16 * (t : Int) + w) (hrec n' rfl) (by omega) hk k0 hT M hB hn t0 t1 H hst hJ htr hS2 (accR _).1 (accR _).2 hI hst8 (by omega) (by omega) (fun c' a b => by rw [up_ne b, up_ne a]) (fun j hj => by rw [up_nj hj, up_ne (by omega)]) up_same ?_ (by rw [dw]) (by rw [en, aS_29, hT (8 + (w : Int)) (by omega) (by omega)]) (by rw [en, aS_30, hT (16 + (w : Int)) (by omega) (by omega)]) (by rw [en, aS_31, hT (8 + (w : Int)) (by omega) (by omega)]) (fun I' J' hI' => ?_)
                  · refine ⟨fun u a b => ?_, fun u a b => ?_⟩
                    · rw [up_ne (by omega), en]
                      by_cases hu : u = w
                      · subst hu
                        rw [up_same, aS_32 a, enc_pos b29.1]
                      · rw [up_nj hu, aS_n (by omega), hI.2.1]
                        exact hAk.1 u a b
                    · rw [up_ne (by omega)]
                      by_cases hu : u = w
                      · rw [hu, up_same]; omega
                      · rw [up_nj hu, hI.2.1]
                        exact hAk.2 u a b
                  · simp (disch := omega) only [@g_38_214, @g_38_215, @g_38_218, @g_38_220, @g_38_222, @g_38_223, @g_38_226, nlO_n, nlO_i, nlO_r, ret01_0, ret01_1, ret01_if, ret01_fi, true_and, Option.toList_some, Option.toList_none, List.cons_append, List.nil_append, ii_1, ii_0, ii_R, ij_1, ij_0, ij_R, ite_not, if_true, if_false, Int.one_ne_zero, one_e1, not_true_eq_false, not_false_eq_true, and_true, and_false, false_and, or_false, false_or, or_true, true_or, and_self, or_self, inr_n1000100, inr_n1000010, inr_n1000003, inr_n1000002, inr_n1000001, inr_n1000000, inr_n1, inr_0, inr_1, inr_2, inr_3, inr_4, inr_5, inr_6, inr_7, inr_8, inr_10, inr_11, inr_12, inr_13, inr_14, inr_15, inr_16, inr_20, inr_21, inr_22, inr_23, inr_24, inr_29, inr_30, inr_31, inr_32, inr_39, inr_40, inr_44, inr_48, inr_53, inr_54, inr_57, inr_59, inr_63, inr_97, inr_100, inr_101, inr_102, inr_104, inr_105, inr_106, inr_110, inr_112, inr_116, inr_120, inr_122, inr_144, inr_255, inr_256, inr_320, inr_552, inr_576, inr_999, inr_1000, inr_1023, inr_1024, inr_2048, inr_1000000, inr_252645135, inr_858993459, inr_1431655765, okO_47, okF_47_0, rfN_47_0, okF_47_1, rfN_47_1, okF_47_2, rfN_47_2, okF_47_3, rfN_47_3, okA_48, lnN_48, o_R, o_le, o_lt, o_nlt, o_nle, o_eq, o_ne]
                    refine ihW (w + 1) _ _ J' (by omega) ?_
                    rw [show 16 * t + (w + 1) = (16 * t + w) + 1 from rfl, impF_s, show ((16 * t + w : Nat) : Int) = 16 * (t : Int) + w by omega, impS_yes hst8]
                    refine se_back hI (fun c' a b => by rw [up_ne b, up_ne a]) (fun j hj => by rw [up_nj hj, up_ne (by omega)]) hI' (fun c' hc => up_ne hc) ?_
                    funext j
                    by_cases hj : j = w
                    · rw [hj, up_same, hI.2.1]
                    · rw [up_nj hj, hI'.2.1, up_ne (by omega), up_nj hj, hI.2.1]
            exact loopW _ 0 _ I1 J1 (Nat.zero_add _) hI
          · rw [htw] at h40
            simp (disch := omega) only [@g_38_77, @g_38_78, @g_38_81, @g_38_84, @g_38_85, @g_38_87, @g_38_90, @g_38_93, @g_38_94, @g_38_95, @g_38_97, @g_38_100, @g_38_103, @g_38_268, @g_38_271, nlO_n, nlO_i, nlO_r, ret01_0, ret01_1, ret01_if, ret01_fi, true_and, Option.toList_some, Option.toList_none, List.cons_append, List.nil_append, ii_1, ii_0, ii_R, ij_1, ij_0, ij_R, ite_not, if_true, if_false, Int.one_ne_zero, one_e1, not_true_eq_false, not_false_eq_true, and_true, and_false, false_and, or_false, false_or, or_true, true_or, and_self, or_self, inr_n1000100, inr_n1000010, inr_n1000003, inr_n1000002, inr_n1000001, inr_n1000000, inr_n1, inr_0, inr_1, inr_2, inr_3, inr_4, inr_5, inr_6, inr_7, inr_8, inr_10, inr_11, inr_12, inr_13, inr_14, inr_15, inr_16, inr_20, inr_21, inr_22, inr_23, inr_24, inr_29, inr_30, inr_31, inr_32, inr_39, inr_40, inr_44, inr_48, inr_53, inr_54, inr_57, inr_59, inr_63, inr_97, inr_100, inr_101, inr_102, inr_104, inr_105, inr_106, inr_110, inr_112, inr_116, inr_120, inr_122, inr_144, inr_255, inr_256, inr_320, inr_552, inr_576, inr_999, inr_1000, inr_1023, inr_1024, inr_2048, inr_1000000, inr_252645135, inr_858993459, inr_1431655765, okO_2, okF_2_2, rfN_2_2, okF_2_4, rfN_2_4, okF_2_5, rfN_2_5, okF_2_6, rfN_2_6, okF_2_7, rfN_2_7, okF_2_9, rfN_2_9, okF_2_10, rfN_2_10, o_R, o_le, o_lt, o_nlt, o_nle, o_eq, o_ne, f8, sp_105, ep, h40, if_true, if_false, Bool.false_eq_true, Bool.not_false, Bool.not_true, Bool.and_true, Bool.and_false, Bool.true_and, Bool.false_and, Bool.or_true, Bool.or_false, Bool.true_or, Bool.false_or, ite_self]
            refine next _ _ _ _ _ ?_
            rw [show 16 * (t + 1) = 16 * t + 16 by omega, imp_skip 16 (fun c x y => ?_)]
            · exact hI
            · obtain ⟨u, u0, u1, u2, u3⟩ := twN_ex _ htw
              obtain ⟨w, hw, w0, w1⟩ : ∃ w : Int, c = 16 * (t : Int) + w ∧ 0 ≤ w ∧ w < 16 := ⟨c - 16 * t, by omega, by omega, by omega⟩
              subst hw
              refine impS_id (imp_id n') ?_
              rw [impF_1 (imp_1 n') a1]
              have y1 := mnF_at (p := mhS n' s) (16 * t) (16 * u + w) (by omega) (by omega)
              have y2 := twin_le (n := n') (w := w) V.2.1 (show (0 : Int) ≤ (t : Int) by omega) (by omega) u0 (by omega) hp u2 u3 w0 w1
              omega
        · rw [hp] at ep
          simp (disch := omega) only [@g_38_77, @g_38_78, @g_38_81, @g_38_84, @g_38_85, @g_38_87, @g_38_90, @g_38_268, @g_38_271, nlO_n, nlO_i, nlO_r, ret01_0, ret01_1, ret01_if, ret01_fi, true_and, Option.toList_some, Option.toList_none, List.cons_append, List.nil_append, ii_1, ii_0, ii_R, ij_1, ij_0, ij_R, ite_not, if_true, if_false, Int.one_ne_zero, one_e1, not_true_eq_false, not_false_eq_true, and_true, and_false, false_and, or_false, false_or, or_true, true_or, and_self, or_self, inr_n1000100, inr_n1000010, inr_n1000003, inr_n1000002, inr_n1000001, inr_n1000000, inr_n1, inr_0, inr_1, inr_2, inr_3, inr_4, inr_5, inr_6, inr_7, inr_8, inr_10, inr_11, inr_12, inr_13, inr_14, inr_15, inr_16, inr_20, inr_21, inr_22, inr_23, inr_24, inr_29, inr_30, inr_31, inr_32, inr_39, inr_40, inr_44, inr_48, inr_53, inr_54, inr_57, inr_59, inr_63, inr_97, inr_100, inr_101, inr_102, inr_104, inr_105, inr_106, inr_110, inr_112, inr_116, inr_120, inr_122, inr_144, inr_255, inr_256, inr_320, inr_552, inr_576, inr_999, inr_1000, inr_1023, inr_1024, inr_2048, inr_1000000, inr_252645135, inr_858993459, inr_1431655765, okO_2, okF_2_2, rfN_2_2, okF_2_4, rfN_2_4, okF_2_5, rfN_2_5, okF_2_6, rfN_2_6, okF_2_7, rfN_2_7, okF_2_9, rfN_2_9, okF_2_10, rfN_2_10, o_R, o_le, o_lt, o_nlt, o_nle, o_eq, o_ne, f8, sp_105, ep, if_true, if_false, Bool.false_eq_true, Bool.not_false, Bool.not_true, Bool.and_true, Bool.and_false, Bool.true_and, Bool.false_and, Bool.or_true, Bool.or_false, Bool.true_or, Bool.false_or, ite_self]
          refine next _ _ _ _ _ ?_
          rw [show 16 * (t + 1) = 16 * t + 16 by omega, imp_skip 16 (fun c x y => impS_no (st_pass hp (by omega) (by omega)))]
          exact hI
    exact loopT _ _ 0 none none none I J0 (Nat.zero_add _) hSI1
theorem se_all {g : HV} {B st N : Int} {m : Nat} (hg0 : g 0 = 1) (hm : m ≤ 1000) (hN : N ≤ 5) (st0 : 0 ≤ st) : ∀ n : Nat, SE x g B st N m n
  | 0 => se_one hg0 hm hN st0 (fun n' h => by omega)
  | n + 1 => se_one hg0 hm hN st0 (fun n' h => by
    have e : n' = n := by omega
    rw [e]
    exact se_all hg0 hm hN st0 n)
end
