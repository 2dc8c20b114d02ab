/-! ===== plan: the model's search ===== -/
theorem nx_ok {B : Int} {s : HV} {c : Int} (M : MOK B s) (hB : B + 2 ≤ 100000) (c0 : 0 ≤ c) (c1 : c < 16 * s 2) (hs : stB s c = true) : MOK (B + 2) (nxS s c) ∧ passB s (c / 16) = false := by
  unfold stB at hs
  unfold nxS
  by_cases h8 : c % 16 = 8
  · rw [if_pos h8, Bool.and_eq_true, Bool.not_eq_true', decide_eq_true_eq] at hs
    rw [if_pos h8]
    have hp : s (48 + c / 16) < 0 := by
      have h1 := hs.1
      unfold passB at h1
      have := of_decide_eq_false h1
      omega
    exact ⟨fol_ok M hB (by omega) (by omega) hp hs.2, hs.1⟩
  · rw [if_neg h8, Bool.and_eq_true, decide_eq_true_eq] at hs
    rw [if_neg h8]
    obtain ⟨hw, ha⟩ := hs
    have h1 : passB s (c / 16) = false := by
      unfold askB at ha
      rw [Bool.and_eq_true, Bool.and_eq_true, Bool.not_eq_true'] at ha
      exact ha.1.1
    have hp : s (48 + c / 16) < 0 := by
      unfold passB at h1
      have := of_decide_eq_false h1
      omega
    exact ⟨ask_ok M hB (by omega) (by omega) (by omega) hw hp, h1⟩
theorem mhS_ge {n : Nat} {s : HV} {c : Int} (h0 : 0 ≤ s 29) (h : s 29 + 2 * (n + 1) ≤ 1000000) : 0 ≤ mhS n s c := by
  unfold mhS
  split
  · have h1 := nx_29 (s := s) (c := c)
    have h2 := mh_ge n (nxS s c) (by omega)
    omega
  · omega
theorem acc_R {n : Nat} {k : Int} {s : HV} {tr : Int → Int} {a : AC} (h0 : 0 ≤ s 29) (h : s 29 + 2 * (n + 1) ≤ 1000000) (a0 : 0 ≤ a.1) (a1 : a.1 ≤ 1000000) (m : Nat) : 0 ≤ (impF (impS n k s tr) m a).1 ∧ (impF (impS n k s tr) m a).1 ≤ 1000000 := by
  rw [impF_1 (imp_1 n) a1]
  have h1 := mnF_ge (p := mhS n s) (v := 0) (by omega) m (fun c _ _ => mhS_ge h0 h)
  omega
/-- the least hour as the model keeps it -/
def lst (b : Int) : Int := if b < 1000000 then b else -1000000
def SK (x : RO) (d : Nat) (Q : QT) (J : MJ) (N : Int) (r : Nat) : Prop := ∀ (k B2 : Int) (s : HV) (tr : Int → Int) (a0 : AC), k + r + 1 = N → 0 ≤ k → MOK B2 s → B2 + 2 * (r + 1) ≤ 100000 → 0 ≤ a0.1 → a0.1 ≤ 1000000 →
    ∀ (q c : Nat) (I : MI) (u3 u4 : Option AV), (c : Int) ≤ 16 * s 2 → (16 * s 2 - c).toNat = q → I 94 = s → (∀ i : Int, 0 ≤ i → i < 24 → I 104 (24 * k + i) = s (29 + i)) → I 105 k = c - 1 → (∀ j : Int, 0 ≤ j → j < k → I 105 j = tr j) → I 92 24 = lst (impF (impS r k s tr) c a0).1 → ((impF (impS r k s tr) c a0).1 < 1000000 → ∀ j : Int, 0 ≤ j → j < N → I 106 j = (impF (impS r k s tr) c a0).2 j) →
    (∀ (I' : MI) (v3 v4 : Option AV), Fr [92, 94, 104, 105, 106] I I' → (∀ j : Int, j ≠ 24 → I' 92 j = I 92 j) → I' 94 = s → (∀ j i : Int, 0 ≤ j → j ≤ k → 0 ≤ i → i < 24 → I' 104 (24 * j + i) = I 104 (24 * j + i)) → (∀ j : Int, 0 ≤ j → j < k → I' 105 j = I 105 j) → I' 105 k = 16 * s 2 - 1 → I' 92 24 = lst (impF (impS r k s tr) (16 * (s 2).toNat) a0).1 → ((impF (impS r k s tr) (16 * (s 2).toNat) a0).1 < 1000000 → ∀ j : Int, 0 ≤ j → j < N → I' 106 j = (impF (impS r k s tr) (16 * (s 2).toNat) a0).2 j) →
      GO x (d + 4) 154 Q 47 [some (.inr (.inr (.inl 92))), some (.inl N), some (.inl k), v3, v4] [] I' J) →
    GO x (d + 4) 154 Q 47 [some (.inr (.inr (.inl 92))), some (.inl N), some (.inl k), u3, u4] [] I J
section
variable {x : RO} {d : Nat} {Q : QT} {I : MI} {J : MJ} {n : Nat} {g : HV}
theorem sk_one {N : Int} {r : Nat} (hN1 : N ≤ 5) (hrec : ∀ r', r = r' + 1 → SK x d Q J N r') : SK x d Q J N r := by
  intro k B2 s tr a0 hk k0 M hB a00 a01 q
  have b1 := B_1 M
  have b2 := B_2 M
  have b29 := B_29 M
  have hBB := M.2.1.2.1
  induction q with
  | zero =>
    intro c I u3 u4 h1 h2 h94 h104 h105 htr hl hrow hc
    have e : 16 * (s 2).toNat = c := by omega
    exact hc I u3 u4 Fr_rfl (fun _ _ => rfl) h94 (fun _ _ _ _ _ _ => rfl) (fun _ _ _ => rfl) (by omega) (by rw [e]; exact hl) (by rw [e]; exact hrow)
  | succ q ih =>
    intro c I u3 u4 h1 h2 h94 h104 h105 htr hl hrow hc
    have step : ∀ (I2 : MI) (v3 v4 : Option AV), Fr [92, 94, 104, 105, 106] I I2 → (∀ j : Int, j ≠ 24 → I2 92 j = I 92 j) → I2 94 = s → (∀ j i : Int, 0 ≤ j → j ≤ k → 0 ≤ i → i < 24 → I2 104 (24 * j + i) = I 104 (24 * j + i)) → (∀ j : Int, 0 ≤ j → j < k → I2 105 j = I 105 j) → I2 105 k = c → I2 92 24 = lst (impS r k s tr c (impF (impS r k s tr) c a0)).1 → ((impS r k s tr c (impF (impS r k s tr) c a0)).1 < 1000000 → ∀ j : Int, 0 ≤ j → j < N → I2 106 j = (impS r k s tr c (impF (impS r k s tr) c a0)).2 j) → GO x (d + 4) 154 Q 47 [some (.inr (.inr (.inl 92))), some (.inl N), some (.inl k), v3, v4] [] I2 J := by
      intro I2 v3 v4 g1 g0 g2 g3 g4 g5 g6 g7
      refine ih (c + 1) I2 v3 v4 (by omega) (by omega) g2 (fun i a b => by rw [g3 k i k0 (Int.le_refl k) a b]; exact h104 i a b) (by omega) (fun j a b => by rw [g4 j a b]; exact htr j a b) g6 g7 (fun I' w3 w4 f1 f0 f2 f3 f4 f5 f6 f7 => ?_)
      exact hc I' w3 w4 (Fr_trans g1 f1) (fun j hj => by rw [f0 j hj, g0 j hj]) f2 (fun j i a b c d => by rw [f3 j i a b c d, g3 j i a b c d]) (fun j a b => by rw [f4 j a b, g4 j a b]) f5 f6 f7
    have hAR := acc_R (k := k) (tr := tr) (n := r) (a := a0) b29.1 (by omega) a00 a01 c
    generalize hA : impF (impS r k s tr) c a0 = A at hl hrow step hAR
    have M1 : MOK B2 (up I 105 k c 94) := by rw [up_ne (by omega), h94]; exact M
    have c1 : (c : Int) < 16 * up I 105 k c 94 2 := by rw [up_ne (by omega), h94]; omega
    have s2 : I 94 2 = s 2 := by rw [h94]
    rw [@g_154_47]
    simp (disch := omega) only [@g_154_48, @g_154_51, @g_154_52, @g_154_55, @g_154_56, @g_154_57, @h_154_57, @g_154_58, @g_154_59, @g_154_60, @g_154_61, @g_154_62, @g_154_65, @g_154_66, @h_154_66, @g_154_67, @g_154_69, @g_154_70, @g_154_73, @g_154_74, @h_154_74, @g_154_75, @g_154_76, @g_154_79, @g_154_82, @g_154_83, @g_154_86, @g_154_87, @g_154_88, @g_154_91, @g_154_94, @g_154_95, @g_154_96, @g_154_99, @g_154_100, @h_154_100, @g_154_101, nlO_n, nlO_i, nlO_r, ret01_0, ret01_1, ret01_if, ret01_fi, true_and, Option.toList_some, Option.toList_none, List.cons_append, List.nil_append, ii_1, ii_0, ii_R, ij_1, ij_0, ij_R, ite_not, if_true, if_false, Int.one_ne_zero, one_e1, not_true_eq_false, not_false_eq_true, and_true, and_false, false_and, or_false, false_or, or_true, true_or, and_self, or_self, inr_n1000100, inr_n1000010, inr_n1000003, inr_n1000002, inr_n1000001, inr_n1000000, inr_n1, inr_0, inr_1, inr_2, inr_3, inr_4, inr_5, inr_6, inr_7, inr_8, inr_10, inr_11, inr_12, inr_13, inr_14, inr_15, inr_16, inr_20, inr_21, inr_22, inr_23, inr_24, inr_29, inr_30, inr_31, inr_32, inr_39, inr_40, inr_44, inr_48, inr_53, inr_54, inr_57, inr_59, inr_63, inr_97, inr_100, inr_101, inr_102, inr_104, inr_105, inr_106, inr_110, inr_112, inr_116, inr_120, inr_122, inr_144, inr_255, inr_256, inr_320, inr_552, inr_576, inr_999, inr_1000, inr_1023, inr_1024, inr_2048, inr_1000000, inr_252645135, inr_858993459, inr_1431655765, okO_92, okF_92_0, rfN_92_0, okF_92_2, rfN_92_2, okF_92_3, rfN_92_3, okF_92_4, rfN_92_4, okF_92_6, rfN_92_6, okF_92_7, rfN_92_7, okF_92_8, rfN_92_8, okF_92_9, rfN_92_9, okF_92_10, rfN_92_10, okF_92_11, rfN_92_11, okF_92_20, rfN_92_20, okF_92_21, rfN_92_21, okF_92_22, rfN_92_22, okF_92_23, rfN_92_23, okF_92_25, rfN_92_25, okF_92_26, rfN_92_26, okF_92_27, rfN_92_27, okA_94, lnN_94, okA_105, lnN_105, o_R, o_le, o_lt, o_nlt, o_nle, o_eq, o_ne, h105, up_same, show (c : Int) - 1 + 1 = c by omega, up_ne, s2, sp_153 M1 (Int.natCast_nonneg c) c1]
    rw [h94]
    cases hst : stB s c
    · simp (disch := omega) only [@g_154_104, nlO_n, nlO_i, nlO_r, ret01_0, ret01_1, ret01_if, ret01_fi, true_and, Option.toList_some, Option.toList_none, List.cons_append, List.nil_append, ii_1, ii_0, ii_R, ij_1, ij_0, ij_R, ite_not, if_true, if_false, Int.one_ne_zero, one_e1, not_true_eq_false, not_false_eq_true, and_true, and_false, false_and, or_false, false_or, or_true, true_or, and_self, or_self, inr_n1000100, inr_n1000010, inr_n1000003, inr_n1000002, inr_n1000001, inr_n1000000, inr_n1, inr_0, inr_1, inr_2, inr_3, inr_4, inr_5, inr_6, inr_7, inr_8, inr_10, inr_11, inr_12, inr_13, inr_14, inr_15, inr_16, inr_20, inr_21, inr_22, inr_23, inr_24, inr_29, inr_30, inr_31, inr_32, inr_39, inr_40, inr_44, inr_48, inr_53, inr_54, inr_57, inr_59, inr_63, inr_97, inr_100, inr_101, inr_102, inr_104, inr_105, inr_106, inr_110, inr_112, inr_116, inr_120, inr_122, inr_144, inr_255, inr_256, inr_320, inr_552, inr_576, inr_999, inr_1000, inr_1023, inr_1024, inr_2048, inr_1000000, inr_252645135, inr_858993459, inr_1431655765, if_true, if_false, Bool.false_eq_true, Bool.not_false, Bool.not_true, Bool.and_true, Bool.and_false, Bool.true_and, Bool.false_and, Bool.or_true, Bool.or_false, Bool.true_or, Bool.false_or, ite_self]
      have e : impS r k s tr c A = A := by unfold impS; rw [hst, if_neg (by decide)]
      rw [e] at step
      exact step _ _ _ (Fr_up (by simp)) (fun j _ => by rw [up_ne (by omega)]) (by rw [up_ne (by omega)]; exact h94) (fun j i _ _ _ _ => by rw [up_ne (by omega)]) (fun j a b => up_nj (by omega)) up_same (by rw [up_ne (by omega)]; exact hl) (fun hz j a b => by rw [up_ne (by omega)]; exact hrow hz j a b)
    · obtain ⟨M3, hp⟩ := nx_ok M (by omega) (Int.natCast_nonneg c) (by omega) hst
      have e : impS r k s tr c A = imp r (k + 1) (nxS s c) (rowU tr k c) A := by unfold impS; rw [hst, if_pos rfl]
      have n29 := nx_29 (s := s) (c := c)
      have nlo : ∀ i : Int, i < 29 → nxS s c i = s i := fun i hi => nx_lo (by omega) hi
      have nout : ∀ i : Int, ¬ (29 ≤ i ∧ i < 53) → nxS s c i = s i := fun i hi => by
        unfold stB at hst
        unfold nxS
        split
        · exact fS_n (by omega)
        · rename_i h8
          rw [if_neg h8, Bool.and_eq_true, decide_eq_true_eq] at hst
          exact aS_n (by omega)
      have back : ∀ (I3 : MI) (v3 v4 : Option AV), I3 94 = nxS s c → Fr [92, 94, 104, 105, 106] I I3 → (∀ j : Int, j ≠ 24 → I3 92 j = I 92 j) → (∀ j i : Int, 0 ≤ j → j ≤ k → 0 ≤ i → i < 24 → I3 104 (24 * j + i) = I 104 (24 * j + i)) → (∀ j : Int, 0 ≤ j → j < k → I3 105 j = I 105 j) → I3 105 k = c → I3 92 24 = lst (imp r (k + 1) (nxS s c) (rowU tr k c) A).1 → ((imp r (k + 1) (nxS s c) (rowU tr k c) A).1 < 1000000 → ∀ j : Int, 0 ≤ j → j < N → I3 106 j = (imp r (k + 1) (nxS s c) (rowU tr k c) A).2 j) → GO x (d + 4) 154 Q 47 [some (.inr (.inr (.inl 92))), some (.inl N), some (.inl k), v3, v4] [] (cpI I3 94 29 24 104 (24 * k)) J := by
        intro I3 v3 v4 f2 f1 f0 f3 f4 f5 f6 f7
        rw [e] at step
        refine step _ _ _ (fun c hc => ?_) (fun j hj => by rw [cpI_ne (by omega)]; exact f0 j hj) ?_ (fun j i a b c d => by rw [cpI_ne (by omega)]; exact f3 j i a b c d) (fun j a b => by rw [cpI_ne (by omega)]; exact f4 j a b) (by rw [cpI_ne (by omega)]; exact f5) (by rw [cpI_ne (by omega)]; exact f6) (fun hz j a b => by rw [cpI_ne (by omega)]; exact f7 hz j a b)
        · have hc2 := hc
          simp only [List.mem_cons, List.not_mem_nil, or_false, not_or] at hc
          rw [cpI_ne (by omega)]
          exact f1 c hc2
        · exact take_back f2 nout (fun i a b => by rw [f3 k i k0 (Int.le_refl k) a b]; exact h104 i a b)
      have after : GO x (d + 4) 154 Q 159 [some (.inr (.inr (.inl 92))), some (.inl N), some (.inl k), u3, u4] [] (upR (up I 105 k c) 94 (nxS s c)) J := by
        have m1 : upR (up I 105 k c) 94 (nxS s c) 92 24 = lst A.1 := by rw [upR_n (by omega), up_ne (by omega)]; exact hl
        have m2 : upR (up I 105 k c) 94 (nxS s c) 94 = nxS s c := upR_s
        have m3 : ∀ c' : Nat, c' ≠ 94 → c' ≠ 105 → upR (up I 105 k c) 94 (nxS s c) c' = I c' := fun c' a b => by rw [upR_n a, up_ne b]
        have m4 : ∀ j : Int, j < k → upR (up I 105 k c) 94 (nxS s c) 105 j = I 105 j := fun j a => by rw [upR_n (by omega), up_nj (by omega)]
        have m5 : upR (up I 105 k c) 94 (nxS s c) 105 k = c := by rw [upR_n (by omega), up_same]
        generalize upR (up I 105 k c) 94 (nxS s c) = I2 at m1 m2 m3 m4 m5
        have f1 : Fr [92, 94, 104, 105, 106] I I2 := fun c' hc' => by
          simp only [List.mem_cons, List.not_mem_nil, or_false, not_or] at hc'
          exact m3 c' (by omega) (by omega)
        by_cases hb : nxS s c 29 + r < A.1
        · have h198 : GO x (d + 4) 154 Q 198 [some (.inr (.inr (.inl 92))), some (.inl N), some (.inl k), some (.inl 1), u4] [] I2 J → GO x (d + 4) 154 Q 159 [some (.inr (.inr (.inl 92))), some (.inl N), some (.inl k), u3, u4] [] I2 J := by
            intro hz
            by_cases hA1 : A.1 < 1000000
            · have m1' : I2 92 24 = A.1 := by rw [m1]; unfold lst; rw [if_pos hA1]
              simp (disch := omega) only [@g_154_159, @g_154_160, @g_154_163, @g_154_165, @g_154_168, @g_154_169, @g_154_172, @g_154_174, @h_154_174, @g_154_175, @g_154_176, @g_154_177, @g_154_178, @g_154_179, @g_154_180, @g_154_181, @g_154_182, @g_154_185, @g_154_188, @g_154_189, @g_154_192, @g_154_193, @g_154_194, @g_154_195, nlO_n, nlO_i, nlO_r, ret01_0, ret01_1, ret01_if, ret01_fi, true_and, Option.toList_some, Option.toList_none, List.cons_append, List.nil_append, ii_1, ii_0, ii_R, ij_1, ij_0, ij_R, ite_not, if_true, if_false, Int.one_ne_zero, one_e1, not_true_eq_false, not_false_eq_true, and_true, and_false, false_and, or_false, false_or, or_true, true_or, and_self, or_self, inr_n1000100, inr_n1000010, inr_n1000003, inr_n1000002, inr_n1000001, inr_n1000000, inr_n1, inr_0, inr_1, inr_2, inr_3, inr_4, inr_5, inr_6, inr_7, inr_8, inr_10, inr_11, inr_12, inr_13, inr_14, inr_15, inr_16, inr_20, inr_21, inr_22, inr_23, inr_24, inr_29, inr_30, inr_31, inr_32, inr_39, inr_40, inr_44, inr_48, inr_53, inr_54, inr_57, inr_59, inr_63, inr_97, inr_100, inr_101, inr_102, inr_104, inr_105, inr_106, inr_110, inr_112, inr_116, inr_120, inr_122, inr_144, inr_255, inr_256, inr_320, inr_552, inr_576, inr_999, inr_1000, inr_1023, inr_1024, inr_2048, inr_1000000, inr_252645135, inr_858993459, inr_1431655765, okO_92, okF_92_0, rfN_92_0, okF_92_2, rfN_92_2, okF_92_3, rfN_92_3, okF_92_4, rfN_92_4, okF_92_6, rfN_92_6, okF_92_7, rfN_92_7, okF_92_8, rfN_92_8, okF_92_9, rfN_92_9, okF_92_10, rfN_92_10, okF_92_11, rfN_92_11, okF_92_20, rfN_92_20, okF_92_21, rfN_92_21, okF_92_22, rfN_92_22, okF_92_23, rfN_92_23, okF_92_25, rfN_92_25, okF_92_26, rfN_92_26, okF_92_27, rfN_92_27, okA_94, lnN_94, o_R, o_le, o_lt, o_nlt, o_nle, o_eq, o_ne, m1', m2]
              exact hz
            · have m1' : I2 92 24 = -1000000 := by rw [m1]; unfold lst; rw [if_neg hA1]
              simp (disch := omega) only [@g_154_159, @g_154_160, @g_154_163, @g_154_165, @g_154_168, @g_154_169, @g_154_172, @g_154_174, @h_154_174, @g_154_175, @g_154_176, @g_154_177, @g_154_178, @g_154_179, @g_154_180, @g_154_181, @g_154_182, @g_154_185, @g_154_188, @g_154_189, @g_154_192, @g_154_193, @g_154_194, @g_154_195, nlO_n, nlO_i, nlO_r, ret01_0, ret01_1, ret01_if, ret01_fi, true_and, Option.toList_some, Option.toList_none, List.cons_append, List.nil_append, ii_1, ii_0, ii_R, ij_1, ij_0, ij_R, ite_not, if_true, if_false, Int.one_ne_zero, one_e1, not_true_eq_false, not_false_eq_true, and_true, and_false, false_and, or_false, false_or, or_true, true_or, and_self, or_self, inr_n1000100, inr_n1000010, inr_n1000003, inr_n1000002, inr_n1000001, inr_n1000000, inr_n1, inr_0, inr_1, inr_2, inr_3, inr_4, inr_5, inr_6, inr_7, inr_8, inr_10, inr_11, inr_12, inr_13, inr_14, inr_15, inr_16, inr_20, inr_21, inr_22, inr_23, inr_24, inr_29, inr_30, inr_31, inr_32, inr_39, inr_40, inr_44, inr_48, inr_53, inr_54, inr_57, inr_59, inr_63, inr_97, inr_100, inr_101, inr_102, inr_104, inr_105, inr_106, inr_110, inr_112, inr_116, inr_120, inr_122, inr_144, inr_255, inr_256, inr_320, inr_552, inr_576, inr_999, inr_1000, inr_1023, inr_1024, inr_2048, inr_1000000, inr_252645135, inr_858993459, inr_1431655765, okO_92, okF_92_0, rfN_92_0, okF_92_2, rfN_92_2, okF_92_3, rfN_92_3, okF_92_4, rfN_92_4, okF_92_6, rfN_92_6, okF_92_7, rfN_92_7, okF_92_8, rfN_92_8, okF_92_9, rfN_92_9, okF_92_10, rfN_92_10, okF_92_11, rfN_92_11, okF_92_20, rfN_92_20, okF_92_21, rfN_92_21, okF_92_22, rfN_92_22, okF_92_23, rfN_92_23, okF_92_25, rfN_92_25, okF_92_26, rfN_92_26, okF_92_27, rfN_92_27, okA_94, lnN_94, o_R, o_le, o_lt, o_nlt, o_nle, o_eq, o_ne, m1', m2]
              exact hz
          refine h198 ?_
          rcases r with _ | r'
          · have ei : imp 0 (k + 1) (nxS s c) (rowU tr k c) A = (nxS s c 29, rowU tr k c) := by
              show (if nxS s c 29 < A.1 then (nxS s c 29, rowU tr k c) else A) = _
              rw [if_pos (by omega)]
            rw [ei] at back
            simp (disch := omega) only [@g_154_198, @g_154_199, @g_154_200, @g_154_201, @g_154_202, @g_154_205, @g_154_206, @g_154_207, @g_154_210, @g_154_212, @h_154_212, @g_154_213, @g_154_216, @g_154_217, nlO_n, nlO_i, nlO_r, ret01_0, ret01_1, ret01_if, ret01_fi, true_and, Option.toList_some, Option.toList_none, List.cons_append, List.nil_append, ii_1, ii_0, ii_R, ij_1, ij_0, ij_R, ite_not, if_true, if_false, Int.one_ne_zero, one_e1, not_true_eq_false, not_false_eq_true, and_true, and_false, false_and, or_false, false_or, or_true, true_or, and_self, or_self, inr_n1000100, inr_n1000010, inr_n1000003, inr_n1000002, inr_n1000001, inr_n1000000, inr_n1, inr_0, inr_1, inr_2, inr_3, inr_4, inr_5, inr_6, inr_7, inr_8, inr_10, inr_11, inr_12, inr_13, inr_14, inr_15, inr_16, inr_20, inr_21, inr_22, inr_23, inr_24, inr_29, inr_30, inr_31, inr_32, inr_39, inr_40, inr_44, inr_48, inr_53, inr_54, inr_57, inr_59, inr_63, inr_97, inr_100, inr_101, inr_102, inr_104, inr_105, inr_106, inr_110, inr_112, inr_116, inr_120, inr_122, inr_144, inr_255, inr_256, inr_320, inr_552, inr_576, inr_999, inr_1000, inr_1023, inr_1024, inr_2048, inr_1000000, inr_252645135, inr_858993459, inr_1431655765, okO_92, okF_92_0, rfN_92_0, okF_92_2, rfN_92_2, okF_92_3, rfN_92_3, okF_92_4, rfN_92_4, okF_92_6, rfN_92_6, okF_92_7, rfN_92_7, okF_92_8, rfN_92_8, okF_92_9, rfN_92_9, okF_92_10, rfN_92_10, okF_92_11, rfN_92_11, okF_92_20, rfN_92_20, okF_92_21, rfN_92_21, okF_92_22, rfN_92_22, okF_92_23, rfN_92_23, okF_92_25, rfN_92_25, okF_92_26, rfN_92_26, okF_92_27, rfN_92_27, okA_94, lnN_94, o_R, o_le, o_lt, o_nlt, o_nle, o_eq, o_ne, m2]
            refine lp_154b (d := d + 3) (by omega) hN1 _ 0 _ (by omega) (by omega) rfl ?_
            simp (disch := omega) only [@g_154_245, @g_154_246, @g_154_247, nlO_n, nlO_i, nlO_r, ret01_0, ret01_1, ret01_if, ret01_fi, true_and, Option.toList_some, Option.toList_none, List.cons_append, List.nil_append, ii_1, ii_0, ii_R, ij_1, ij_0, ij_R, ite_not, if_true, if_false, Int.one_ne_zero, one_e1, not_true_eq_false, not_false_eq_true, and_true, and_false, false_and, or_false, false_or, or_true, true_or, and_self, or_self, inr_n1000100, inr_n1000010, inr_n1000003, inr_n1000002, inr_n1000001, inr_n1000000, inr_n1, inr_0, inr_1, inr_2, inr_3, inr_4, inr_5, inr_6, inr_7, inr_8, inr_10, inr_11, inr_12, inr_13, inr_14, inr_15, inr_16, inr_20, inr_21, inr_22, inr_23, inr_24, inr_29, inr_30, inr_31, inr_32, inr_39, inr_40, inr_44, inr_48, inr_53, inr_54, inr_57, inr_59, inr_63, inr_97, inr_100, inr_101, inr_102, inr_104, inr_105, inr_106, inr_110, inr_112, inr_116, inr_120, inr_122, inr_144, inr_255, inr_256, inr_320, inr_552, inr_576, inr_999, inr_1000, inr_1023, inr_1024, inr_2048, inr_1000000, inr_252645135, inr_858993459, inr_1431655765, okO_92, okF_92_0, rfN_92_0, okF_92_2, rfN_92_2, okF_92_3, rfN_92_3, okF_92_4, rfN_92_4, okF_92_6, rfN_92_6, okF_92_7, rfN_92_7, okF_92_8, rfN_92_8, okF_92_9, rfN_92_9, okF_92_10, rfN_92_10, okF_92_11, rfN_92_11, okF_92_20, rfN_92_20, okF_92_21, rfN_92_21, okF_92_22, rfN_92_22, okF_92_23, rfN_92_23, okF_92_25, rfN_92_25, okF_92_26, rfN_92_26, okF_92_27, rfN_92_27, o_R, o_le, o_lt, o_nlt, o_nle, o_eq, o_ne]
            refine sp_151 k0 (by omega) ?_
            simp (disch := omega) only [@g_154_250, @g_154_253, @g_154_254, @g_154_257, @g_154_260, @g_154_261, @g_154_262, @g_154_265, @g_154_266, @g_154_269, @g_154_270, @g_154_271, @g_154_272, @g_154_275, @g_154_276, @g_154_277, @g_154_280, nlO_n, nlO_i, nlO_r, ret01_0, ret01_1, ret01_if, ret01_fi, true_and, Option.toList_some, Option.toList_none, List.cons_append, List.nil_append, ii_1, ii_0, ii_R, ij_1, ij_0, ij_R, ite_not, if_true, if_false, Int.one_ne_zero, one_e1, not_true_eq_false, not_false_eq_true, and_true, and_false, false_and, or_false, false_or, or_true, true_or, and_self, or_self, inr_n1000100, inr_n1000010, inr_n1000003, inr_n1000002, inr_n1000001, inr_n1000000, inr_n1, inr_0, inr_1, inr_2, inr_3, inr_4, inr_5, inr_6, inr_7, inr_8, inr_10, inr_11, inr_12, inr_13, inr_14, inr_15, inr_16, inr_20, inr_21, inr_22, inr_23, inr_24, inr_29, inr_30, inr_31, inr_32, inr_39, inr_40, inr_44, inr_48, inr_53, inr_54, inr_57, inr_59, inr_63, inr_97, inr_100, inr_101, inr_102, inr_104, inr_105, inr_106, inr_110, inr_112, inr_116, inr_120, inr_122, inr_144, inr_255, inr_256, inr_320, inr_552, inr_576, inr_999, inr_1000, inr_1023, inr_1024, inr_2048, inr_1000000, inr_252645135, inr_858993459, inr_1431655765]
            refine back _ _ _ ?_ (fun c' hc' => ?_) (fun j hj => ?_) (fun j i a b c d => ?_) (fun j a b => ?_) ?_ ?_ (fun _ j a b => ?_)
            · simp (disch := omega) only [up_ne, up_same, up_nj, flI_ne, flI_in, flI_out, cpI_ne, cpI_in, cpI_out]; exact m2
            · have hc2 := hc'
              simp only [List.mem_cons, List.not_mem_nil, or_false, not_or] at hc'
              simp (disch := omega) only [up_ne, up_same, up_nj, flI_ne, flI_in, flI_out, cpI_ne, cpI_in, cpI_out]
              exact f1 c' hc2
            · simp (disch := omega) only [up_ne, up_same, up_nj, flI_ne, flI_in, flI_out, cpI_ne, cpI_in, cpI_out]
              rw [m3 92 (by omega) (by omega)]
            · simp (disch := omega) only [up_ne, up_same, up_nj, flI_ne, flI_in, flI_out, cpI_ne, cpI_in, cpI_out]
              rw [m3 104 (by omega) (by omega)]
            · simp (disch := omega) only [up_ne, up_same, up_nj, flI_ne, flI_in, flI_out, cpI_ne, cpI_in, cpI_out]
              exact m4 j b
            · simp (disch := omega) only [up_ne, up_same, up_nj, flI_ne, flI_in, flI_out, cpI_ne, cpI_in, cpI_out]
              exact m5
            · simp (disch := omega) only [up_ne, up_same, up_nj, flI_ne, flI_in, flI_out, cpI_ne, cpI_in, cpI_out]
              unfold lst
              rw [if_pos (by show nxS s c 29 < 1000000; omega)]
            · simp (disch := omega) only [up_ne, up_same, up_nj, flI_ne, flI_in, flI_out, cpI_ne, cpI_in, cpI_out]
              rw [show (0 : Int) + (j - 0) = j by omega]
              show I2 105 j = if j = k then (c : Int) else tr j
              by_cases hj : j = k
              · rw [if_pos hj, hj]; exact m5
              · rw [if_neg hj, m4 j (by omega)]; exact htr j a (by omega)
          · simp (disch := omega) only [@g_154_198, @g_154_199, @g_154_200, @g_154_201, @g_154_202, @g_154_253, @g_154_254, @g_154_257, @g_154_260, @g_154_261, @g_154_262, nlO_n, nlO_i, nlO_r, ret01_0, ret01_1, ret01_if, ret01_fi, true_and, Option.toList_some, Option.toList_none, List.cons_append, List.nil_append, ii_1, ii_0, ii_R, ij_1, ij_0, ij_R, ite_not, if_true, if_false, Int.one_ne_zero, one_e1, not_true_eq_false, not_false_eq_true, and_true, and_false, false_and, or_false, false_or, or_true, true_or, and_self, or_self, inr_n1000100, inr_n1000010, inr_n1000003, inr_n1000002, inr_n1000001, inr_n1000000, inr_n1, inr_0, inr_1, inr_2, inr_3, inr_4, inr_5, inr_6, inr_7, inr_8, inr_10, inr_11, inr_12, inr_13, inr_14, inr_15, inr_16, inr_20, inr_21, inr_22, inr_23, inr_24, inr_29, inr_30, inr_31, inr_32, inr_39, inr_40, inr_44, inr_48, inr_53, inr_54, inr_57, inr_59, inr_63, inr_97, inr_100, inr_101, inr_102, inr_104, inr_105, inr_106, inr_110, inr_112, inr_116, inr_120, inr_122, inr_144, inr_255, inr_256, inr_320, inr_552, inr_576, inr_999, inr_1000, inr_1023, inr_1024, inr_2048, inr_1000000, inr_252645135, inr_858993459, inr_1431655765, okO_92, okF_92_0, rfN_92_0, okF_92_2, rfN_92_2, okF_92_3, rfN_92_3, okF_92_4, rfN_92_4, okF_92_6, rfN_92_6, okF_92_7, rfN_92_7, okF_92_8, rfN_92_8, okF_92_9, rfN_92_9, okF_92_10, rfN_92_10, okF_92_11, rfN_92_11, okF_92_20, rfN_92_20, okF_92_21, rfN_92_21, okF_92_22, rfN_92_22, okF_92_23, rfN_92_23, okF_92_25, rfN_92_25, okF_92_26, rfN_92_26, okF_92_27, rfN_92_27, o_R, o_le, o_lt, o_nlt, o_nle, o_eq, o_ne]
            refine sp_150 (by omega) (by omega) ?_
            simp (disch := omega) only [@g_154_265, @g_154_266, @g_154_269, @g_154_270, @g_154_271, @g_154_272, @g_154_275, @g_154_276, @g_154_277, @g_154_280, nlO_n, nlO_i, nlO_r, ret01_0, ret01_1, ret01_if, ret01_fi, true_and, Option.toList_some, Option.toList_none, List.cons_append, List.nil_append, ii_1, ii_0, ii_R, ij_1, ij_0, ij_R, ite_not, if_true, if_false, Int.one_ne_zero, one_e1, not_true_eq_false, not_false_eq_true, and_true, and_false, false_and, or_false, false_or, or_true, true_or, and_self, or_self, inr_n1000100, inr_n1000010, inr_n1000003, inr_n1000002, inr_n1000001, inr_n1000000, inr_n1, inr_0, inr_1, inr_2, inr_3, inr_4, inr_5, inr_6, inr_7, inr_8, inr_10, inr_11, inr_12, inr_13, inr_14, inr_15, inr_16, inr_20, inr_21, inr_22, inr_23, inr_24, inr_29, inr_30, inr_31, inr_32, inr_39, inr_40, inr_44, inr_48, inr_53, inr_54, inr_57, inr_59, inr_63, inr_97, inr_100, inr_101, inr_102, inr_104, inr_105, inr_106, inr_110, inr_112, inr_116, inr_120, inr_122, inr_144, inr_255, inr_256, inr_320, inr_552, inr_576, inr_999, inr_1000, inr_1023, inr_1024, inr_2048, inr_1000000, inr_252645135, inr_858993459, inr_1431655765, okO_92, okF_92_0, rfN_92_0, okF_92_2, rfN_92_2, okF_92_3, rfN_92_3, okF_92_4, rfN_92_4, okF_92_6, rfN_92_6, okF_92_7, rfN_92_7, okF_92_8, rfN_92_8, okF_92_9, rfN_92_9, okF_92_10, rfN_92_10, okF_92_11, rfN_92_11, okF_92_20, rfN_92_20, okF_92_21, rfN_92_21, okF_92_22, rfN_92_22, okF_92_23, rfN_92_23, okF_92_25, rfN_92_25, okF_92_26, rfN_92_26, okF_92_27, rfN_92_27, okA_105, lnN_105, o_R, o_le, o_lt, o_nlt, o_nle, o_eq, o_ne]
            refine hrec r' rfl (k + 1) (B2 + 2) (nxS s c) (rowU tr k c) A (by omega) (by omega) M3 (by omega) hAR.1 hAR.2 _ 0 _ _ _ (by rw [nlo 2 (by omega)]; omega) rfl ?_ (fun i a b => ?_) ?_ (fun j a b => ?_) ?_ (fun hz j a b => ?_) (fun I3 v3 v4 g1 g0 g2 g3 g4 g5 g6 g7 => ?_)
            · simp (disch := omega) only [up_ne, up_same, up_nj, flI_ne, flI_in, flI_out, cpI_ne, cpI_in, cpI_out]; exact m2
            · simp (disch := omega) only [up_ne, up_same, up_nj, flI_ne, flI_in, flI_out, cpI_ne, cpI_in, cpI_out, m2]
              congr 1
              omega
            · simp (disch := omega) only [up_ne, up_same, up_nj, flI_ne, flI_in, flI_out, cpI_ne, cpI_in, cpI_out]
              rfl
            · simp (disch := omega) only [up_ne, up_same, up_nj, flI_ne, flI_in, flI_out, cpI_ne, cpI_in, cpI_out]
              show I2 105 j = if j = k then (c : Int) else tr j
              by_cases hj : j = k
              · rw [if_pos hj, hj]; exact m5
              · rw [if_neg hj, m4 j (by omega)]; exact htr j a (by omega)
            · simp (disch := omega) only [up_ne, up_same, up_nj, flI_ne, flI_in, flI_out, cpI_ne, cpI_in, cpI_out]; exact m1
            · simp (disch := omega) only [up_ne, up_same, up_nj, flI_ne, flI_in, flI_out, cpI_ne, cpI_in, cpI_out]
              rw [m3 106 (by omega) (by omega)]
              exact hrow hz j a b
            · have i1 : I3 94 2 = s 2 := by rw [g2]; exact nlo 2 (by omega)
              rw [nlo 2 (by omega)] at g5
              rw [← imp_s] at g6 g7
              rw [@g_154_47]
              simp (disch := omega) only [@g_154_48, @g_154_51, @g_154_52, @g_154_55, @g_154_56, @g_154_57, @h_154_57, @g_154_58, @g_154_59, @g_154_60, @g_154_61, @g_154_62, @g_154_65, @g_154_66, @h_154_66, @g_154_67, @g_154_69, @g_154_70, @g_154_73, @g_154_74, @h_154_74, @g_154_75, @g_154_76, @g_154_79, @g_154_82, @g_154_83, @g_154_86, @g_154_87, @g_154_88, nlO_n, nlO_i, nlO_r, ret01_0, ret01_1, ret01_if, ret01_fi, true_and, Option.toList_some, Option.toList_none, List.cons_append, List.nil_append, ii_1, ii_0, ii_R, ij_1, ij_0, ij_R, ite_not, if_true, if_false, Int.one_ne_zero, one_e1, not_true_eq_false, not_false_eq_true, and_true, and_false, false_and, or_false, false_or, or_true, true_or, and_self, or_self, inr_n1000100, inr_n1000010, inr_n1000003, inr_n1000002, inr_n1000001, inr_n1000000, inr_n1, inr_0, inr_1, inr_2, inr_3, inr_4, inr_5, inr_6, inr_7, inr_8, inr_10, inr_11, inr_12, inr_13, inr_14, inr_15, inr_16, inr_20, inr_21, inr_22, inr_23, inr_24, inr_29, inr_30, inr_31, inr_32, inr_39, inr_40, inr_44, inr_48, inr_53, inr_54, inr_57, inr_59, inr_63, inr_97, inr_100, inr_101, inr_102, inr_104, inr_105, inr_106, inr_110, inr_112, inr_116, inr_120, inr_122, inr_144, inr_255, inr_256, inr_320, inr_552, inr_576, inr_999, inr_1000, inr_1023, inr_1024, inr_2048, inr_1000000, inr_252645135, inr_858993459, inr_1431655765, okO_92, okF_92_0, rfN_92_0, okF_92_2, rfN_92_2, okF_92_3, rfN_92_3, okF_92_4, rfN_92_4, okF_92_6, rfN_92_6, okF_92_7, rfN_92_7, okF_92_8, rfN_92_8, okF_92_9, rfN_92_9, okF_92_10, rfN_92_10, okF_92_11, rfN_92_11, okF_92_20, rfN_92_20, okF_92_21, rfN_92_21, okF_92_22, rfN_92_22, okF_92_23, rfN_92_23, okF_92_25, rfN_92_25, okF_92_26, rfN_92_26, okF_92_27, rfN_92_27, okA_94, lnN_94, okA_105, lnN_105, o_R, o_le, o_lt, o_nlt, o_nle, o_eq, o_ne, g5, up_same, up_ne, i1]
              rw [show k + 1 + -1 = k by omega]
              refine sp_151 k0 (by omega) ?_
              simp (disch := omega) only [@g_154_91, nlO_n, nlO_i, nlO_r, ret01_0, ret01_1, ret01_if, ret01_fi, true_and, Option.toList_some, Option.toList_none, List.cons_append, List.nil_append, ii_1, ii_0, ii_R, ij_1, ij_0, ij_R, ite_not, if_true, if_false, Int.one_ne_zero, one_e1, not_true_eq_false, not_false_eq_true, and_true, and_false, false_and, or_false, false_or, or_true, true_or, and_self, or_self, inr_n1000100, inr_n1000010, inr_n1000003, inr_n1000002, inr_n1000001, inr_n1000000, inr_n1, inr_0, inr_1, inr_2, inr_3, inr_4, inr_5, inr_6, inr_7, inr_8, inr_10, inr_11, inr_12, inr_13, inr_14, inr_15, inr_16, inr_20, inr_21, inr_22, inr_23, inr_24, inr_29, inr_30, inr_31, inr_32, inr_39, inr_40, inr_44, inr_48, inr_53, inr_54, inr_57, inr_59, inr_63, inr_97, inr_100, inr_101, inr_102, inr_104, inr_105, inr_106, inr_110, inr_112, inr_116, inr_120, inr_122, inr_144, inr_255, inr_256, inr_320, inr_552, inr_576, inr_999, inr_1000, inr_1023, inr_1024, inr_2048, inr_1000000, inr_252645135, inr_858993459, inr_1431655765]
              refine back _ _ _ (by rw [up_ne (by omega)]; exact g2) (fun c' hc' => ?_) (fun j hj => ?_) (fun j i a b c d => ?_) (fun j a b => ?_) ?_ ?_ (fun hz j a b => ?_)
              · have hc2 := hc'
                simp only [List.mem_cons, List.not_mem_nil, or_false, not_or] at hc'
                rw [up_ne (by omega), g1 c' hc2]
                simp (disch := omega) only [up_ne, up_same, up_nj, flI_ne, flI_in, flI_out, cpI_ne, cpI_in, cpI_out]
                exact f1 c' hc2
              · rw [up_ne (by omega), g0 j hj]
                simp (disch := omega) only [up_ne, up_same, up_nj, flI_ne, flI_in, flI_out, cpI_ne, cpI_in, cpI_out]
                rw [m3 92 (by omega) (by omega)]
              · rw [up_ne (by omega), g3 j i a (by omega) c d]
                simp (disch := omega) only [up_ne, up_same, up_nj, flI_ne, flI_in, flI_out, cpI_ne, cpI_in, cpI_out]
                rw [m3 104 (by omega) (by omega)]
              · rw [up_nj (by omega), g4 j a (by omega)]
                simp (disch := omega) only [up_ne, up_same, up_nj, flI_ne, flI_in, flI_out, cpI_ne, cpI_in, cpI_out]
                exact m4 j b
              · rw [up_nj (by omega), g4 k k0 (by omega)]
                simp (disch := omega) only [up_ne, up_same, up_nj, flI_ne, flI_in, flI_out, cpI_ne, cpI_in, cpI_out]
                exact m5
              · rw [up_ne (by omega)]; exact g6
              · rw [up_ne (by omega)]; exact g7 hz j a b
        · have ei : imp r (k + 1) (nxS s c) (rowU tr k c) A = A := imp_id _ _ _ _ _ (by
            have := mh_ge r (nxS s c) (by omega)
            omega)
          rw [ei] at back
          have hA1 : A.1 < 1000000 := by omega
          have m1' : I2 92 24 = A.1 := by rw [m1]; unfold lst; rw [if_pos hA1]
          simp (disch := omega) only [@g_154_159, @g_154_160, @g_154_163, @g_154_165, @g_154_168, @g_154_169, @g_154_172, @g_154_174, @h_154_174, @g_154_175, @g_154_176, @g_154_177, @g_154_178, @g_154_179, @g_154_180, @g_154_181, @g_154_182, @g_154_185, @g_154_188, @g_154_189, @g_154_192, @g_154_193, @g_154_194, @g_154_195, @g_154_253, @g_154_254, @g_154_257, @g_154_260, @g_154_261, @g_154_262, @g_154_265, @g_154_266, @g_154_269, @g_154_270, @g_154_271, @g_154_272, @g_154_275, @g_154_276, @g_154_277, nlO_n, nlO_i, nlO_r, ret01_0, ret01_1, ret01_if, ret01_fi, true_and, Option.toList_some, Option.toList_none, List.cons_append, List.nil_append, ii_1, ii_0, ii_R, ij_1, ij_0, ij_R, ite_not, if_true, if_false, Int.one_ne_zero, one_e1, not_true_eq_false, not_false_eq_true, and_true, and_false, false_and, or_false, false_or, or_true, true_or, and_self, or_self, inr_n1000100, inr_n1000010, inr_n1000003, inr_n1000002, inr_n1000001, inr_n1000000, inr_n1, inr_0, inr_1, inr_2, inr_3, inr_4, inr_5, inr_6, inr_7, inr_8, inr_10, inr_11, inr_12, inr_13, inr_14, inr_15, inr_16, inr_20, inr_21, inr_22, inr_23, inr_24, inr_29, inr_30, inr_31, inr_32, inr_39, inr_40, inr_44, inr_48, inr_53, inr_54, inr_57, inr_59, inr_63, inr_97, inr_100, inr_101, inr_102, inr_104, inr_105, inr_106, inr_110, inr_112, inr_116, inr_120, inr_122, inr_144, inr_255, inr_256, inr_320, inr_552, inr_576, inr_999, inr_1000, inr_1023, inr_1024, inr_2048, inr_1000000, inr_252645135, inr_858993459, inr_1431655765, okO_92, okF_92_0, rfN_92_0, okF_92_2, rfN_92_2, okF_92_3, rfN_92_3, okF_92_4, rfN_92_4, okF_92_6, rfN_92_6, okF_92_7, rfN_92_7, okF_92_8, rfN_92_8, okF_92_9, rfN_92_9, okF_92_10, rfN_92_10, okF_92_11, rfN_92_11, okF_92_20, rfN_92_20, okF_92_21, rfN_92_21, okF_92_22, rfN_92_22, okF_92_23, rfN_92_23, okF_92_25, rfN_92_25, okF_92_26, rfN_92_26, okF_92_27, rfN_92_27, okA_94, lnN_94, o_R, o_le, o_lt, o_nlt, o_nle, o_eq, o_ne, m1', m2]
          refine sp_151 k0 (by omega) ?_
          simp (disch := omega) only [@g_154_280, nlO_n, nlO_i, nlO_r, ret01_0, ret01_1, ret01_if, ret01_fi, true_and, Option.toList_some, Option.toList_none, List.cons_append, List.nil_append, ii_1, ii_0, ii_R, ij_1, ij_0, ij_R, ite_not, if_true, if_false, Int.one_ne_zero, one_e1, not_true_eq_false, not_false_eq_true, and_true, and_false, false_and, or_false, false_or, or_true, true_or, and_self, or_self, inr_n1000100, inr_n1000010, inr_n1000003, inr_n1000002, inr_n1000001, inr_n1000000, inr_n1, inr_0, inr_1, inr_2, inr_3, inr_4, inr_5, inr_6, inr_7, inr_8, inr_10, inr_11, inr_12, inr_13, inr_14, inr_15, inr_16, inr_20, inr_21, inr_22, inr_23, inr_24, inr_29, inr_30, inr_31, inr_32, inr_39, inr_40, inr_44, inr_48, inr_53, inr_54, inr_57, inr_59, inr_63, inr_97, inr_100, inr_101, inr_102, inr_104, inr_105, inr_106, inr_110, inr_112, inr_116, inr_120, inr_122, inr_144, inr_255, inr_256, inr_320, inr_552, inr_576, inr_999, inr_1000, inr_1023, inr_1024, inr_2048, inr_1000000, inr_252645135, inr_858993459, inr_1431655765]
          exact back _ _ _ m2 f1 (fun j hj => by rw [m3 92 (by omega) (by omega)]) (fun j i _ _ _ _ => by rw [m3 104 (by omega) (by omega)]) (fun j a b => m4 j b) m5 m1 (fun hz j a b => by rw [m3 106 (by omega) (by omega)]; exact hrow hz j a b)
      by_cases h8 : (c : Int) % 16 = 8
      · have en : nxS s c = folS s (c / 16) := by unfold nxS; rw [if_pos h8]
        have t1 : (c : Int) / 16 < up I 105 k c 94 2 := by rw [up_ne (by omega), h94]; omega
        simp (disch := omega) only [@g_154_104, @g_154_107, @g_154_108, @g_154_111, @g_154_112, @h_154_112, @g_154_113, @g_154_115, @g_154_116, @g_154_118, @g_154_121, @g_154_122, @g_154_123, @g_154_126, @g_154_127, @h_154_127, @g_154_128, @g_154_130, @g_154_131, @g_154_134, nlO_n, nlO_i, nlO_r, ret01_0, ret01_1, ret01_if, ret01_fi, true_and, Option.toList_some, Option.toList_none, List.cons_append, List.nil_append, ii_1, ii_0, ii_R, ij_1, ij_0, ij_R, ite_not, if_true, if_false, Int.one_ne_zero, one_e1, not_true_eq_false, not_false_eq_true, and_true, and_false, false_and, or_false, false_or, or_true, true_or, and_self, or_self, inr_n1000100, inr_n1000010, inr_n1000003, inr_n1000002, inr_n1000001, inr_n1000000, inr_n1, inr_0, inr_1, inr_2, inr_3, inr_4, inr_5, inr_6, inr_7, inr_8, inr_10, inr_11, inr_12, inr_13, inr_14, inr_15, inr_16, inr_20, inr_21, inr_22, inr_23, inr_24, inr_29, inr_30, inr_31, inr_32, inr_39, inr_40, inr_44, inr_48, inr_53, inr_54, inr_57, inr_59, inr_63, inr_97, inr_100, inr_101, inr_102, inr_104, inr_105, inr_106, inr_110, inr_112, inr_116, inr_120, inr_122, inr_144, inr_255, inr_256, inr_320, inr_552, inr_576, inr_999, inr_1000, inr_1023, inr_1024, inr_2048, inr_1000000, inr_252645135, inr_858993459, inr_1431655765, okO_92, okF_92_0, rfN_92_0, okF_92_2, rfN_92_2, okF_92_3, rfN_92_3, okF_92_4, rfN_92_4, okF_92_6, rfN_92_6, okF_92_7, rfN_92_7, okF_92_8, rfN_92_8, okF_92_9, rfN_92_9, okF_92_10, rfN_92_10, okF_92_11, rfN_92_11, okF_92_20, rfN_92_20, okF_92_21, rfN_92_21, okF_92_22, rfN_92_22, okF_92_23, rfN_92_23, okF_92_25, rfN_92_25, okF_92_26, rfN_92_26, okF_92_27, rfN_92_27, okA_105, lnN_105, o_R, o_le, o_lt, o_nlt, o_nle, o_eq, o_ne, if_true, if_false, Bool.false_eq_true, Bool.not_false, Bool.not_true, Bool.and_true, Bool.and_false, Bool.true_and, Bool.false_and, Bool.or_true, Bool.or_false, Bool.true_or, Bool.false_or, ite_self, up_same, dv16, rm16, sp_140 M1 (show (0 : Int) ≤ (c : Int) / 16 by omega) t1, up_ne, h94, ← en]
        exact after
      · have en : nxS s c = askS s (c / 16) (c % 16) := by unfold nxS; rw [if_neg h8]
        have hw : (c : Int) % 16 < s 1 := by
          unfold stB at hst
          rw [if_neg h8, Bool.and_eq_true, decide_eq_true_eq] at hst
          exact hst.1
        have t1 : (c : Int) / 16 < up I 105 k c 94 2 := by rw [up_ne (by omega), h94]; omega
        have w1 : (c : Int) % 16 < up I 105 k c 94 1 := by rw [up_ne (by omega), h94]; exact hw
        simp (disch := omega) only [@g_154_104, @g_154_107, @g_154_108, @g_154_111, @g_154_112, @h_154_112, @g_154_113, @g_154_115, @g_154_116, @g_154_118, @g_154_121, @g_154_122, @g_154_123, @g_154_126, @g_154_127, @h_154_127, @g_154_128, @g_154_130, @g_154_131, @g_154_134, @g_154_137, @g_154_138, @g_154_139, @g_154_142, @g_154_143, @h_154_143, @g_154_144, @g_154_146, @g_154_147, @g_154_148, @g_154_151, @g_154_152, @h_154_152, @g_154_153, @g_154_155, @g_154_156, nlO_n, nlO_i, nlO_r, ret01_0, ret01_1, ret01_if, ret01_fi, true_and, Option.toList_some, Option.toList_none, List.cons_append, List.nil_append, ii_1, ii_0, ii_R, ij_1, ij_0, ij_R, ite_not, if_true, if_false, Int.one_ne_zero, one_e1, not_true_eq_false, not_false_eq_true, and_true, and_false, false_and, or_false, false_or, or_true, true_or, and_self, or_self, inr_n1000100, inr_n1000010, inr_n1000003, inr_n1000002, inr_n1000001, inr_n1000000, inr_n1, inr_0, inr_1, inr_2, inr_3, inr_4, inr_5, inr_6, inr_7, inr_8, inr_10, inr_11, inr_12, inr_13, inr_14, inr_15, inr_16, inr_20, inr_21, inr_22, inr_23, inr_24, inr_29, inr_30, inr_31, inr_32, inr_39, inr_40, inr_44, inr_48, inr_53, inr_54, inr_57, inr_59, inr_63, inr_97, inr_100, inr_101, inr_102, inr_104, inr_105, inr_106, inr_110, inr_112, inr_116, inr_120, inr_122, inr_144, inr_255, inr_256, inr_320, inr_552, inr_576, inr_999, inr_1000, inr_1023, inr_1024, inr_2048, inr_1000000, inr_252645135, inr_858993459, inr_1431655765, okO_92, okF_92_0, rfN_92_0, okF_92_2, rfN_92_2, okF_92_3, rfN_92_3, okF_92_4, rfN_92_4, okF_92_6, rfN_92_6, okF_92_7, rfN_92_7, okF_92_8, rfN_92_8, okF_92_9, rfN_92_9, okF_92_10, rfN_92_10, okF_92_11, rfN_92_11, okF_92_20, rfN_92_20, okF_92_21, rfN_92_21, okF_92_22, rfN_92_22, okF_92_23, rfN_92_23, okF_92_25, rfN_92_25, okF_92_26, rfN_92_26, okF_92_27, rfN_92_27, okA_105, lnN_105, o_R, o_le, o_lt, o_nlt, o_nle, o_eq, o_ne, if_true, if_false, Bool.false_eq_true, Bool.not_false, Bool.not_true, Bool.and_true, Bool.and_false, Bool.true_and, Bool.false_and, Bool.or_true, Bool.or_false, Bool.true_or, Bool.false_or, ite_self, up_same, dv16, rm16, sp_139 M1 (show (0 : Int) ≤ (c : Int) / 16 by omega) t1 (show (0 : Int) ≤ (c : Int) % 16 by omega) w1, up_ne, h94, ← en]
        exact after
theorem sk_all {N : Int} (hN1 : N ≤ 5) : ∀ r : Nat, SK x d Q J N r
  | 0 => sk_one hN1 (fun r' h => by omega)
  | r + 1 => sk_one hN1 (fun r' h => by
    have e : r' = r := by omega
    rw [e]
    exact sk_all hN1 r)
end
