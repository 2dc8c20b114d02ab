/-! ===== plan: the model's answer ===== -/
def res0 (N : Nat) (s : HV) : AC := imp N 0 s (fun _ => 0) (1000000, fun _ => 0)
def ansP (N : Int) (r : AC) (k : Int) : Int := if k < 0 then lst r.1 else if r.1 < 1000000 ∧ k < N then r.2 k else -1000000
theorem imp_row : ∀ (n : Nat) (k : Int) (s : HV) (tr : Int → Int) (a : AC), s 2 ≤ 5 → (∀ j, 0 ≤ tr j ∧ tr j < 80) → (∀ j, 0 ≤ a.2 j ∧ a.2 j < 80) → ∀ j, 0 ≤ (imp n k s tr a).2 j ∧ (imp n k s tr a).2 j < 80
  | 0, k, s, tr, a, hT, h1, h2 => by
    show ∀ j, 0 ≤ (if s 29 < a.1 then (s 29, tr) else a).2 j ∧ (if s 29 < a.1 then (s 29, tr) else a).2 j < 80
    split
    · exact h1
    · exact h2
  | n + 1, k, s, tr, a, hT, h1, h2 => by
    rw [imp_s]
    have key : ∀ m : Nat, m ≤ 16 * (s 2).toNat → ∀ j, 0 ≤ (impF (impS n k s tr) m a).2 j ∧ (impF (impS n k s tr) m a).2 j < 80 := by
      intro m
      induction m with
      | zero => intro _; exact h2
      | succ m ih =>
        intro hm
        have i1 := ih (by omega)
        rw [impF_s]
        generalize impF (impS n k s tr) m a = A at i1
        unfold impS
        split
        · refine imp_row n _ _ _ _ (by rw [nx_lo (by omega) (by omega)]; exact hT) (fun j => ?_) i1
          unfold rowU
          split
          · omega
          · exact h1 j
        · exact i1
    exact key _ (Nat.le_refl _)
theorem res0_R {N : Nat} {s : HV} {B : Int} (M : MOK B s) (hB : B + 20 ≤ 100000) (hN : N ≤ 5) : 0 ≤ (res0 N s).1 ∧ (res0 N s).1 ≤ 1000000 ∧ ∀ j, 0 ≤ (res0 N s).2 j ∧ (res0 N s).2 j < 80 := by
  have b29 := B_29 M
  have b2 := B_2 M
  unfold res0
  have h1 := imp_1 N 0 s (fun _ => 0) (1000000, fun _ => 0) (Int.le_refl _)
  have h2 := mh_ge N s (by omega)
  rw [h1]
  have h3 : ((1000000, fun _ => 0) : AC).1 = 1000000 := rfl
  rw [h3]
  refine ⟨by omega, by omega, imp_row _ _ _ _ _ b2.2 (fun j => ?_) (fun j => ?_)⟩
  · show (0 : Int) ≤ 0 ∧ (0 : Int) < 80
    omega
  · show (0 : Int) ≤ 0 ∧ (0 : Int) < 80
    omega
theorem ansP_R {N : Nat} {s : HV} {B k K : Int} (M : MOK B s) (hB : B + 20 ≤ 100000) (hN : N ≤ 5) : -1000000 ≤ ansP K (res0 N s) k ∧ ansP K (res0 N s) k ≤ 1000000 := by
  obtain ⟨h1, h2, h3⟩ := res0_R M hB hN
  have h4 := h3 k
  unfold ansP lst
  split
  · split <;> omega
  · split <;> omega
section
variable {x : RO} {d : Nat} {Q : QT} {I : MI} {J : MJ} {n : Nat} {g : HV}
theorem sp_154 {B N : Int} (M : MOK B (I 94)) (hB : B + 20 ≤ 100000) (hN : N = I 94 2 - nPas (I 94) (I 94 2).toNat)
    (hq : ∀ I', Fr [92, 94, 104, 105, 106] I I' → (∀ j : Int, j ≠ 24 → I' 92 j = I 92 j) → I' 94 = I 94 → I' 92 24 = lst (res0 N.toNat (I 94)).1 → ((res0 N.toNat (I 94)).1 < 1000000 → ∀ j : Int, 0 ≤ j → j < N → I' 106 j = (res0 N.toNat (I 94)).2 j) → Q (some (.inl N)) I' J) : EX x (d + 5) 154 [.inr (.inr (.inl 92))] I J Q := by
  have b2 := B_2 M
  have b29 := B_29 M
  have hn := nPas_le (I 94) (I 94 2).toNat
  by_cases hz : N = 0
  · have e0 : res0 N.toNat (I 94) = (I 94 29, fun _ => 0) := by
      rw [hz]
      show (if I 94 29 < 1000000 then (I 94 29, fun _ => 0) else ((1000000, fun _ => 0) : AC)) = _
      rw [if_pos (by omega)]
    simp (disch := omega) only [@e_154, @g_154_0, @g_154_1, @g_154_4, @g_154_5, @g_154_6, @g_154_7, @g_154_10, @g_154_11, @g_154_14, @g_154_16, @h_154_16, @g_154_17, @g_154_20, @g_154_22, @g_154_25, @g_154_26, @g_154_27, nlO_n, nlO_i, nlO_r, ret01_0, ret01_1, ret01_if, ret01_fi, true_and, Option.toList_some, Option.toList_none, List.cons_append, List.nil_append, ii_1, ii_0, ii_R, ij_1, ij_0, ij_R, ite_not, if_true, if_false, Int.one_ne_zero, one_e1, not_true_eq_false, not_false_eq_true, and_true, and_false, false_and, or_false, false_or, or_true, true_or, and_self, or_self, inr_n1000100, inr_n1000010, inr_n1000003, inr_n1000002, inr_n1000001, inr_n1000000, inr_n1, inr_0, inr_1, inr_2, inr_3, inr_4, inr_5, inr_6, inr_7, inr_8, inr_10, inr_11, inr_12, inr_13, inr_14, inr_15, inr_16, inr_20, inr_21, inr_22, inr_23, inr_24, inr_29, inr_30, inr_31, inr_32, inr_39, inr_40, inr_44, inr_48, inr_53, inr_54, inr_57, inr_59, inr_63, inr_97, inr_100, inr_101, inr_102, inr_104, inr_105, inr_106, inr_110, inr_112, inr_116, inr_120, inr_122, inr_144, inr_255, inr_256, inr_320, inr_552, inr_576, inr_999, inr_1000, inr_1023, inr_1024, inr_2048, inr_1000000, inr_252645135, inr_858993459, inr_1431655765, okO_92, okF_92_0, rfN_92_0, okF_92_2, rfN_92_2, okF_92_3, rfN_92_3, okF_92_4, rfN_92_4, okF_92_6, rfN_92_6, okF_92_7, rfN_92_7, okF_92_8, rfN_92_8, okF_92_9, rfN_92_9, okF_92_10, rfN_92_10, okF_92_11, rfN_92_11, okF_92_20, rfN_92_20, okF_92_21, rfN_92_21, okF_92_22, rfN_92_22, okF_92_23, rfN_92_23, okF_92_25, rfN_92_25, okF_92_26, rfN_92_26, okF_92_27, rfN_92_27, okA_94, lnN_94, o_R, o_le, o_lt, o_nlt, o_nle, o_eq, o_ne, sp_152 M, ← hN]
    refine sp_150 (by omega) (by omega) ?_
    simp (disch := omega) only [@g_154_30, @g_154_31, @g_154_34, @g_154_35, @g_154_38, @g_154_39, @g_154_40, @g_154_41, @g_154_44, @g_154_45, @g_154_46, nlO_n, nlO_i, nlO_r, ret01_0, ret01_1, ret01_if, ret01_fi, true_and, Option.toList_some, Option.toList_none, List.cons_append, List.nil_append, ii_1, ii_0, ii_R, ij_1, ij_0, ij_R, ite_not, if_true, if_false, Int.one_ne_zero, one_e1, not_true_eq_false, not_false_eq_true, and_true, and_false, false_and, or_false, false_or, or_true, true_or, and_self, or_self, inr_n1000100, inr_n1000010, inr_n1000003, inr_n1000002, inr_n1000001, inr_n1000000, inr_n1, inr_0, inr_1, inr_2, inr_3, inr_4, inr_5, inr_6, inr_7, inr_8, inr_10, inr_11, inr_12, inr_13, inr_14, inr_15, inr_16, inr_20, inr_21, inr_22, inr_23, inr_24, inr_29, inr_30, inr_31, inr_32, inr_39, inr_40, inr_44, inr_48, inr_53, inr_54, inr_57, inr_59, inr_63, inr_97, inr_100, inr_101, inr_102, inr_104, inr_105, inr_106, inr_110, inr_112, inr_116, inr_120, inr_122, inr_144, inr_255, inr_256, inr_320, inr_552, inr_576, inr_999, inr_1000, inr_1023, inr_1024, inr_2048, inr_1000000, inr_252645135, inr_858993459, inr_1431655765, okO_92, okF_92_0, rfN_92_0, okF_92_2, rfN_92_2, okF_92_3, rfN_92_3, okF_92_4, rfN_92_4, okF_92_6, rfN_92_6, okF_92_7, rfN_92_7, okF_92_8, rfN_92_8, okF_92_9, rfN_92_9, okF_92_10, rfN_92_10, okF_92_11, rfN_92_11, okF_92_20, rfN_92_20, okF_92_21, rfN_92_21, okF_92_22, rfN_92_22, okF_92_23, rfN_92_23, okF_92_25, rfN_92_25, okF_92_26, rfN_92_26, okF_92_27, rfN_92_27, okA_105, lnN_105, o_R, o_le, o_lt, o_nlt, o_nle, o_eq, o_ne]
    rw [@g_154_47]
    simp (disch := omega) only [@g_154_48, @g_154_283, @g_154_284, nlO_n, nlO_i, nlO_r, ret01_0, ret01_1, ret01_if, ret01_fi, true_and, Option.toList_some, Option.toList_none, List.cons_append, List.nil_append, ii_1, ii_0, ii_R, ij_1, ij_0, ij_R, ite_not, if_true, if_false, Int.one_ne_zero, one_e1, not_true_eq_false, not_false_eq_true, and_true, and_false, false_and, or_false, false_or, or_true, true_or, and_self, or_self, inr_n1000100, inr_n1000010, inr_n1000003, inr_n1000002, inr_n1000001, inr_n1000000, inr_n1, inr_0, inr_1, inr_2, inr_3, inr_4, inr_5, inr_6, inr_7, inr_8, inr_10, inr_11, inr_12, inr_13, inr_14, inr_15, inr_16, inr_20, inr_21, inr_22, inr_23, inr_24, inr_29, inr_30, inr_31, inr_32, inr_39, inr_40, inr_44, inr_48, inr_53, inr_54, inr_57, inr_59, inr_63, inr_97, inr_100, inr_101, inr_102, inr_104, inr_105, inr_106, inr_110, inr_112, inr_116, inr_120, inr_122, inr_144, inr_255, inr_256, inr_320, inr_552, inr_576, inr_999, inr_1000, inr_1023, inr_1024, inr_2048, inr_1000000, inr_252645135, inr_858993459, inr_1431655765, o_R, o_le, o_lt, o_nlt, o_nle, o_eq, o_ne]
    refine hq _ (fun c hc => ?_) (fun j hj => ?_) ?_ ?_ (fun _ j a b => by omega)
    · simp only [List.mem_cons, List.not_mem_nil, or_false, not_or] at hc
      simp (disch := omega) only [up_ne, up_same, up_nj, flI_ne, flI_in, flI_out, cpI_ne, cpI_in, cpI_out]
    · simp (disch := omega) only [up_ne, up_same, up_nj, flI_ne, flI_in, flI_out, cpI_ne, cpI_in, cpI_out]
    · simp (disch := omega) only [up_ne, up_same, up_nj, flI_ne, flI_in, flI_out, cpI_ne, cpI_in, cpI_out]
    · simp (disch := omega) only [up_ne, up_same, up_nj, flI_ne, flI_in, flI_out, cpI_ne, cpI_in, cpI_out]
      rw [e0]
      unfold lst
      rw [if_pos (by show I 94 29 < 1000000; omega)]
  · simp (disch := omega) only [@e_154, @g_154_0, @g_154_1, @g_154_4, @g_154_5, @g_154_6, @g_154_7, @g_154_10, @g_154_11, @g_154_14, @g_154_16, @h_154_16, @g_154_17, @g_154_20, @g_154_22, @g_154_25, @g_154_26, @g_154_27, nlO_n, nlO_i, nlO_r, ret01_0, ret01_1, ret01_if, ret01_fi, true_and, Option.toList_some, Option.toList_none, List.cons_append, List.nil_append, ii_1, ii_0, ii_R, ij_1, ij_0, ij_R, ite_not, if_true, if_false, Int.one_ne_zero, one_e1, not_true_eq_false, not_false_eq_true, and_true, and_false, false_and, or_false, false_or, or_true, true_or, and_self, or_self, inr_n1000100, inr_n1000010, inr_n1000003, inr_n1000002, inr_n1000001, inr_n1000000, inr_n1, inr_0, inr_1, inr_2, inr_3, inr_4, inr_5, inr_6, inr_7, inr_8, inr_10, inr_11, inr_12, inr_13, inr_14, inr_15, inr_16, inr_20, inr_21, inr_22, inr_23, inr_24, inr_29, inr_30, inr_31, inr_32, inr_39, inr_40, inr_44, inr_48, inr_53, inr_54, inr_57, inr_59, inr_63, inr_97, inr_100, inr_101, inr_102, inr_104, inr_105, inr_106, inr_110, inr_112, inr_116, inr_120, inr_122, inr_144, inr_255, inr_256, inr_320, inr_552, inr_576, inr_999, inr_1000, inr_1023, inr_1024, inr_2048, inr_1000000, inr_252645135, inr_858993459, inr_1431655765, okO_92, okF_92_0, rfN_92_0, okF_92_2, rfN_92_2, okF_92_3, rfN_92_3, okF_92_4, rfN_92_4, okF_92_6, rfN_92_6, okF_92_7, rfN_92_7, okF_92_8, rfN_92_8, okF_92_9, rfN_92_9, okF_92_10, rfN_92_10, okF_92_11, rfN_92_11, okF_92_20, rfN_92_20, okF_92_21, rfN_92_21, okF_92_22, rfN_92_22, okF_92_23, rfN_92_23, okF_92_25, rfN_92_25, okF_92_26, rfN_92_26, okF_92_27, rfN_92_27, okA_94, lnN_94, o_R, o_le, o_lt, o_nlt, o_nle, o_eq, o_ne, sp_152 M, ← hN]
    refine sp_150 (by omega) (by omega) ?_
    simp (disch := omega) only [@g_154_30, @g_154_31, @g_154_34, @g_154_35, @g_154_38, @g_154_39, @g_154_40, @g_154_41, @g_154_44, @g_154_45, @g_154_46, nlO_n, nlO_i, nlO_r, ret01_0, ret01_1, ret01_if, ret01_fi, true_and, Option.toList_some, Option.toList_none, List.cons_append, List.nil_append, ii_1, ii_0, ii_R, ij_1, ij_0, ij_R, ite_not, if_true, if_false, Int.one_ne_zero, one_e1, not_true_eq_false, not_false_eq_true, and_true, and_false, false_and, or_false, false_or, or_true, true_or, and_self, or_self, inr_n1000100, inr_n1000010, inr_n1000003, inr_n1000002, inr_n1000001, inr_n1000000, inr_n1, inr_0, inr_1, inr_2, inr_3, inr_4, inr_5, inr_6, inr_7, inr_8, inr_10, inr_11, inr_12, inr_13, inr_14, inr_15, inr_16, inr_20, inr_21, inr_22, inr_23, inr_24, inr_29, inr_30, inr_31, inr_32, inr_39, inr_40, inr_44, inr_48, inr_53, inr_54, inr_57, inr_59, inr_63, inr_97, inr_100, inr_101, inr_102, inr_104, inr_105, inr_106, inr_110, inr_112, inr_116, inr_120, inr_122, inr_144, inr_255, inr_256, inr_320, inr_552, inr_576, inr_999, inr_1000, inr_1023, inr_1024, inr_2048, inr_1000000, inr_252645135, inr_858993459, inr_1431655765, okO_92, okF_92_0, rfN_92_0, okF_92_2, rfN_92_2, okF_92_3, rfN_92_3, okF_92_4, rfN_92_4, okF_92_6, rfN_92_6, okF_92_7, rfN_92_7, okF_92_8, rfN_92_8, okF_92_9, rfN_92_9, okF_92_10, rfN_92_10, okF_92_11, rfN_92_11, okF_92_20, rfN_92_20, okF_92_21, rfN_92_21, okF_92_22, rfN_92_22, okF_92_23, rfN_92_23, okF_92_25, rfN_92_25, okF_92_26, rfN_92_26, okF_92_27, rfN_92_27, okA_105, lnN_105, o_R, o_le, o_lt, o_nlt, o_nle, o_eq, o_ne]
    obtain ⟨r, hr⟩ : ∃ r : Nat, (0 : Int) + r + 1 = N := ⟨(N - 1).toNat, by omega⟩
    refine sk_all (by omega) r 0 B (I 94) (fun _ => 0) (1000000, fun _ => 0) hr (by omega) M (by omega) (show (0 : Int) ≤ 1000000 by omega) (Int.le_refl _) _ 0 _ _ _ (by omega) rfl ?_ (fun i a b => ?_) ?_ (fun j a b => by omega) ?_ (fun hz2 => ?_) (fun I3 v3 v4 g1 g0 g2 g3 g4 g5 g6 g7 => ?_)
    · simp (disch := omega) only [up_ne, up_same, up_nj, flI_ne, flI_in, flI_out, cpI_ne, cpI_in, cpI_out]
    · simp (disch := omega) only [up_ne, up_same, up_nj, flI_ne, flI_in, flI_out, cpI_ne, cpI_in, cpI_out]
      congr 1
      omega
    · simp (disch := omega) only [up_ne, up_same, up_nj, flI_ne, flI_in, flI_out, cpI_ne, cpI_in, cpI_out]
      rfl
    · simp (disch := omega) only [up_ne, up_same, up_nj, flI_ne, flI_in, flI_out, cpI_ne, cpI_in, cpI_out]
      rfl
    · have hz3 : (1000000 : Int) < 1000000 := hz2
      omega
    · have i1 : I3 94 2 = I 94 2 := by rw [g2]
      rw [← imp_s, show r + 1 = N.toNat by omega] at g6 g7
      rw [@g_154_47]
      simp (disch := omega) only [@g_154_48, @g_154_51, @g_154_52, @g_154_55, @g_154_56, @g_154_57, @h_154_57, @g_154_58, @g_154_59, @g_154_60, @g_154_61, @g_154_62, @g_154_65, @g_154_66, @h_154_66, @g_154_67, @g_154_69, @g_154_70, @g_154_73, @g_154_74, @h_154_74, @g_154_75, @g_154_76, @g_154_79, @g_154_82, @g_154_83, nlO_n, nlO_i, nlO_r, ret01_0, ret01_1, ret01_if, ret01_fi, true_and, Option.toList_some, Option.toList_none, List.cons_append, List.nil_append, ii_1, ii_0, ii_R, ij_1, ij_0, ij_R, ite_not, if_true, if_false, Int.one_ne_zero, one_e1, not_true_eq_false, not_false_eq_true, and_true, and_false, false_and, or_false, false_or, or_true, true_or, and_self, or_self, inr_n1000100, inr_n1000010, inr_n1000003, inr_n1000002, inr_n1000001, inr_n1000000, inr_n1, inr_0, inr_1, inr_2, inr_3, inr_4, inr_5, inr_6, inr_7, inr_8, inr_10, inr_11, inr_12, inr_13, inr_14, inr_15, inr_16, inr_20, inr_21, inr_22, inr_23, inr_24, inr_29, inr_30, inr_31, inr_32, inr_39, inr_40, inr_44, inr_48, inr_53, inr_54, inr_57, inr_59, inr_63, inr_97, inr_100, inr_101, inr_102, inr_104, inr_105, inr_106, inr_110, inr_112, inr_116, inr_120, inr_122, inr_144, inr_255, inr_256, inr_320, inr_552, inr_576, inr_999, inr_1000, inr_1023, inr_1024, inr_2048, inr_1000000, inr_252645135, inr_858993459, inr_1431655765, okO_92, okF_92_0, rfN_92_0, okF_92_2, rfN_92_2, okF_92_3, rfN_92_3, okF_92_4, rfN_92_4, okF_92_6, rfN_92_6, okF_92_7, rfN_92_7, okF_92_8, rfN_92_8, okF_92_9, rfN_92_9, okF_92_10, rfN_92_10, okF_92_11, rfN_92_11, okF_92_20, rfN_92_20, okF_92_21, rfN_92_21, okF_92_22, rfN_92_22, okF_92_23, rfN_92_23, okF_92_25, rfN_92_25, okF_92_26, rfN_92_26, okF_92_27, rfN_92_27, okA_94, lnN_94, okA_105, lnN_105, o_R, o_le, o_lt, o_nlt, o_nle, o_eq, o_ne, g5, up_same, up_ne, i1]
      rw [@g_154_47]
      simp (disch := omega) only [@g_154_48, @g_154_283, @g_154_284, nlO_n, nlO_i, nlO_r, ret01_0, ret01_1, ret01_if, ret01_fi, true_and, Option.toList_some, Option.toList_none, List.cons_append, List.nil_append, ii_1, ii_0, ii_R, ij_1, ij_0, ij_R, ite_not, if_true, if_false, Int.one_ne_zero, one_e1, not_true_eq_false, not_false_eq_true, and_true, and_false, false_and, or_false, false_or, or_true, true_or, and_self, or_self, inr_n1000100, inr_n1000010, inr_n1000003, inr_n1000002, inr_n1000001, inr_n1000000, inr_n1, inr_0, inr_1, inr_2, inr_3, inr_4, inr_5, inr_6, inr_7, inr_8, inr_10, inr_11, inr_12, inr_13, inr_14, inr_15, inr_16, inr_20, inr_21, inr_22, inr_23, inr_24, inr_29, inr_30, inr_31, inr_32, inr_39, inr_40, inr_44, inr_48, inr_53, inr_54, inr_57, inr_59, inr_63, inr_97, inr_100, inr_101, inr_102, inr_104, inr_105, inr_106, inr_110, inr_112, inr_116, inr_120, inr_122, inr_144, inr_255, inr_256, inr_320, inr_552, inr_576, inr_999, inr_1000, inr_1023, inr_1024, inr_2048, inr_1000000, inr_252645135, inr_858993459, inr_1431655765, o_R, o_le, o_lt, o_nlt, o_nle, o_eq, o_ne]
      refine hq _ (fun c hc => ?_) (fun j hj => ?_) ?_ ?_ (fun h4 j a b => ?_)
      · have hc2 := hc
        simp only [List.mem_cons, List.not_mem_nil, or_false, not_or] at hc
        rw [up_ne (by omega), g1 c hc2]
        simp (disch := omega) only [up_ne, up_same, up_nj, flI_ne, flI_in, flI_out, cpI_ne, cpI_in, cpI_out]
      · rw [up_ne (by omega), g0 j hj]
        simp (disch := omega) only [up_ne, up_same, up_nj, flI_ne, flI_in, flI_out, cpI_ne, cpI_in, cpI_out]
      · rw [up_ne (by omega)]; exact g2
      · rw [up_ne (by omega)]; exact g6
      · rw [up_ne (by omega)]; exact g7 h4 j a b
theorem sp_155 {B N k : Int} (M : MOK B (I 94)) (hB : B + 20 ≤ 100000) (h0 : I 94 0 = 1) (hN : N = I 94 2 - nPas (I 94) (I 94 2).toNat) (hk0 : -1 ≤ k) (hk1 : k ≤ 4)
    (hq : ∀ I', Fr [92, 94, 104, 105, 106] I I' → (∀ j : Int, j ≠ 24 → I' 92 j = I 92 j) → I' 94 = I 94 → Q (some (.inl (ansP N (res0 N.toNat (I 94)) k))) I' J) : EX x (d + 6) 155 [.inr (.inr (.inl 92)), .inl k] I J Q := by
  have b2 := B_2 M
  have hn := nPas_le (I 94) (I 94 2).toNat
  obtain ⟨r1, r2, r3⟩ := res0_R (N := N.toNat) M hB (by omega)
  simp (disch := omega) only [@e_155, @g_155_0, @g_155_1, @g_155_4, @g_155_7, @g_155_9, @g_155_10, @g_155_11, @g_155_12, @g_155_13, @g_155_16, @g_155_19, @g_155_21, @g_155_22, @g_155_23, nlO_n, nlO_i, nlO_r, ret01_0, ret01_1, ret01_if, ret01_fi, true_and, Option.toList_some, Option.toList_none, List.cons_append, List.nil_append, ii_1, ii_0, ii_R, ij_1, ij_0, ij_R, ite_not, if_true, if_false, Int.one_ne_zero, one_e1, not_true_eq_false, not_false_eq_true, and_true, and_false, false_and, or_false, false_or, or_true, true_or, and_self, or_self, inr_n1000100, inr_n1000010, inr_n1000003, inr_n1000002, inr_n1000001, inr_n1000000, inr_n1, inr_0, inr_1, inr_2, inr_3, inr_4, inr_5, inr_6, inr_7, inr_8, inr_10, inr_11, inr_12, inr_13, inr_14, inr_15, inr_16, inr_20, inr_21, inr_22, inr_23, inr_24, inr_29, inr_30, inr_31, inr_32, inr_39, inr_40, inr_44, inr_48, inr_53, inr_54, inr_57, inr_59, inr_63, inr_97, inr_100, inr_101, inr_102, inr_104, inr_105, inr_106, inr_110, inr_112, inr_116, inr_120, inr_122, inr_144, inr_255, inr_256, inr_320, inr_552, inr_576, inr_999, inr_1000, inr_1023, inr_1024, inr_2048, inr_1000000, inr_252645135, inr_858993459, inr_1431655765, okO_92, okF_92_0, rfN_92_0, okF_92_2, rfN_92_2, okF_92_3, rfN_92_3, okF_92_4, rfN_92_4, okF_92_6, rfN_92_6, okF_92_7, rfN_92_7, okF_92_8, rfN_92_8, okF_92_9, rfN_92_9, okF_92_10, rfN_92_10, okF_92_11, rfN_92_11, okF_92_20, rfN_92_20, okF_92_21, rfN_92_21, okF_92_22, rfN_92_22, okF_92_23, rfN_92_23, okF_92_25, rfN_92_25, okF_92_26, rfN_92_26, okF_92_27, rfN_92_27, o_R, o_le, o_lt, o_nlt, o_nle, o_eq, o_ne, sp_110 M, sp_109, h0]
  refine sp_154 M hB hN (fun I' f1 f0 f2 f3 f4 => ?_)
  have hq2 := hq I' f1 f0 f2
  generalize hr : res0 N.toNat (I 94) = R at f3 f4 r1 r2 r3 hq2
  by_cases c1 : k < 0
  · have e : ansP N R k = I' 92 24 := by unfold ansP; rw [if_pos c1, f3]
    rw [e] at hq2
    simp (disch := omega) only [@g_155_26, @g_155_27, @g_155_28, @g_155_29, @g_155_32, @g_155_33, @g_155_36, @g_155_38, @g_155_41, @g_155_42, @g_155_45, @g_155_48, @g_155_49, @g_155_50, @g_155_53, @g_155_54, @g_155_57, @g_155_58, @h_155_58, @g_155_59, @g_155_62, @g_155_64, nlO_n, nlO_i, nlO_r, ret01_0, ret01_1, ret01_if, ret01_fi, true_and, Option.toList_some, Option.toList_none, List.cons_append, List.nil_append, ii_1, ii_0, ii_R, ij_1, ij_0, ij_R, ite_not, if_true, if_false, Int.one_ne_zero, one_e1, not_true_eq_false, not_false_eq_true, and_true, and_false, false_and, or_false, false_or, or_true, true_or, and_self, or_self, inr_n1000100, inr_n1000010, inr_n1000003, inr_n1000002, inr_n1000001, inr_n1000000, inr_n1, inr_0, inr_1, inr_2, inr_3, inr_4, inr_5, inr_6, inr_7, inr_8, inr_10, inr_11, inr_12, inr_13, inr_14, inr_15, inr_16, inr_20, inr_21, inr_22, inr_23, inr_24, inr_29, inr_30, inr_31, inr_32, inr_39, inr_40, inr_44, inr_48, inr_53, inr_54, inr_57, inr_59, inr_63, inr_97, inr_100, inr_101, inr_102, inr_104, inr_105, inr_106, inr_110, inr_112, inr_116, inr_120, inr_122, inr_144, inr_255, inr_256, inr_320, inr_552, inr_576, inr_999, inr_1000, inr_1023, inr_1024, inr_2048, inr_1000000, inr_252645135, inr_858993459, inr_1431655765, okO_92, okF_92_0, rfN_92_0, okF_92_2, rfN_92_2, okF_92_3, rfN_92_3, okF_92_4, rfN_92_4, okF_92_6, rfN_92_6, okF_92_7, rfN_92_7, okF_92_8, rfN_92_8, okF_92_9, rfN_92_9, okF_92_10, rfN_92_10, okF_92_11, rfN_92_11, okF_92_20, rfN_92_20, okF_92_21, rfN_92_21, okF_92_22, rfN_92_22, okF_92_23, rfN_92_23, okF_92_25, rfN_92_25, okF_92_26, rfN_92_26, okF_92_27, rfN_92_27, o_R, o_le, o_lt, o_nlt, o_nle, o_eq, o_ne]
    exact hq2
  · by_cases c2 : R.1 < 1000000
    · have e3 : I' 92 24 = R.1 := by rw [f3]; unfold lst; rw [if_pos c2]
      by_cases c3 : k < N
      · have e : ansP N R k = I' 106 k := by unfold ansP; rw [if_neg c1, if_pos ⟨c2, c3⟩, f4 c2 k (by omega) c3]
        rw [e] at hq2
        simp (disch := omega) only [@g_155_26, @g_155_27, @g_155_28, @g_155_29, @g_155_32, @g_155_33, @g_155_36, @g_155_38, @g_155_41, @g_155_42, @g_155_45, @g_155_48, @g_155_49, @g_155_50, @g_155_53, @g_155_54, @g_155_57, @g_155_58, @h_155_58, @g_155_59, @g_155_62, @g_155_64, nlO_n, nlO_i, nlO_r, ret01_0, ret01_1, ret01_if, ret01_fi, true_and, Option.toList_some, Option.toList_none, List.cons_append, List.nil_append, ii_1, ii_0, ii_R, ij_1, ij_0, ij_R, ite_not, if_true, if_false, Int.one_ne_zero, one_e1, not_true_eq_false, not_false_eq_true, and_true, and_false, false_and, or_false, false_or, or_true, true_or, and_self, or_self, inr_n1000100, inr_n1000010, inr_n1000003, inr_n1000002, inr_n1000001, inr_n1000000, inr_n1, inr_0, inr_1, inr_2, inr_3, inr_4, inr_5, inr_6, inr_7, inr_8, inr_10, inr_11, inr_12, inr_13, inr_14, inr_15, inr_16, inr_20, inr_21, inr_22, inr_23, inr_24, inr_29, inr_30, inr_31, inr_32, inr_39, inr_40, inr_44, inr_48, inr_53, inr_54, inr_57, inr_59, inr_63, inr_97, inr_100, inr_101, inr_102, inr_104, inr_105, inr_106, inr_110, inr_112, inr_116, inr_120, inr_122, inr_144, inr_255, inr_256, inr_320, inr_552, inr_576, inr_999, inr_1000, inr_1023, inr_1024, inr_2048, inr_1000000, inr_252645135, inr_858993459, inr_1431655765, okO_92, okF_92_0, rfN_92_0, okF_92_2, rfN_92_2, okF_92_3, rfN_92_3, okF_92_4, rfN_92_4, okF_92_6, rfN_92_6, okF_92_7, rfN_92_7, okF_92_8, rfN_92_8, okF_92_9, rfN_92_9, okF_92_10, rfN_92_10, okF_92_11, rfN_92_11, okF_92_20, rfN_92_20, okF_92_21, rfN_92_21, okF_92_22, rfN_92_22, okF_92_23, rfN_92_23, okF_92_25, rfN_92_25, okF_92_26, rfN_92_26, okF_92_27, rfN_92_27, okA_106, lnN_106, o_R, o_le, o_lt, o_nlt, o_nle, o_eq, o_ne, e3]
        exact hq2
      · have e : ansP N R k = -1000000 := by unfold ansP; rw [if_neg c1, if_neg (fun z => c3 z.2)]
        rw [e] at hq2
        simp (disch := omega) only [@g_155_26, @g_155_27, @g_155_28, @g_155_29, @g_155_32, @g_155_33, @g_155_36, @g_155_38, @g_155_41, @g_155_42, @g_155_45, @g_155_48, @g_155_49, @g_155_50, @g_155_53, @g_155_54, @g_155_57, @g_155_58, @h_155_58, @g_155_59, @g_155_62, @g_155_64, nlO_n, nlO_i, nlO_r, ret01_0, ret01_1, ret01_if, ret01_fi, true_and, Option.toList_some, Option.toList_none, List.cons_append, List.nil_append, ii_1, ii_0, ii_R, ij_1, ij_0, ij_R, ite_not, if_true, if_false, Int.one_ne_zero, one_e1, not_true_eq_false, not_false_eq_true, and_true, and_false, false_and, or_false, false_or, or_true, true_or, and_self, or_self, inr_n1000100, inr_n1000010, inr_n1000003, inr_n1000002, inr_n1000001, inr_n1000000, inr_n1, inr_0, inr_1, inr_2, inr_3, inr_4, inr_5, inr_6, inr_7, inr_8, inr_10, inr_11, inr_12, inr_13, inr_14, inr_15, inr_16, inr_20, inr_21, inr_22, inr_23, inr_24, inr_29, inr_30, inr_31, inr_32, inr_39, inr_40, inr_44, inr_48, inr_53, inr_54, inr_57, inr_59, inr_63, inr_97, inr_100, inr_101, inr_102, inr_104, inr_105, inr_106, inr_110, inr_112, inr_116, inr_120, inr_122, inr_144, inr_255, inr_256, inr_320, inr_552, inr_576, inr_999, inr_1000, inr_1023, inr_1024, inr_2048, inr_1000000, inr_252645135, inr_858993459, inr_1431655765, okO_92, okF_92_0, rfN_92_0, okF_92_2, rfN_92_2, okF_92_3, rfN_92_3, okF_92_4, rfN_92_4, okF_92_6, rfN_92_6, okF_92_7, rfN_92_7, okF_92_8, rfN_92_8, okF_92_9, rfN_92_9, okF_92_10, rfN_92_10, okF_92_11, rfN_92_11, okF_92_20, rfN_92_20, okF_92_21, rfN_92_21, okF_92_22, rfN_92_22, okF_92_23, rfN_92_23, okF_92_25, rfN_92_25, okF_92_26, rfN_92_26, okF_92_27, rfN_92_27, okA_106, lnN_106, o_R, o_le, o_lt, o_nlt, o_nle, o_eq, o_ne, e3]
        exact hq2
    · have e3 : I' 92 24 = -1000000 := by rw [f3]; unfold lst; rw [if_neg c2]
      have e : ansP N R k = -1000000 := by unfold ansP; rw [if_neg c1, if_neg (fun z => c2 z.1)]
      rw [e] at hq2
      simp (disch := omega) only [@g_155_26, @g_155_27, @g_155_28, @g_155_29, @g_155_32, @g_155_33, @g_155_36, @g_155_38, @g_155_41, @g_155_42, @g_155_45, @g_155_48, @g_155_49, @g_155_50, @g_155_53, @g_155_54, @g_155_57, @g_155_58, @h_155_58, @g_155_59, @g_155_62, @g_155_64, nlO_n, nlO_i, nlO_r, ret01_0, ret01_1, ret01_if, ret01_fi, true_and, Option.toList_some, Option.toList_none, List.cons_append, List.nil_append, ii_1, ii_0, ii_R, ij_1, ij_0, ij_R, ite_not, if_true, if_false, Int.one_ne_zero, one_e1, not_true_eq_false, not_false_eq_true, and_true, and_false, false_and, or_false, false_or, or_true, true_or, and_self, or_self, inr_n1000100, inr_n1000010, inr_n1000003, inr_n1000002, inr_n1000001, inr_n1000000, inr_n1, inr_0, inr_1, inr_2, inr_3, inr_4, inr_5, inr_6, inr_7, inr_8, inr_10, inr_11, inr_12, inr_13, inr_14, inr_15, inr_16, inr_20, inr_21, inr_22, inr_23, inr_24, inr_29, inr_30, inr_31, inr_32, inr_39, inr_40, inr_44, inr_48, inr_53, inr_54, inr_57, inr_59, inr_63, inr_97, inr_100, inr_101, inr_102, inr_104, inr_105, inr_106, inr_110, inr_112, inr_116, inr_120, inr_122, inr_144, inr_255, inr_256, inr_320, inr_552, inr_576, inr_999, inr_1000, inr_1023, inr_1024, inr_2048, inr_1000000, inr_252645135, inr_858993459, inr_1431655765, okO_92, okF_92_0, rfN_92_0, okF_92_2, rfN_92_2, okF_92_3, rfN_92_3, okF_92_4, rfN_92_4, okF_92_6, rfN_92_6, okF_92_7, rfN_92_7, okF_92_8, rfN_92_8, okF_92_9, rfN_92_9, okF_92_10, rfN_92_10, okF_92_11, rfN_92_11, okF_92_20, rfN_92_20, okF_92_21, rfN_92_21, okF_92_22, rfN_92_22, okF_92_23, rfN_92_23, okF_92_25, rfN_92_25, okF_92_26, rfN_92_26, okF_92_27, rfN_92_27, okA_106, lnN_106, o_R, o_le, o_lt, o_nlt, o_nle, o_eq, o_ne, e3]
      exact hq2
end
