/-! ===== undo: the call ===== -/
theorem ring_u {a : Int} {e : Nat} (h0 : 0 ≤ a) (h1 : a < 24) (he : e = ringAt a 0) (k : Nat) (hk : k < 30) : ringAt (e : Int) k = ringAt a (k + 1) := by
  rw [he]
  unfold ringAt
  omega
section
variable {x : RO} {d : Nat} {Q : QT} {I : MI} {J : MJ} {n : Nat}
theorem lp_144 {kn : Int} (hk0 : 0 ≤ kn) (hk1 : kn < 24) : ∀ (m : Nat) (i : Int) (I : MI), I 92 5 = kn → 0 ≤ i → i ≤ 24 → (24 - i).toNat = m → Q (some (.inl kn)) (cpI I 94 (29 + i) (24 - i) 96 (24 * kn + i)) J → GO x d 144 Q 22 [some (.inr (.inr (.inl 92))), some (.inl i)] [] I J := by
  intro m
  induction m with
  | zero =>
    intro i I hk h0 hi hm hq
    have e : i = 24 := by omega
    subst e
    rw [show (24 : Int) - 24 = 0 by omega, cpI_0] at hq
    rw [@g_144_22]
    simp (disch := omega) only [@g_144_0, @g_144_1, @g_144_4, @g_144_7, @g_144_9, @g_144_10, @g_144_11, @g_144_12, @g_144_15, @g_144_16, @g_144_17, @g_144_20, @g_144_21, @g_144_23, @g_144_25, @g_144_28, @g_144_29, @g_144_32, @g_144_34, @g_144_35, @g_144_36, @g_144_37, @g_144_40, @g_144_42, @g_144_43, @g_144_46, @g_144_47, @g_144_48, @g_144_49, @h_144_49, @g_144_50, @g_144_51, @g_144_54, @g_144_57, @g_144_58, @g_144_61, @e_144, nlO_n, nlO_i, nlO_r, ret01_0, ret01_1, ret01_if, ret01_fi, true_and, Option.toList_some, Option.toList_none, List.cons_append, List.nil_append, ii_1, ii_0, ii_R, ij_1, ij_0, ij_R, ite_not, if_true, if_false, Int.one_ne_zero, one_e1, not_true_eq_false, not_false_eq_true, and_true, and_false, false_and, or_false, false_or, or_true, true_or, and_self, or_self, inr_n1000100, inr_n1000010, inr_n1000003, inr_n1000002, inr_n1000001, inr_n1000000, inr_n1, inr_0, inr_1, inr_2, inr_3, inr_4, inr_5, inr_6, inr_7, inr_8, inr_10, inr_11, inr_12, inr_13, inr_14, inr_15, inr_16, inr_20, inr_21, inr_22, inr_23, inr_24, inr_29, inr_30, inr_31, inr_32, inr_39, inr_40, inr_44, inr_48, inr_53, inr_54, inr_57, inr_59, inr_63, inr_97, inr_100, inr_101, inr_102, inr_104, inr_105, inr_106, inr_110, inr_112, inr_116, inr_120, inr_122, inr_144, inr_255, inr_256, inr_320, inr_552, inr_576, inr_999, inr_1000, inr_1023, inr_1024, inr_2048, inr_1000000, inr_252645135, inr_858993459, inr_1431655765, okO_92, okF_92_0, rfN_92_0, okF_92_2, rfN_92_2, okF_92_3, rfN_92_3, okF_92_4, rfN_92_4, okF_92_6, rfN_92_6, okF_92_7, rfN_92_7, okF_92_8, rfN_92_8, okF_92_9, rfN_92_9, okF_92_10, rfN_92_10, okF_92_11, rfN_92_11, okF_92_20, rfN_92_20, okF_92_21, rfN_92_21, okF_92_22, rfN_92_22, okF_92_23, rfN_92_23, okF_92_25, rfN_92_25, okF_92_26, rfN_92_26, okF_92_27, rfN_92_27, o_R, o_le, o_lt, o_nlt, o_nle, o_eq, o_ne, hk]
    exact hq
  | succ m ih =>
    intro i I hk h0 hi hm hq
    rw [@g_144_22]
    simp (disch := omega) only [@g_144_0, @g_144_1, @g_144_4, @g_144_7, @g_144_9, @g_144_10, @g_144_11, @g_144_12, @g_144_15, @g_144_16, @g_144_17, @g_144_20, @g_144_21, @g_144_23, @g_144_25, @g_144_28, @g_144_29, @g_144_32, @g_144_34, @g_144_35, @g_144_36, @g_144_37, @g_144_40, @g_144_42, @g_144_43, @g_144_46, @g_144_47, @g_144_48, @g_144_49, @h_144_49, @g_144_50, @g_144_51, @g_144_54, @g_144_57, @g_144_58, @g_144_61, @e_144, nlO_n, nlO_i, nlO_r, ret01_0, ret01_1, ret01_if, ret01_fi, true_and, Option.toList_some, Option.toList_none, List.cons_append, List.nil_append, ii_1, ii_0, ii_R, ij_1, ij_0, ij_R, ite_not, if_true, if_false, Int.one_ne_zero, one_e1, not_true_eq_false, not_false_eq_true, and_true, and_false, false_and, or_false, false_or, or_true, true_or, and_self, or_self, inr_n1000100, inr_n1000010, inr_n1000003, inr_n1000002, inr_n1000001, inr_n1000000, inr_n1, inr_0, inr_1, inr_2, inr_3, inr_4, inr_5, inr_6, inr_7, inr_8, inr_10, inr_11, inr_12, inr_13, inr_14, inr_15, inr_16, inr_20, inr_21, inr_22, inr_23, inr_24, inr_29, inr_30, inr_31, inr_32, inr_39, inr_40, inr_44, inr_48, inr_53, inr_54, inr_57, inr_59, inr_63, inr_97, inr_100, inr_101, inr_102, inr_104, inr_105, inr_106, inr_110, inr_112, inr_116, inr_120, inr_122, inr_144, inr_255, inr_256, inr_320, inr_552, inr_576, inr_999, inr_1000, inr_1023, inr_1024, inr_2048, inr_1000000, inr_252645135, inr_858993459, inr_1431655765, okO_92, okF_92_0, rfN_92_0, okF_92_2, rfN_92_2, okF_92_3, rfN_92_3, okF_92_4, rfN_92_4, okF_92_6, rfN_92_6, okF_92_7, rfN_92_7, okF_92_8, rfN_92_8, okF_92_9, rfN_92_9, okF_92_10, rfN_92_10, okF_92_11, rfN_92_11, okF_92_20, rfN_92_20, okF_92_21, rfN_92_21, okF_92_22, rfN_92_22, okF_92_23, rfN_92_23, okF_92_25, rfN_92_25, okF_92_26, rfN_92_26, okF_92_27, rfN_92_27, okA_94, lnN_94, okA_96, lnN_96, o_R, o_le, o_lt, o_nlt, o_nle, o_eq, o_ne, hk]
    refine ih (i + 1) _ (by rw [up_ne (by omega)]; exact hk) (by omega) (by omega) (by omega) ?_
    rw [show 24 * kn + (i + 1) = 24 * kn + i + 1 by omega, show 29 + (i + 1) = 29 + i + 1 by omega, cpI_up (e2 := 24 - i) (by omega) (by omega) (by omega)]
    exact hq
theorem call_undo (h : Inv n I J) (hn : n < 600) : Pair x (d + 8) 84 144 [] n I J := by
  unfold Pair
  obtain ⟨r1, r2, r3, r4, r5, r6, r7, r8, r9⟩ := h
  have h : Inv n I J := ⟨r1, r2, r3, r4, r5, r6, r7, r8, r9⟩
  obtain ⟨s1, s2, s3, s4, s5, s6⟩ := r6
  have H := r4
  have M := H.1
  have b1 := B_1 M
  have b2 := B_2 M
  by_cases c1 : 0 < I 92 5
  · obtain ⟨e, he⟩ : ∃ e : Nat, e = ringAt (I 21 1) 0 := ⟨_, rfl⟩
    have he2 : e < 24 := by rw [he]; exact ringAt_lt _ _
    obtain ⟨p1, p2⟩ := s6 0 (by omega)
    rw [show I 92 5 - 1 - ((0 : Nat) : Int) = I 92 5 - 1 by omega] at p1 p2
    rw [if_pos rfl, ← he] at p2
    obtain ⟨y1, y2, y3, y4, y5, y6, y7⟩ := p2
    have gt : ∀ i : Int, ¬ (29 ≤ i ∧ i < 53) → past I (I 92 5 - 1) i = I 94 i := fun i hi => by unfold past; rw [if_neg hi]
    simp (disch := omega) only [@g_84_0, @g_84_1, @g_84_4, @g_84_7, @g_84_10, @g_84_12, @g_84_13, @g_84_14, @g_84_17, @g_84_18, @g_84_21, @g_84_24, @g_84_25, @g_84_28, @g_84_31, @e_84, nlO_n, nlO_i, nlO_r, ret01_0, ret01_1, ret01_if, ret01_fi, true_and, Option.toList_some, Option.toList_none, List.cons_append, List.nil_append, ii_1, ii_0, ii_R, ij_1, ij_0, ij_R, ite_not, if_true, if_false, Int.one_ne_zero, one_e1, not_true_eq_false, not_false_eq_true, and_true, and_false, false_and, or_false, false_or, or_true, true_or, and_self, or_self, inr_n1000100, inr_n1000010, inr_n1000003, inr_n1000002, inr_n1000001, inr_n1000000, inr_n1, inr_0, inr_1, inr_2, inr_3, inr_4, inr_5, inr_6, inr_7, inr_8, inr_10, inr_11, inr_12, inr_13, inr_14, inr_15, inr_16, inr_20, inr_21, inr_22, inr_23, inr_24, inr_29, inr_30, inr_31, inr_32, inr_39, inr_40, inr_44, inr_48, inr_53, inr_54, inr_57, inr_59, inr_63, inr_97, inr_100, inr_101, inr_102, inr_104, inr_105, inr_106, inr_110, inr_112, inr_116, inr_120, inr_122, inr_144, inr_255, inr_256, inr_320, inr_552, inr_576, inr_999, inr_1000, inr_1023, inr_1024, inr_2048, inr_1000000, inr_252645135, inr_858993459, inr_1431655765, okO_0, okF_0_0, rfN_0_0, okF_0_1, rfN_0_1, okF_0_2, rfN_0_2, okF_0_3, rfN_0_3, okF_0_4, rfN_0_4, okF_0_5, rfN_0_5, okF_0_6, rfN_0_6, okF_0_7, rfN_0_7, okF_0_8, rfN_0_8, okF_0_9, rfN_0_9, okO_2, okF_2_2, rfN_2_2, okF_2_4, rfN_2_4, okF_2_5, rfN_2_5, okF_2_6, rfN_2_6, okF_2_7, rfN_2_7, okF_2_9, rfN_2_9, okF_2_10, rfN_2_10, okO_21, okF_21_0, rfN_21_0, o_R, o_le, o_lt, o_nlt, o_nle, o_eq, o_ne, s1]
    refine sp_4 H s4 s5 (by omega) (by omega) he y4 y5 (fun I1 f1 k1 k2 k3 k4 k5 k6 k7 k8 k9 => ?_)
    have q1 : ∀ c, c ≠ 2 → c ≠ 6 → c ≠ 7 → c ≠ 9 → c ≠ 21 → I1 c = I c := fun c a1 a2 a3 a4 a5 => f1 c (by simp only [List.mem_cons, List.not_mem_nil, or_false, not_or]; omega)
    simp (disch := omega) only [@g_84_0, @g_84_1, @g_84_4, @g_84_7, @g_84_10, @g_84_12, @g_84_13, @g_84_14, @g_84_17, @g_84_18, @g_84_21, @g_84_24, @g_84_25, @g_84_28, @g_84_31, @e_84, nlO_n, nlO_i, nlO_r, ret01_0, ret01_1, ret01_if, ret01_fi, true_and, Option.toList_some, Option.toList_none, List.cons_append, List.nil_append, ii_1, ii_0, ii_R, ij_1, ij_0, ij_R, ite_not, if_true, if_false, Int.one_ne_zero, one_e1, not_true_eq_false, not_false_eq_true, and_true, and_false, false_and, or_false, false_or, or_true, true_or, and_self, or_self, inr_n1000100, inr_n1000010, inr_n1000003, inr_n1000002, inr_n1000001, inr_n1000000, inr_n1, inr_0, inr_1, inr_2, inr_3, inr_4, inr_5, inr_6, inr_7, inr_8, inr_10, inr_11, inr_12, inr_13, inr_14, inr_15, inr_16, inr_20, inr_21, inr_22, inr_23, inr_24, inr_29, inr_30, inr_31, inr_32, inr_39, inr_40, inr_44, inr_48, inr_53, inr_54, inr_57, inr_59, inr_63, inr_97, inr_100, inr_101, inr_102, inr_104, inr_105, inr_106, inr_110, inr_112, inr_116, inr_120, inr_122, inr_144, inr_255, inr_256, inr_320, inr_552, inr_576, inr_999, inr_1000, inr_1023, inr_1024, inr_2048, inr_1000000, inr_252645135, inr_858993459, inr_1431655765, okO_0, okF_0_0, rfN_0_0, okF_0_1, rfN_0_1, okF_0_2, rfN_0_2, okF_0_3, rfN_0_3, okF_0_4, rfN_0_4, okF_0_5, rfN_0_5, okF_0_6, rfN_0_6, okF_0_7, rfN_0_7, okF_0_8, rfN_0_8, okF_0_9, rfN_0_9, okO_2, okF_2_2, rfN_2_2, okF_2_4, rfN_2_4, okF_2_5, rfN_2_5, okF_2_6, rfN_2_6, okF_2_7, rfN_2_7, okF_2_9, rfN_2_9, okF_2_10, rfN_2_10, okO_21, okF_21_0, rfN_21_0, k9, s1]
    refine PQ_of (by omega) (by omega) ?_
    simp (disch := omega) only [@g_144_0, @g_144_1, @g_144_4, @g_144_7, @g_144_9, @g_144_10, @g_144_11, @g_144_12, @g_144_15, @g_144_16, @g_144_17, @g_144_20, @g_144_21, @g_144_23, @g_144_25, @g_144_28, @g_144_29, @g_144_32, @g_144_34, @g_144_35, @g_144_36, @g_144_37, @g_144_40, @g_144_42, @g_144_43, @g_144_46, @g_144_47, @g_144_48, @g_144_49, @h_144_49, @g_144_50, @g_144_51, @g_144_54, @g_144_57, @g_144_58, @g_144_61, @e_144, nlO_n, nlO_i, nlO_r, ret01_0, ret01_1, ret01_if, ret01_fi, true_and, Option.toList_some, Option.toList_none, List.cons_append, List.nil_append, ii_1, ii_0, ii_R, ij_1, ij_0, ij_R, ite_not, if_true, if_false, Int.one_ne_zero, one_e1, not_true_eq_false, not_false_eq_true, and_true, and_false, false_and, or_false, false_or, or_true, true_or, and_self, or_self, inr_n1000100, inr_n1000010, inr_n1000003, inr_n1000002, inr_n1000001, inr_n1000000, inr_n1, inr_0, inr_1, inr_2, inr_3, inr_4, inr_5, inr_6, inr_7, inr_8, inr_10, inr_11, inr_12, inr_13, inr_14, inr_15, inr_16, inr_20, inr_21, inr_22, inr_23, inr_24, inr_29, inr_30, inr_31, inr_32, inr_39, inr_40, inr_44, inr_48, inr_53, inr_54, inr_57, inr_59, inr_63, inr_97, inr_100, inr_101, inr_102, inr_104, inr_105, inr_106, inr_110, inr_112, inr_116, inr_120, inr_122, inr_144, inr_255, inr_256, inr_320, inr_552, inr_576, inr_999, inr_1000, inr_1023, inr_1024, inr_2048, inr_1000000, inr_252645135, inr_858993459, inr_1431655765, okO_92, okF_92_0, rfN_92_0, okF_92_2, rfN_92_2, okF_92_3, rfN_92_3, okF_92_4, rfN_92_4, okF_92_6, rfN_92_6, okF_92_7, rfN_92_7, okF_92_8, rfN_92_8, okF_92_9, rfN_92_9, okF_92_10, rfN_92_10, okF_92_11, rfN_92_11, okF_92_20, rfN_92_20, okF_92_21, rfN_92_21, okF_92_22, rfN_92_22, okF_92_23, rfN_92_23, okF_92_25, rfN_92_25, okF_92_26, rfN_92_26, okF_92_27, rfN_92_27, o_R, o_le, o_lt, o_nlt, o_nle, o_eq, o_ne, q1]
    refine lp_144 (kn := I 92 5 - 1) (by omega) (by omega) _ 0 _ (by rw [up_same]) (by omega) (by omega) rfl ?_
    refine MQ_of rfl ?_
    have e94 : cpI (up I1 92 5 (I 92 5 - 1)) 94 (29 + 0) (24 - 0) 96 (24 * (I 92 5 - 1) + 0) 94 = past I (I 92 5 - 1) := by
      funext i
      unfold past
      by_cases hi : 29 ≤ i ∧ i < 53
      · rw [if_pos hi]
        simp (disch := omega) only [up_ne, up_same, up_nj, flI_ne, flI_in, flI_out, cpI_ne, cpI_in, cpI_out, q1]
        congr 1
        omega
      · rw [if_neg hi]
        simp (disch := omega) only [up_ne, up_same, up_nj, flI_ne, flI_in, flI_out, cpI_ne, cpI_in, cpI_out, q1]
    have hpa : ∀ m, past (cpI (up I1 92 5 (I 92 5 - 1)) 94 (29 + 0) (24 - 0) 96 (24 * (I 92 5 - 1) + 0)) m = past I m := fun m => by
      funext i
      unfold past
      by_cases hi : 29 ≤ i ∧ i < 53
      · rw [if_pos hi, if_pos hi]
        simp (disch := omega) only [up_ne, up_same, up_nj, flI_ne, flI_in, flI_out, cpI_ne, cpI_in, cpI_out, q1]
      · rw [if_neg hi, if_neg hi]
        simp (disch := omega) only [up_ne, up_same, up_nj, flI_ne, flI_in, flI_out, cpI_ne, cpI_in, cpI_out, q1]
    have MM : MOK (1000 + 2 * n) (past I (I 92 5 - 1)) := ⟨WTo_ext (fun i a b => gt i (by omega)) M.1, p1, M.2.2⟩
    refine Inv_H h (fun c hc => ?_) ?_ ?_ ?_ ?_ ?_ ?_ ?_ ?_ ?_ ?_ ?_ ?_
    · simp (disch := omega) only [up_ne, up_same, up_nj, flI_ne, flI_in, flI_out, cpI_ne, cpI_in, cpI_out, q1]
    · simp (disch := omega) only [up_ne, up_same, up_nj, flI_ne, flI_in, flI_out, cpI_ne, cpI_in, cpI_out, q1]
    · simp (disch := omega) only [up_ne, up_same, up_nj, flI_ne, flI_in, flI_out, cpI_ne, cpI_in, cpI_out, q1]
    · simp (disch := omega) only [up_ne, up_same, up_nj, flI_ne, flI_in, flI_out, cpI_ne, cpI_in, cpI_out, q1]
    · simp (disch := omega) only [up_ne, up_same, up_nj, flI_ne, flI_in, flI_out, cpI_ne, cpI_in, cpI_out, q1]
    · simp (disch := omega) only [up_ne, up_same, up_nj, flI_ne, flI_in, flI_out, cpI_ne, cpI_in, cpI_out, q1]
    · simp (disch := omega) only [up_ne, up_same, up_nj, flI_ne, flI_in, flI_out, cpI_ne, cpI_in, cpI_out, q1]
    · simp (disch := omega) only [up_ne, up_same, up_nj, flI_ne, flI_in, flI_out, cpI_ne, cpI_in, cpI_out, q1]
    · simp (disch := omega) only [up_ne, up_same, up_nj, flI_ne, flI_in, flI_out, cpI_ne, cpI_in, cpI_out, q1]
    · rw [e94]
      refine ⟨MOK_up (by omega) (by omega) MM, ⟨?_, ?_, ?_, ?_, ?_, ?_, fun hs => ⟨?_, fun k a b => ?_⟩, fun u a b => ?_, fun u a b => ?_⟩⟩
      · simp (disch := omega) only [up_ne, up_same, up_nj, flI_ne, flI_in, flI_out, cpI_ne, cpI_in, cpI_out, k1, gt]
        exact H_0 H
      · simp (disch := omega) only [up_ne, up_same, up_nj, flI_ne, flI_in, flI_out, cpI_ne, cpI_in, cpI_out, k1, gt]
        exact H_3 H
      · simp (disch := omega) only [up_ne, up_same, up_nj, flI_ne, flI_in, flI_out, cpI_ne, cpI_in, cpI_out, k1, gt]
        exact H_8 H
      · simp (disch := omega) only [up_ne, up_same, up_nj, flI_ne, flI_in, flI_out, cpI_ne, cpI_in, cpI_out, k2, y1]
      · simp (disch := omega) only [up_ne, up_same, up_nj, flI_ne, flI_in, flI_out, cpI_ne, cpI_in, cpI_out, k3, y2]
      · simp (disch := omega) only [up_ne, up_same, up_nj, flI_ne, flI_in, flI_out, cpI_ne, cpI_in, cpI_out, k4, y3]
      · rw [gt 0 (by omega)] at hs
        simp (disch := omega) only [up_ne, up_same, up_nj, flI_ne, flI_in, flI_out, cpI_ne, cpI_in, cpI_out, k1, gt]
        exact H_1 H hs
      · rw [gt 0 (by omega)] at hs
        simp (disch := omega) only [up_ne, up_same, up_nj, flI_ne, flI_in, flI_out, cpI_ne, cpI_in, cpI_out, q1, gt]
        exact H_b H hs a b
      · rw [gt 1 (by omega)] at b
        obtain ⟨m1, m2, m3, m4⟩ := H_w H a b
        obtain ⟨z1, z2⟩ := k6 u a b
        have z3 := y7 u a b
        refine ⟨?_, ?_, ?_, ?_⟩
        · simp (disch := omega) only [up_ne, up_same, up_nj, flI_ne, flI_in, flI_out, cpI_ne, cpI_in, cpI_out, q1, gt]
          exact m1
        · simp (disch := omega) only [up_ne, up_same, up_nj, flI_ne, flI_in, flI_out, cpI_ne, cpI_in, cpI_out, q1, gt]
          exact m2
        · simp (disch := omega) only [up_ne, up_same, up_nj, flI_ne, flI_in, flI_out, cpI_ne, cpI_in, cpI_out, z1]
          by_cases hu : u = I (23 + e) 1
          · rw [if_pos hu] at z3 ⊢
            exact z3.1.symm
          · rw [if_neg hu] at z3 ⊢
            rw [z3.1]
            exact m3
        · simp (disch := omega) only [up_ne, up_same, up_nj, flI_ne, flI_in, flI_out, cpI_ne, cpI_in, cpI_out, z2]
          by_cases hu : u = I (23 + e) 1
          · rw [if_pos hu] at z3 ⊢
            have z32 : past I (I 92 5 - 1) (40 + u) = I 94 (40 + u) - 1 := z3.2
            rw [z32]
            have m4 : I 7 u = I 94 (40 + u) := m4
            omega
          · rw [if_neg hu] at z3 ⊢
            rw [z3.2]
            exact m4
      · rw [gt 2 (by omega)] at b
        obtain ⟨m1, m2⟩ := H_t H a b
        have z1 := k5 u a b
        have z3 := y6 u a b
        refine ⟨?_, ?_⟩
        · simp (disch := omega) only [up_ne, up_same, up_nj, flI_ne, flI_in, flI_out, cpI_ne, cpI_in, cpI_out, q1, gt]
          exact m1
        · simp (disch := omega) only [up_ne, up_same, up_nj, flI_ne, flI_in, flI_out, cpI_ne, cpI_in, cpI_out, z1]
          by_cases hu : u = I (23 + e) 0
          · rw [if_pos hu] at z3 ⊢
            rw [enc_neg z3]
          · rw [if_neg hu] at z3 ⊢
            rw [z3]
            exact m2
    · refine RIm_cong (by omega) (by omega) (fun c a b => ?_) ?_ ?_ r5
      all_goals simp (disch := omega) only [up_ne, up_same, up_nj, flI_ne, flI_in, flI_out, cpI_ne, cpI_in, cpI_out, q1]
    · have t5 : cpI (up I1 92 5 (I 92 5 - 1)) 94 (29 + 0) (24 - 0) 96 (24 * (I 92 5 - 1) + 0) 92 5 = I 92 5 - 1 := by simp (disch := omega) only [up_ne, up_same, up_nj, flI_ne, flI_in, flI_out, cpI_ne, cpI_in, cpI_out]
      have t21 : cpI (up I1 92 5 (I 92 5 - 1)) 94 (29 + 0) (24 - 0) 96 (24 * (I 92 5 - 1) + 0) 21 = I1 21 := by simp (disch := omega) only [up_ne, up_same, up_nj, flI_ne, flI_in, flI_out, cpI_ne, cpI_in, cpI_out]
      unfold RAs
      rw [t5, t21, e94, k8, k9]
      refine ⟨by omega, by omega, by omega, by omega, by omega, fun k hk => ?_⟩
      obtain ⟨z1, z2⟩ := s6 (k + 1) (by omega)
      rw [hpa, hpa, ring_u s4 s5 he k (by omega), show I 92 5 - 1 - 1 - (k : Int) = I 92 5 - 1 - ((k + 1 : Nat) : Int) by omega]
      refine ⟨WIs_up (by omega) z1, ?_⟩
      rw [if_neg (by omega)] at z2
      have zg : (if k = 0 then past I (I 92 5 - 1) else past I (I 92 5 - 1 - k)) = past I (I 92 5 - ((k + 1 : Nat) : Int)) := by
        split
        · rename_i hk0
          congr 1
          omega
        · congr 1
          omega
      rw [zg]
      refine RAc_cong ?_ z2
      have hl := ringAt_lt (I 21 1) (k + 1)
      simp (disch := omega) only [up_ne, up_same, up_nj, flI_ne, flI_in, flI_out, cpI_ne, cpI_in, cpI_out, q1]
    · intro c hc w a b
      have z := r8 c hc w a b
      rcases hc with rfl | rfl | rfl | rfl
      · simp (disch := omega) only [up_ne, up_same, up_nj, flI_ne, flI_in, flI_out, cpI_ne, cpI_in, cpI_out]
        rcases k7 w with z1 | ⟨z1, z2, z3, z4⟩
        · rw [z1]
          omega
        · rw [z4]
          have z5 := y7 w z1 z2
          rw [if_pos z3] at z5
          rw [← z5.1]
          have z6 := p1.2.2.2.2.2.2.1 w z1 (by rw [gt 1 (by omega)]; exact z2)
          unfold encN
          split <;> omega
      · simp (disch := omega) only [up_ne, up_same, up_nj, flI_ne, flI_in, flI_out, cpI_ne, cpI_in, cpI_out, q1]
        omega
      · simp (disch := omega) only [up_ne, up_same, up_nj, flI_ne, flI_in, flI_out, cpI_ne, cpI_in, cpI_out, q1]
        omega
      · simp (disch := omega) only [up_ne, up_same, up_nj, flI_ne, flI_in, flI_out, cpI_ne, cpI_in, cpI_out, q1]
        omega
  · have e5 : I 92 5 = 0 := by omega
    simp (disch := omega) only [@g_84_0, @g_84_1, @g_84_4, @g_84_7, @g_84_10, @g_84_12, @g_84_13, @g_84_14, @g_84_17, @g_84_18, @g_84_21, @g_84_24, @g_84_25, @g_84_28, @g_84_31, @e_84, nlO_n, nlO_i, nlO_r, ret01_0, ret01_1, ret01_if, ret01_fi, true_and, Option.toList_some, Option.toList_none, List.cons_append, List.nil_append, ii_1, ii_0, ii_R, ij_1, ij_0, ij_R, ite_not, if_true, if_false, Int.one_ne_zero, one_e1, not_true_eq_false, not_false_eq_true, and_true, and_false, false_and, or_false, false_or, or_true, true_or, and_self, or_self, inr_n1000100, inr_n1000010, inr_n1000003, inr_n1000002, inr_n1000001, inr_n1000000, inr_n1, inr_0, inr_1, inr_2, inr_3, inr_4, inr_5, inr_6, inr_7, inr_8, inr_10, inr_11, inr_12, inr_13, inr_14, inr_15, inr_16, inr_20, inr_21, inr_22, inr_23, inr_24, inr_29, inr_30, inr_31, inr_32, inr_39, inr_40, inr_44, inr_48, inr_53, inr_54, inr_57, inr_59, inr_63, inr_97, inr_100, inr_101, inr_102, inr_104, inr_105, inr_106, inr_110, inr_112, inr_116, inr_120, inr_122, inr_144, inr_255, inr_256, inr_320, inr_552, inr_576, inr_999, inr_1000, inr_1023, inr_1024, inr_2048, inr_1000000, inr_252645135, inr_858993459, inr_1431655765, okO_0, okF_0_0, rfN_0_0, okF_0_1, rfN_0_1, okF_0_2, rfN_0_2, okF_0_3, rfN_0_3, okF_0_4, rfN_0_4, okF_0_5, rfN_0_5, okF_0_6, rfN_0_6, okF_0_7, rfN_0_7, okF_0_8, rfN_0_8, okF_0_9, rfN_0_9, okO_2, okF_2_2, rfN_2_2, okF_2_4, rfN_2_4, okF_2_5, rfN_2_5, okF_2_6, rfN_2_6, okF_2_7, rfN_2_7, okF_2_9, rfN_2_9, okF_2_10, rfN_2_10, okO_21, okF_21_0, rfN_21_0, o_R, o_le, o_lt, o_nlt, o_nle, o_eq, o_ne, s1]
    refine PQ_of (by omega) (by omega) ?_
    simp (disch := omega) only [@g_144_0, @g_144_1, @g_144_4, @g_144_7, @g_144_9, @g_144_10, @g_144_11, @g_144_12, @g_144_15, @g_144_16, @g_144_17, @g_144_20, @g_144_21, @g_144_23, @g_144_25, @g_144_28, @g_144_29, @g_144_32, @g_144_34, @g_144_35, @g_144_36, @g_144_37, @g_144_40, @g_144_42, @g_144_43, @g_144_46, @g_144_47, @g_144_48, @g_144_49, @h_144_49, @g_144_50, @g_144_51, @g_144_54, @g_144_57, @g_144_58, @g_144_61, @e_144, nlO_n, nlO_i, nlO_r, ret01_0, ret01_1, ret01_if, ret01_fi, true_and, Option.toList_some, Option.toList_none, List.cons_append, List.nil_append, ii_1, ii_0, ii_R, ij_1, ij_0, ij_R, ite_not, if_true, if_false, Int.one_ne_zero, one_e1, not_true_eq_false, not_false_eq_true, and_true, and_false, false_and, or_false, false_or, or_true, true_or, and_self, or_self, inr_n1000100, inr_n1000010, inr_n1000003, inr_n1000002, inr_n1000001, inr_n1000000, inr_n1, inr_0, inr_1, inr_2, inr_3, inr_4, inr_5, inr_6, inr_7, inr_8, inr_10, inr_11, inr_12, inr_13, inr_14, inr_15, inr_16, inr_20, inr_21, inr_22, inr_23, inr_24, inr_29, inr_30, inr_31, inr_32, inr_39, inr_40, inr_44, inr_48, inr_53, inr_54, inr_57, inr_59, inr_63, inr_97, inr_100, inr_101, inr_102, inr_104, inr_105, inr_106, inr_110, inr_112, inr_116, inr_120, inr_122, inr_144, inr_255, inr_256, inr_320, inr_552, inr_576, inr_999, inr_1000, inr_1023, inr_1024, inr_2048, inr_1000000, inr_252645135, inr_858993459, inr_1431655765, okO_92, okF_92_0, rfN_92_0, okF_92_2, rfN_92_2, okF_92_3, rfN_92_3, okF_92_4, rfN_92_4, okF_92_6, rfN_92_6, okF_92_7, rfN_92_7, okF_92_8, rfN_92_8, okF_92_9, rfN_92_9, okF_92_10, rfN_92_10, okF_92_11, rfN_92_11, okF_92_20, rfN_92_20, okF_92_21, rfN_92_21, okF_92_22, rfN_92_22, okF_92_23, rfN_92_23, okF_92_25, rfN_92_25, okF_92_26, rfN_92_26, okF_92_27, rfN_92_27, o_R, o_le, o_lt, o_nlt, o_nle, o_eq, o_ne]
    exact MQ_of rfl (Inv_up h hn)
end
