/-! ===== undo ===== -/
theorem WTo_ext {g g' : HV} (e : ∀ i : Int, 0 ≤ i → i < 29 → g' i = g i) (W : WTo g) : WTo g' := by
  obtain ⟨w1, w2, w3, w4, w5, w6, w7, w8, w9⟩ := W
  refine ⟨?_, ?_, ?_, ?_, ?_, ?_, ?_, ?_, ?_⟩
  all_goals simp (disch := omega) only [e]
  · exact w1
  · exact w2
  · exact w3
  · exact w4
  · exact w5
  · exact w6
  · intro hq
    obtain ⟨z1, z2, z3⟩ := w7 hq
    refine ⟨z1, z2, fun k2 a b => ?_⟩
    rw [e _ (by omega) (by omega)]
    exact z3 k2 a b
  · intro w a b
    rw [e _ (by omega) (by omega), e _ (by omega) (by omega)]
    exact w8 w a b
  · intro w a b
    rw [e _ (by omega) (by omega)]
    exact w9 w a b
section
variable {x : RO} {d : Nat} {Q : QT} {I : MI} {J : MJ} {n : Nat}
/-- the class takes the act of the cell E = 23 + e back -/
theorem sp_4 {B : Int} {g : HV} {e : Nat} (H : ROK B I 2 g) (h0 : 0 ≤ I 21 1) (h1 : I 21 1 < 24) (hk0 : 0 < I 21 2) (hk1 : I 21 2 ≤ 24) (he : e = ringAt (I 21 1) 0) (ht : inR (I (23 + e) 0)) (hw : inR (I (23 + e) 1))
    (hq : ∀ I', Fr [2, 6, 7, 9, 21] I I' → (∀ j : Int, j ≠ 11 → j ≠ 12 → j ≠ 13 → I' 2 j = I 2 j) → I' 2 11 = I (23 + e) 2 → I' 2 12 = I (23 + e) 3 → I' 2 13 = I (23 + e) 4 → (∀ u : Int, 0 ≤ u → u < g 2 → I' 9 u = if u = I (23 + e) 0 then -1000000 else I 9 u) →
      (∀ u : Int, 0 ≤ u → u < g 1 → I' 6 u = (if u = I (23 + e) 1 then I (23 + e) 5 else I 6 u) ∧ I' 7 u = (if u = I (23 + e) 1 then I 7 u - 1 else I 7 u)) → (∀ u : Int, I' 6 u = I 6 u ∨ (0 ≤ u ∧ u < g 1 ∧ u = I (23 + e) 1 ∧ I' 6 u = I (23 + e) 5)) → I' 21 1 = e → I' 21 2 = I 21 2 - 1 → Q none I' J) :
    EX x (d + 2) 4 [.inr (.inr (.inl 21)), .inr (.inr (.inl 2))] I J Q := by
  have b1 := B_1 H.1
  have b2 := B_2 H.1
  have e3 := H_3 H
  have e8 := H_8 H
  have he2 : e < 24 := by rw [he]; exact ringAt_lt _ _
  have hnx : (if 0 < I 21 1 then I 21 1 - 1 else 23) = (e : Int) := by
    rw [he]
    unfold ringAt
    split <;> omega
  obtain ⟨ht0, ht1⟩ := ht
  obtain ⟨hw0, hw1⟩ := hw
  have fin : ∀ I9 I6 : MI, (I9 = up (up (up (up (up I 21 1 e) 21 2 (I 21 2 - 1)) 2 11 (I (23 + e) 2)) 2 12 (I (23 + e) 3)) 2 13 (I (23 + e) 4) ∧ ¬ (0 ≤ I (23 + e) 0 ∧ I (23 + e) 0 < I 2 8) ∨ I9 = up (up (up (up (up (up I 21 1 e) 21 2 (I 21 2 - 1)) 2 11 (I (23 + e) 2)) 2 12 (I (23 + e) 3)) 2 13 (I (23 + e) 4)) 9 (I (23 + e) 0) (-1000000)) →
      (I6 = I9 ∧ ¬ (0 ≤ I (23 + e) 1 ∧ I (23 + e) 1 < I 2 3) ∨ I6 = up (up I9 6 (I (23 + e) 1) (I (23 + e) 5)) 7 (I (23 + e) 1) (I 7 (I (23 + e) 1) - 1) ∧ (0 ≤ I (23 + e) 1 ∧ I (23 + e) 1 < I 2 3)) → Q none I6 J := by
    intro I9 I6 h9 h6
    have k9 : ∀ c, c ≠ 2 → c ≠ 9 → c ≠ 21 → I9 c = I c := fun c a1 a2 a3 => by
      rcases h9 with ⟨z, -⟩ | z
      · rw [z]; simp (disch := omega) only [up_ne]
      · rw [z]; simp (disch := omega) only [up_ne]
    have k2 : I9 2 = up (up (up I 2 11 (I (23 + e) 2)) 2 12 (I (23 + e) 3)) 2 13 (I (23 + e) 4) 2 := by
      funext j
      rcases h9 with ⟨z, -⟩ | z
      · rw [z]; unfold up; simp (disch := omega) only [if_false, if_true, and_self, true_and, false_and, show ((2 : Nat) = 21) = False from eq_false (by omega)]
      · rw [z]; unfold up; simp (disch := omega) only [if_false, if_true, and_self, true_and, false_and, show ((2 : Nat) = 21) = False from eq_false (by omega), show ((2 : Nat) = 9) = False from eq_false (by omega)]
    have k21 : I9 21 1 = e ∧ I9 21 2 = I 21 2 - 1 := by
      rcases h9 with ⟨z, -⟩ | z
      · rw [z]; simp (disch := omega) only [up_ne, up_same, up_nj, flI_ne, flI_in, flI_out, cpI_ne, cpI_in, cpI_out, and_self]
      · rw [z]; simp (disch := omega) only [up_ne, up_same, up_nj, flI_ne, flI_in, flI_out, cpI_ne, cpI_in, cpI_out, and_self]
    have k99 : ∀ u : Int, 0 ≤ u → u < g 2 → I9 9 u = if u = I (23 + e) 0 then -1000000 else I 9 u := fun u a b => by
      rcases h9 with ⟨z, z2⟩ | z
      · rw [z, if_neg (by omega)]; simp (disch := omega) only [up_ne, up_same, up_nj, flI_ne, flI_in, flI_out, cpI_ne, cpI_in, cpI_out]
      · rw [z]
        by_cases hu : u = I (23 + e) 0
        · rw [if_pos hu, hu]; simp (disch := omega) only [up_ne, up_same, up_nj, flI_ne, flI_in, flI_out, cpI_ne, cpI_in, cpI_out]
        · rw [if_neg hu]; simp (disch := omega) only [up_ne, up_same, up_nj, flI_ne, flI_in, flI_out, cpI_ne, cpI_in, cpI_out]
    refine hq I6 (fun c hc => ?_) (fun j a1 a2 a3 => ?_) ?_ ?_ ?_ (fun u a b => ?_) (fun u a b => ?_) (fun u => ?_) ?_ ?_
    · simp only [List.mem_cons, List.not_mem_nil, or_false, not_or] at hc
      rcases h6 with ⟨z, -⟩ | ⟨z, -⟩
      · rw [z, k9 c (by omega) (by omega) (by omega)]
      · rw [z, up_ne (by omega), up_ne (by omega), k9 c (by omega) (by omega) (by omega)]
    · rcases h6 with ⟨z, -⟩ | ⟨z, -⟩
      · rw [z, k2]; simp (disch := omega) only [up_ne, up_same, up_nj, flI_ne, flI_in, flI_out, cpI_ne, cpI_in, cpI_out]
      · rw [z, up_ne (by omega), up_ne (by omega), k2]; simp (disch := omega) only [up_ne, up_same, up_nj, flI_ne, flI_in, flI_out, cpI_ne, cpI_in, cpI_out]
    · rcases h6 with ⟨z, -⟩ | ⟨z, -⟩
      · rw [z, k2]; simp (disch := omega) only [up_ne, up_same, up_nj, flI_ne, flI_in, flI_out, cpI_ne, cpI_in, cpI_out]
      · rw [z, up_ne (by omega), up_ne (by omega), k2]; simp (disch := omega) only [up_ne, up_same, up_nj, flI_ne, flI_in, flI_out, cpI_ne, cpI_in, cpI_out]
    · rcases h6 with ⟨z, -⟩ | ⟨z, -⟩
      · rw [z, k2]; simp (disch := omega) only [up_ne, up_same, up_nj, flI_ne, flI_in, flI_out, cpI_ne, cpI_in, cpI_out]
      · rw [z, up_ne (by omega), up_ne (by omega), k2]; simp (disch := omega) only [up_ne, up_same, up_nj, flI_ne, flI_in, flI_out, cpI_ne, cpI_in, cpI_out]
    · rcases h6 with ⟨z, -⟩ | ⟨z, -⟩
      · rw [z, k2]; simp (disch := omega) only [up_ne, up_same, up_nj, flI_ne, flI_in, flI_out, cpI_ne, cpI_in, cpI_out]
      · rw [z, up_ne (by omega), up_ne (by omega), k2]; simp (disch := omega) only [up_ne, up_same, up_nj, flI_ne, flI_in, flI_out, cpI_ne, cpI_in, cpI_out]
    · rcases h6 with ⟨z, -⟩ | ⟨z, -⟩
      · rw [z]; exact k99 u a b
      · rw [z, up_ne (by omega), up_ne (by omega)]; exact k99 u a b
    · rcases h6 with ⟨z, z2⟩ | ⟨z, z2⟩
      · rw [z, k9 6 (by omega) (by omega) (by omega), k9 7 (by omega) (by omega) (by omega), if_neg (by omega), if_neg (by omega)]
        exact ⟨rfl, rfl⟩
      · rw [z, up_ne (c' := 6) (by omega)]
        by_cases hu : u = I (23 + e) 1
        · rw [if_pos hu, if_pos hu, hu, up_same, up_same]
          exact ⟨rfl, rfl⟩
        · rw [if_neg hu, if_neg hu, up_nj hu, up_nj hu, up_ne (by omega), k9 6 (by omega) (by omega) (by omega), k9 7 (by omega) (by omega) (by omega)]
          exact ⟨rfl, rfl⟩
    · rcases h6 with ⟨z, z2⟩ | ⟨z, z2⟩
      · rw [z, k9 6 (by omega) (by omega) (by omega)]
        exact Or.inl rfl
      · rw [z, up_ne (c' := 6) (by omega)]
        by_cases hu : u = I (23 + e) 1
        · exact Or.inr ⟨by omega, by omega, hu, by rw [hu, up_same]⟩
        · rw [up_nj hu, k9 6 (by omega) (by omega) (by omega)]
          exact Or.inl rfl
    · rcases h6 with ⟨z, -⟩ | ⟨z, -⟩
      · rw [z]; exact k21.1
      · rw [z, up_ne (by omega), up_ne (by omega)]; exact k21.1
    · rcases h6 with ⟨z, -⟩ | ⟨z, -⟩
      · rw [z]; exact k21.2
      · rw [z, up_ne (by omega), up_ne (by omega)]; exact k21.2
  by_cases cA : 0 < I 21 1
  · have hn2 := hnx
    rw [if_pos cA] at hn2
    by_cases cT : 0 ≤ I (23 + e) 0 ∧ I (23 + e) 0 < I 2 8
    · by_cases cW : 0 ≤ I (23 + e) 1 ∧ I (23 + e) 1 < I 2 3
      · simp (disch := first | omega | (simp (disch := omega) only [up_ne, up_same, up_nj] <;> omega) | fail) only [@g_4_0, @g_4_1, @g_4_2, @g_4_5, @g_4_8, @g_4_9, @g_4_12, @g_4_13, @g_4_14, @g_4_17, @g_4_19, @g_4_22, @g_4_23, @g_4_24, @g_4_27, @g_4_28, @g_4_29, @g_4_32, @g_4_33, @g_4_36, @g_4_37, @g_4_40, @g_4_41, @g_4_42, @g_4_43, @g_4_44, @g_4_47, @g_4_50, @g_4_51, @g_4_52, @g_4_55, @g_4_58, @g_4_59, @g_4_60, @g_4_63, @g_4_66, @g_4_67, @g_4_68, @g_4_71, @g_4_74, @g_4_77, @g_4_78, @g_4_81, @g_4_82, @g_4_85, @g_4_87, @g_4_88, @g_4_89, @g_4_90, @g_4_93, @g_4_96, @g_4_99, @g_4_100, @g_4_103, @g_4_104, @g_4_107, @g_4_108, @g_4_111, @g_4_112, @g_4_113, @g_4_116, @g_4_117, @g_4_120, @g_4_121, @h_4_121, @g_4_122, @g_4_123, @g_4_124, @g_4_125, @e_4, nlO_n, nlO_i, nlO_r, ret01_0, ret01_1, ret01_if, ret01_fi, true_and, Option.toList_some, Option.toList_none, List.cons_append, List.nil_append, ii_1, ii_0, ii_R, ij_1, ij_0, ij_R, ite_not, if_true, if_false, Int.one_ne_zero, one_e1, not_true_eq_false, not_false_eq_true, and_true, and_false, false_and, or_false, false_or, or_true, true_or, and_self, or_self, inr_n1000100, inr_n1000010, inr_n1000003, inr_n1000002, inr_n1000001, inr_n1000000, inr_n1, inr_0, inr_1, inr_2, inr_3, inr_4, inr_5, inr_6, inr_7, inr_8, inr_10, inr_11, inr_12, inr_13, inr_14, inr_15, inr_16, inr_20, inr_21, inr_22, inr_23, inr_24, inr_29, inr_30, inr_31, inr_32, inr_39, inr_40, inr_44, inr_48, inr_53, inr_54, inr_57, inr_59, inr_63, inr_97, inr_100, inr_101, inr_102, inr_104, inr_105, inr_106, inr_110, inr_112, inr_116, inr_120, inr_122, inr_144, inr_255, inr_256, inr_320, inr_552, inr_576, inr_999, inr_1000, inr_1023, inr_1024, inr_2048, inr_1000000, inr_252645135, inr_858993459, inr_1431655765, okO_2, okF_2_2, rfN_2_2, okF_2_4, rfN_2_4, okF_2_5, rfN_2_5, okF_2_6, rfN_2_6, okF_2_7, rfN_2_7, okF_2_9, rfN_2_9, okF_2_10, rfN_2_10, okA_6, lnN_6, okA_7, lnN_7, okA_9, lnN_9, okO_21, okF_21_0, rfN_21_0, lnN_22, hn2, elN_act, okE_act, okO_act, sp_17b, sp_16b, up_ne, up_same, up_nj, flI_ne, flI_in, flI_out, cpI_ne, cpI_in, cpI_out, o_R, o_le, o_lt, o_nlt, cT.1, cT.2, cW.1, cW.2]
        exact fin _ _ (Or.inr rfl) (Or.inr ⟨rfl, cW⟩)
      · simp (disch := first | omega | (simp (disch := omega) only [up_ne, up_same, up_nj] <;> omega) | fail) only [@g_4_0, @g_4_1, @g_4_2, @g_4_5, @g_4_8, @g_4_9, @g_4_12, @g_4_13, @g_4_14, @g_4_17, @g_4_19, @g_4_22, @g_4_23, @g_4_24, @g_4_27, @g_4_28, @g_4_29, @g_4_32, @g_4_33, @g_4_36, @g_4_37, @g_4_40, @g_4_41, @g_4_42, @g_4_43, @g_4_44, @g_4_47, @g_4_50, @g_4_51, @g_4_52, @g_4_55, @g_4_58, @g_4_59, @g_4_60, @g_4_63, @g_4_66, @g_4_67, @g_4_68, @g_4_71, @g_4_74, @g_4_77, @g_4_78, @g_4_81, @g_4_82, @g_4_85, @g_4_87, @g_4_88, @g_4_89, @g_4_90, @g_4_93, @g_4_96, @g_4_99, @g_4_100, @g_4_103, @g_4_104, @g_4_107, @g_4_108, @g_4_111, @g_4_112, @g_4_113, @g_4_116, @g_4_117, @g_4_120, @g_4_121, @h_4_121, @g_4_122, @g_4_123, @g_4_124, @g_4_125, @e_4, nlO_n, nlO_i, nlO_r, ret01_0, ret01_1, ret01_if, ret01_fi, true_and, Option.toList_some, Option.toList_none, List.cons_append, List.nil_append, ii_1, ii_0, ii_R, ij_1, ij_0, ij_R, ite_not, if_true, if_false, Int.one_ne_zero, one_e1, not_true_eq_false, not_false_eq_true, and_true, and_false, false_and, or_false, false_or, or_true, true_or, and_self, or_self, inr_n1000100, inr_n1000010, inr_n1000003, inr_n1000002, inr_n1000001, inr_n1000000, inr_n1, inr_0, inr_1, inr_2, inr_3, inr_4, inr_5, inr_6, inr_7, inr_8, inr_10, inr_11, inr_12, inr_13, inr_14, inr_15, inr_16, inr_20, inr_21, inr_22, inr_23, inr_24, inr_29, inr_30, inr_31, inr_32, inr_39, inr_40, inr_44, inr_48, inr_53, inr_54, inr_57, inr_59, inr_63, inr_97, inr_100, inr_101, inr_102, inr_104, inr_105, inr_106, inr_110, inr_112, inr_116, inr_120, inr_122, inr_144, inr_255, inr_256, inr_320, inr_552, inr_576, inr_999, inr_1000, inr_1023, inr_1024, inr_2048, inr_1000000, inr_252645135, inr_858993459, inr_1431655765, okO_2, okF_2_2, rfN_2_2, okF_2_4, rfN_2_4, okF_2_5, rfN_2_5, okF_2_6, rfN_2_6, okF_2_7, rfN_2_7, okF_2_9, rfN_2_9, okF_2_10, rfN_2_10, okA_6, lnN_6, okA_7, lnN_7, okA_9, lnN_9, okO_21, okF_21_0, rfN_21_0, lnN_22, hn2, elN_act, okE_act, okO_act, sp_17b, sp_16b, up_ne, up_same, up_nj, flI_ne, flI_in, flI_out, cpI_ne, cpI_in, cpI_out, o_R, o_le, o_lt, o_nlt, cT.1, cT.2, cW]
        exact fin _ _ (Or.inr rfl) (Or.inl ⟨rfl, cW⟩)
    · by_cases cW : 0 ≤ I (23 + e) 1 ∧ I (23 + e) 1 < I 2 3
      · simp (disch := first | omega | (simp (disch := omega) only [up_ne, up_same, up_nj] <;> omega) | fail) only [@g_4_0, @g_4_1, @g_4_2, @g_4_5, @g_4_8, @g_4_9, @g_4_12, @g_4_13, @g_4_14, @g_4_17, @g_4_19, @g_4_22, @g_4_23, @g_4_24, @g_4_27, @g_4_28, @g_4_29, @g_4_32, @g_4_33, @g_4_36, @g_4_37, @g_4_40, @g_4_41, @g_4_42, @g_4_43, @g_4_44, @g_4_47, @g_4_50, @g_4_51, @g_4_52, @g_4_55, @g_4_58, @g_4_59, @g_4_60, @g_4_63, @g_4_66, @g_4_67, @g_4_68, @g_4_71, @g_4_74, @g_4_77, @g_4_78, @g_4_81, @g_4_82, @g_4_85, @g_4_87, @g_4_88, @g_4_89, @g_4_90, @g_4_93, @g_4_96, @g_4_99, @g_4_100, @g_4_103, @g_4_104, @g_4_107, @g_4_108, @g_4_111, @g_4_112, @g_4_113, @g_4_116, @g_4_117, @g_4_120, @g_4_121, @h_4_121, @g_4_122, @g_4_123, @g_4_124, @g_4_125, @e_4, nlO_n, nlO_i, nlO_r, ret01_0, ret01_1, ret01_if, ret01_fi, true_and, Option.toList_some, Option.toList_none, List.cons_append, List.nil_append, ii_1, ii_0, ii_R, ij_1, ij_0, ij_R, ite_not, if_true, if_false, Int.one_ne_zero, one_e1, not_true_eq_false, not_false_eq_true, and_true, and_false, false_and, or_false, false_or, or_true, true_or, and_self, or_self, inr_n1000100, inr_n1000010, inr_n1000003, inr_n1000002, inr_n1000001, inr_n1000000, inr_n1, inr_0, inr_1, inr_2, inr_3, inr_4, inr_5, inr_6, inr_7, inr_8, inr_10, inr_11, inr_12, inr_13, inr_14, inr_15, inr_16, inr_20, inr_21, inr_22, inr_23, inr_24, inr_29, inr_30, inr_31, inr_32, inr_39, inr_40, inr_44, inr_48, inr_53, inr_54, inr_57, inr_59, inr_63, inr_97, inr_100, inr_101, inr_102, inr_104, inr_105, inr_106, inr_110, inr_112, inr_116, inr_120, inr_122, inr_144, inr_255, inr_256, inr_320, inr_552, inr_576, inr_999, inr_1000, inr_1023, inr_1024, inr_2048, inr_1000000, inr_252645135, inr_858993459, inr_1431655765, okO_2, okF_2_2, rfN_2_2, okF_2_4, rfN_2_4, okF_2_5, rfN_2_5, okF_2_6, rfN_2_6, okF_2_7, rfN_2_7, okF_2_9, rfN_2_9, okF_2_10, rfN_2_10, okA_6, lnN_6, okA_7, lnN_7, okA_9, lnN_9, okO_21, okF_21_0, rfN_21_0, lnN_22, hn2, elN_act, okE_act, okO_act, sp_17b, sp_16b, up_ne, up_same, up_nj, flI_ne, flI_in, flI_out, cpI_ne, cpI_in, cpI_out, o_R, o_le, o_lt, o_nlt, cT, cW.1, cW.2]
        exact fin _ _ (Or.inl ⟨rfl, cT⟩) (Or.inr ⟨rfl, cW⟩)
      · simp (disch := first | omega | (simp (disch := omega) only [up_ne, up_same, up_nj] <;> omega) | fail) only [@g_4_0, @g_4_1, @g_4_2, @g_4_5, @g_4_8, @g_4_9, @g_4_12, @g_4_13, @g_4_14, @g_4_17, @g_4_19, @g_4_22, @g_4_23, @g_4_24, @g_4_27, @g_4_28, @g_4_29, @g_4_32, @g_4_33, @g_4_36, @g_4_37, @g_4_40, @g_4_41, @g_4_42, @g_4_43, @g_4_44, @g_4_47, @g_4_50, @g_4_51, @g_4_52, @g_4_55, @g_4_58, @g_4_59, @g_4_60, @g_4_63, @g_4_66, @g_4_67, @g_4_68, @g_4_71, @g_4_74, @g_4_77, @g_4_78, @g_4_81, @g_4_82, @g_4_85, @g_4_87, @g_4_88, @g_4_89, @g_4_90, @g_4_93, @g_4_96, @g_4_99, @g_4_100, @g_4_103, @g_4_104, @g_4_107, @g_4_108, @g_4_111, @g_4_112, @g_4_113, @g_4_116, @g_4_117, @g_4_120, @g_4_121, @h_4_121, @g_4_122, @g_4_123, @g_4_124, @g_4_125, @e_4, nlO_n, nlO_i, nlO_r, ret01_0, ret01_1, ret01_if, ret01_fi, true_and, Option.toList_some, Option.toList_none, List.cons_append, List.nil_append, ii_1, ii_0, ii_R, ij_1, ij_0, ij_R, ite_not, if_true, if_false, Int.one_ne_zero, one_e1, not_true_eq_false, not_false_eq_true, and_true, and_false, false_and, or_false, false_or, or_true, true_or, and_self, or_self, inr_n1000100, inr_n1000010, inr_n1000003, inr_n1000002, inr_n1000001, inr_n1000000, inr_n1, inr_0, inr_1, inr_2, inr_3, inr_4, inr_5, inr_6, inr_7, inr_8, inr_10, inr_11, inr_12, inr_13, inr_14, inr_15, inr_16, inr_20, inr_21, inr_22, inr_23, inr_24, inr_29, inr_30, inr_31, inr_32, inr_39, inr_40, inr_44, inr_48, inr_53, inr_54, inr_57, inr_59, inr_63, inr_97, inr_100, inr_101, inr_102, inr_104, inr_105, inr_106, inr_110, inr_112, inr_116, inr_120, inr_122, inr_144, inr_255, inr_256, inr_320, inr_552, inr_576, inr_999, inr_1000, inr_1023, inr_1024, inr_2048, inr_1000000, inr_252645135, inr_858993459, inr_1431655765, okO_2, okF_2_2, rfN_2_2, okF_2_4, rfN_2_4, okF_2_5, rfN_2_5, okF_2_6, rfN_2_6, okF_2_7, rfN_2_7, okF_2_9, rfN_2_9, okF_2_10, rfN_2_10, okA_6, lnN_6, okA_7, lnN_7, okA_9, lnN_9, okO_21, okF_21_0, rfN_21_0, lnN_22, hn2, elN_act, okE_act, okO_act, sp_17b, sp_16b, up_ne, up_same, up_nj, flI_ne, flI_in, flI_out, cpI_ne, cpI_in, cpI_out, o_R, o_le, o_lt, o_nlt, cT, cW]
        exact fin _ _ (Or.inl ⟨rfl, cT⟩) (Or.inl ⟨rfl, cW⟩)
  · have hn2 := hnx
    rw [if_neg cA] at hn2
    by_cases cT : 0 ≤ I (23 + e) 0 ∧ I (23 + e) 0 < I 2 8
    · by_cases cW : 0 ≤ I (23 + e) 1 ∧ I (23 + e) 1 < I 2 3
      · simp (disch := first | omega | (simp (disch := omega) only [up_ne, up_same, up_nj] <;> omega) | fail) only [@g_4_0, @g_4_1, @g_4_2, @g_4_5, @g_4_8, @g_4_9, @g_4_12, @g_4_13, @g_4_14, @g_4_17, @g_4_19, @g_4_22, @g_4_23, @g_4_24, @g_4_27, @g_4_28, @g_4_29, @g_4_32, @g_4_33, @g_4_36, @g_4_37, @g_4_40, @g_4_41, @g_4_42, @g_4_43, @g_4_44, @g_4_47, @g_4_50, @g_4_51, @g_4_52, @g_4_55, @g_4_58, @g_4_59, @g_4_60, @g_4_63, @g_4_66, @g_4_67, @g_4_68, @g_4_71, @g_4_74, @g_4_77, @g_4_78, @g_4_81, @g_4_82, @g_4_85, @g_4_87, @g_4_88, @g_4_89, @g_4_90, @g_4_93, @g_4_96, @g_4_99, @g_4_100, @g_4_103, @g_4_104, @g_4_107, @g_4_108, @g_4_111, @g_4_112, @g_4_113, @g_4_116, @g_4_117, @g_4_120, @g_4_121, @h_4_121, @g_4_122, @g_4_123, @g_4_124, @g_4_125, @e_4, nlO_n, nlO_i, nlO_r, ret01_0, ret01_1, ret01_if, ret01_fi, true_and, Option.toList_some, Option.toList_none, List.cons_append, List.nil_append, ii_1, ii_0, ii_R, ij_1, ij_0, ij_R, ite_not, if_true, if_false, Int.one_ne_zero, one_e1, not_true_eq_false, not_false_eq_true, and_true, and_false, false_and, or_false, false_or, or_true, true_or, and_self, or_self, inr_n1000100, inr_n1000010, inr_n1000003, inr_n1000002, inr_n1000001, inr_n1000000, inr_n1, inr_0, inr_1, inr_2, inr_3, inr_4, inr_5, inr_6, inr_7, inr_8, inr_10, inr_11, inr_12, inr_13, inr_14, inr_15, inr_16, inr_20, inr_21, inr_22, inr_23, inr_24, inr_29, inr_30, inr_31, inr_32, inr_39, inr_40, inr_44, inr_48, inr_53, inr_54, inr_57, inr_59, inr_63, inr_97, inr_100, inr_101, inr_102, inr_104, inr_105, inr_106, inr_110, inr_112, inr_116, inr_120, inr_122, inr_144, inr_255, inr_256, inr_320, inr_552, inr_576, inr_999, inr_1000, inr_1023, inr_1024, inr_2048, inr_1000000, inr_252645135, inr_858993459, inr_1431655765, okO_2, okF_2_2, rfN_2_2, okF_2_4, rfN_2_4, okF_2_5, rfN_2_5, okF_2_6, rfN_2_6, okF_2_7, rfN_2_7, okF_2_9, rfN_2_9, okF_2_10, rfN_2_10, okA_6, lnN_6, okA_7, lnN_7, okA_9, lnN_9, okO_21, okF_21_0, rfN_21_0, lnN_22, hn2, elN_act, okE_act, okO_act, sp_17b, sp_16b, up_ne, up_same, up_nj, flI_ne, flI_in, flI_out, cpI_ne, cpI_in, cpI_out, o_R, o_le, o_lt, o_nlt, cT.1, cT.2, cW.1, cW.2]
        exact fin _ _ (Or.inr rfl) (Or.inr ⟨rfl, cW⟩)
      · simp (disch := first | omega | (simp (disch := omega) only [up_ne, up_same, up_nj] <;> omega) | fail) only [@g_4_0, @g_4_1, @g_4_2, @g_4_5, @g_4_8, @g_4_9, @g_4_12, @g_4_13, @g_4_14, @g_4_17, @g_4_19, @g_4_22, @g_4_23, @g_4_24, @g_4_27, @g_4_28, @g_4_29, @g_4_32, @g_4_33, @g_4_36, @g_4_37, @g_4_40, @g_4_41, @g_4_42, @g_4_43, @g_4_44, @g_4_47, @g_4_50, @g_4_51, @g_4_52, @g_4_55, @g_4_58, @g_4_59, @g_4_60, @g_4_63, @g_4_66, @g_4_67, @g_4_68, @g_4_71, @g_4_74, @g_4_77, @g_4_78, @g_4_81, @g_4_82, @g_4_85, @g_4_87, @g_4_88, @g_4_89, @g_4_90, @g_4_93, @g_4_96, @g_4_99, @g_4_100, @g_4_103, @g_4_104, @g_4_107, @g_4_108, @g_4_111, @g_4_112, @g_4_113, @g_4_116, @g_4_117, @g_4_120, @g_4_121, @h_4_121, @g_4_122, @g_4_123, @g_4_124, @g_4_125, @e_4, nlO_n, nlO_i, nlO_r, ret01_0, ret01_1, ret01_if, ret01_fi, true_and, Option.toList_some, Option.toList_none, List.cons_append, List.nil_append, ii_1, ii_0, ii_R, ij_1, ij_0, ij_R, ite_not, if_true, if_false, Int.one_ne_zero, one_e1, not_true_eq_false, not_false_eq_true, and_true, and_false, false_and, or_false, false_or, or_true, true_or, and_self, or_self, inr_n1000100, inr_n1000010, inr_n1000003, inr_n1000002, inr_n1000001, inr_n1000000, inr_n1, inr_0, inr_1, inr_2, inr_3, inr_4, inr_5, inr_6, inr_7, inr_8, inr_10, inr_11, inr_12, inr_13, inr_14, inr_15, inr_16, inr_20, inr_21, inr_22, inr_23, inr_24, inr_29, inr_30, inr_31, inr_32, inr_39, inr_40, inr_44, inr_48, inr_53, inr_54, inr_57, inr_59, inr_63, inr_97, inr_100, inr_101, inr_102, inr_104, inr_105, inr_106, inr_110, inr_112, inr_116, inr_120, inr_122, inr_144, inr_255, inr_256, inr_320, inr_552, inr_576, inr_999, inr_1000, inr_1023, inr_1024, inr_2048, inr_1000000, inr_252645135, inr_858993459, inr_1431655765, okO_2, okF_2_2, rfN_2_2, okF_2_4, rfN_2_4, okF_2_5, rfN_2_5, okF_2_6, rfN_2_6, okF_2_7, rfN_2_7, okF_2_9, rfN_2_9, okF_2_10, rfN_2_10, okA_6, lnN_6, okA_7, lnN_7, okA_9, lnN_9, okO_21, okF_21_0, rfN_21_0, lnN_22, hn2, elN_act, okE_act, okO_act, sp_17b, sp_16b, up_ne, up_same, up_nj, flI_ne, flI_in, flI_out, cpI_ne, cpI_in, cpI_out, o_R, o_le, o_lt, o_nlt, cT.1, cT.2, cW]
        exact fin _ _ (Or.inr rfl) (Or.inl ⟨rfl, cW⟩)
    · by_cases cW : 0 ≤ I (23 + e) 1 ∧ I (23 + e) 1 < I 2 3
      · simp (disch := first | omega | (simp (disch := omega) only [up_ne, up_same, up_nj] <;> omega) | fail) only [@g_4_0, @g_4_1, @g_4_2, @g_4_5, @g_4_8, @g_4_9, @g_4_12, @g_4_13, @g_4_14, @g_4_17, @g_4_19, @g_4_22, @g_4_23, @g_4_24, @g_4_27, @g_4_28, @g_4_29, @g_4_32, @g_4_33, @g_4_36, @g_4_37, @g_4_40, @g_4_41, @g_4_42, @g_4_43, @g_4_44, @g_4_47, @g_4_50, @g_4_51, @g_4_52, @g_4_55, @g_4_58, @g_4_59, @g_4_60, @g_4_63, @g_4_66, @g_4_67, @g_4_68, @g_4_71, @g_4_74, @g_4_77, @g_4_78, @g_4_81, @g_4_82, @g_4_85, @g_4_87, @g_4_88, @g_4_89, @g_4_90, @g_4_93, @g_4_96, @g_4_99, @g_4_100, @g_4_103, @g_4_104, @g_4_107, @g_4_108, @g_4_111, @g_4_112, @g_4_113, @g_4_116, @g_4_117, @g_4_120, @g_4_121, @h_4_121, @g_4_122, @g_4_123, @g_4_124, @g_4_125, @e_4, nlO_n, nlO_i, nlO_r, ret01_0, ret01_1, ret01_if, ret01_fi, true_and, Option.toList_some, Option.toList_none, List.cons_append, List.nil_append, ii_1, ii_0, ii_R, ij_1, ij_0, ij_R, ite_not, if_true, if_false, Int.one_ne_zero, one_e1, not_true_eq_false, not_false_eq_true, and_true, and_false, false_and, or_false, false_or, or_true, true_or, and_self, or_self, inr_n1000100, inr_n1000010, inr_n1000003, inr_n1000002, inr_n1000001, inr_n1000000, inr_n1, inr_0, inr_1, inr_2, inr_3, inr_4, inr_5, inr_6, inr_7, inr_8, inr_10, inr_11, inr_12, inr_13, inr_14, inr_15, inr_16, inr_20, inr_21, inr_22, inr_23, inr_24, inr_29, inr_30, inr_31, inr_32, inr_39, inr_40, inr_44, inr_48, inr_53, inr_54, inr_57, inr_59, inr_63, inr_97, inr_100, inr_101, inr_102, inr_104, inr_105, inr_106, inr_110, inr_112, inr_116, inr_120, inr_122, inr_144, inr_255, inr_256, inr_320, inr_552, inr_576, inr_999, inr_1000, inr_1023, inr_1024, inr_2048, inr_1000000, inr_252645135, inr_858993459, inr_1431655765, okO_2, okF_2_2, rfN_2_2, okF_2_4, rfN_2_4, okF_2_5, rfN_2_5, okF_2_6, rfN_2_6, okF_2_7, rfN_2_7, okF_2_9, rfN_2_9, okF_2_10, rfN_2_10, okA_6, lnN_6, okA_7, lnN_7, okA_9, lnN_9, okO_21, okF_21_0, rfN_21_0, lnN_22, hn2, elN_act, okE_act, okO_act, sp_17b, sp_16b, up_ne, up_same, up_nj, flI_ne, flI_in, flI_out, cpI_ne, cpI_in, cpI_out, o_R, o_le, o_lt, o_nlt, cT, cW.1, cW.2]
        exact fin _ _ (Or.inl ⟨rfl, cT⟩) (Or.inr ⟨rfl, cW⟩)
      · simp (disch := first | omega | (simp (disch := omega) only [up_ne, up_same, up_nj] <;> omega) | fail) only [@g_4_0, @g_4_1, @g_4_2, @g_4_5, @g_4_8, @g_4_9, @g_4_12, @g_4_13, @g_4_14, @g_4_17, @g_4_19, @g_4_22, @g_4_23, @g_4_24, @g_4_27, @g_4_28, @g_4_29, @g_4_32, @g_4_33, @g_4_36, @g_4_37, @g_4_40, @g_4_41, @g_4_42, @g_4_43, @g_4_44, @g_4_47, @g_4_50, @g_4_51, @g_4_52, @g_4_55, @g_4_58, @g_4_59, @g_4_60, @g_4_63, @g_4_66, @g_4_67, @g_4_68, @g_4_71, @g_4_74, @g_4_77, @g_4_78, @g_4_81, @g_4_82, @g_4_85, @g_4_87, @g_4_88, @g_4_89, @g_4_90, @g_4_93, @g_4_96, @g_4_99, @g_4_100, @g_4_103, @g_4_104, @g_4_107, @g_4_108, @g_4_111, @g_4_112, @g_4_113, @g_4_116, @g_4_117, @g_4_120, @g_4_121, @h_4_121, @g_4_122, @g_4_123, @g_4_124, @g_4_125, @e_4, nlO_n, nlO_i, nlO_r, ret01_0, ret01_1, ret01_if, ret01_fi, true_and, Option.toList_some, Option.toList_none, List.cons_append, List.nil_append, ii_1, ii_0, ii_R, ij_1, ij_0, ij_R, ite_not, if_true, if_false, Int.one_ne_zero, one_e1, not_true_eq_false, not_false_eq_true, and_true, and_false, false_and, or_false, false_or, or_true, true_or, and_self, or_self, inr_n1000100, inr_n1000010, inr_n1000003, inr_n1000002, inr_n1000001, inr_n1000000, inr_n1, inr_0, inr_1, inr_2, inr_3, inr_4, inr_5, inr_6, inr_7, inr_8, inr_10, inr_11, inr_12, inr_13, inr_14, inr_15, inr_16, inr_20, inr_21, inr_22, inr_23, inr_24, inr_29, inr_30, inr_31, inr_32, inr_39, inr_40, inr_44, inr_48, inr_53, inr_54, inr_57, inr_59, inr_63, inr_97, inr_100, inr_101, inr_102, inr_104, inr_105, inr_106, inr_110, inr_112, inr_116, inr_120, inr_122, inr_144, inr_255, inr_256, inr_320, inr_552, inr_576, inr_999, inr_1000, inr_1023, inr_1024, inr_2048, inr_1000000, inr_252645135, inr_858993459, inr_1431655765, okO_2, okF_2_2, rfN_2_2, okF_2_4, rfN_2_4, okF_2_5, rfN_2_5, okF_2_6, rfN_2_6, okF_2_7, rfN_2_7, okF_2_9, rfN_2_9, okF_2_10, rfN_2_10, okA_6, lnN_6, okA_7, lnN_7, okA_9, lnN_9, okO_21, okF_21_0, rfN_21_0, lnN_22, hn2, elN_act, okE_act, okO_act, sp_17b, sp_16b, up_ne, up_same, up_nj, flI_ne, flI_in, flI_out, cpI_ne, cpI_in, cpI_out, o_R, o_le, o_lt, o_nlt, cT, cW]
        exact fin _ _ (Or.inl ⟨rfl, cT⟩) (Or.inl ⟨rfl, cW⟩)
end
