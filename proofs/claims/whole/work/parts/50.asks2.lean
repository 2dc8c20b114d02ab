/-! ===== asks, follows, waits: the calls ===== -/
section
variable {x : RO} {d : Nat} {Q : QT} {I : MI} {J : MJ} {n : Nat}
/-- the class's hedge behind an asking -/
theorem sp_27 {B t w : Int} {g : HV} (H : ROK B I 2 g) (h0 : 0 ≤ t) (h1 : t < g 2) (h2 : 0 ≤ w) (h3 : w < g 1)
    (hq : ∀ I', Fr [2, 6, 7, 9] I I' → RHd I' 2 (askS g t w) → (∀ u : Int, I' 6 u = if u = w then g 29 else I 6 u) → Q none I' J) : EX x (d + 3) 27 [.inr (.inr (.inl 2)), .inl t, .inl w] I J Q := by
  have b1 := B_1 H.1
  have b2 := B_2 H.1
  have b29 := B_29 H.1
  have hk := B_w H.1 h2 h3
  have e3 := H_3 H
  have e8 := H_8 H
  have e11 := H_11 H
  have e12 := H_12 H
  have e13 := H_13 H
  obtain ⟨k1, k2, k3, k4⟩ := H_w H h2 h3
  have k1 : I 4 w = g (8 + w) := k1
  have k2 : I 5 w = g (16 + w) := k2
  have k4 : I 7 w = g (40 + w) := k4
  have fin : ∀ f hh : Int, f = g 31 + (if g (8 + w) = 2 then 1 else 0) → hh = g 29 + (if g (8 + w) = 5 then 2 else 1) → Q none (up (up (up (up (up (up I 9 t w) 6 w (g 29)) 7 w (g (40 + w) + 1)) 2 12 (g (16 + w))) 2 13 f) 2 11 hh) J := by
    intro f hh z1 z2
    refine hq _ (fun c hc => ?_) ⟨?_, ?_, ?_, ?_, ?_, ?_, fun hs => ⟨?_, fun k a b => ?_⟩, fun u a b => ?_, fun u a b => ?_⟩ (fun u => ?_)
    · simp only [List.mem_cons, List.not_mem_nil, or_false, not_or] at hc
      simp (disch := omega) only [up_ne]
    · simp (disch := omega) only [up_ne, up_same, up_nj, flI_ne, flI_in, flI_out, cpI_ne, cpI_in, cpI_out, aS_n]
      exact H_0 H
    · simp (disch := omega) only [up_ne, up_same, up_nj, flI_ne, flI_in, flI_out, cpI_ne, cpI_in, cpI_out, aS_n]
      exact H_3 H
    · simp (disch := omega) only [up_ne, up_same, up_nj, flI_ne, flI_in, flI_out, cpI_ne, cpI_in, cpI_out, aS_n]
      exact H_8 H
    · simp (disch := omega) only [up_ne, up_same, up_nj, flI_ne, flI_in, flI_out, cpI_ne, cpI_in, cpI_out, aS_29, z2]
    · simp (disch := omega) only [up_ne, up_same, up_nj, flI_ne, flI_in, flI_out, cpI_ne, cpI_in, cpI_out, aS_30]
    · simp (disch := omega) only [up_ne, up_same, up_nj, flI_ne, flI_in, flI_out, cpI_ne, cpI_in, cpI_out, aS_31, z1]
    · rw [aS_n (by omega)] at hs
      simp (disch := omega) only [up_ne, up_same, up_nj, flI_ne, flI_in, flI_out, cpI_ne, cpI_in, cpI_out, aS_n]
      exact H_1 H hs
    · rw [aS_n (by omega)] at hs
      simp (disch := omega) only [up_ne, up_same, up_nj, flI_ne, flI_in, flI_out, cpI_ne, cpI_in, cpI_out, aS_n]
      exact H_b H hs a b
    · rw [aS_n (by omega)] at b
      obtain ⟨m1, m2, m3, m4⟩ := H_w H a b
      refine ⟨?_, ?_, ?_, ?_⟩
      · simp (disch := omega) only [up_ne, up_same, up_nj, flI_ne, flI_in, flI_out, cpI_ne, cpI_in, cpI_out, aS_n]
        exact m1
      · simp (disch := omega) only [up_ne, up_same, up_nj, flI_ne, flI_in, flI_out, cpI_ne, cpI_in, cpI_out, aS_n]
        exact m2
      · by_cases hu : u = w
        · subst hu
          simp (disch := omega) only [up_ne, up_same, up_nj, flI_ne, flI_in, flI_out, cpI_ne, cpI_in, cpI_out, aS_32, enc_pos]
        · simp (disch := omega) only [up_ne, up_same, up_nj, flI_ne, flI_in, flI_out, cpI_ne, cpI_in, cpI_out, aS_n]
          exact m3
      · by_cases hu : u = w
        · subst hu
          simp (disch := omega) only [up_ne, up_same, up_nj, flI_ne, flI_in, flI_out, cpI_ne, cpI_in, cpI_out, aS_40]
        · simp (disch := omega) only [up_ne, up_same, up_nj, flI_ne, flI_in, flI_out, cpI_ne, cpI_in, cpI_out, aS_n]
          exact m4
    · rw [aS_n (by omega)] at b
      obtain ⟨m1, m2⟩ := H_t H a b
      refine ⟨?_, ?_⟩
      · simp (disch := omega) only [up_ne, up_same, up_nj, flI_ne, flI_in, flI_out, cpI_ne, cpI_in, cpI_out, aS_n]
        exact m1
      · by_cases hu : u = t
        · subst hu
          simp (disch := omega) only [up_ne, up_same, up_nj, flI_ne, flI_in, flI_out, cpI_ne, cpI_in, cpI_out, aS_48, enc_pos]
        · simp (disch := omega) only [up_ne, up_same, up_nj, flI_ne, flI_in, flI_out, cpI_ne, cpI_in, cpI_out, aS_n]
          exact m2
    · by_cases hu : u = w
      · subst hu
        simp (disch := omega) only [up_ne, up_same, up_nj, flI_ne, flI_in, flI_out, cpI_ne, cpI_in, cpI_out, if_true]
      · simp (disch := omega) only [up_ne, up_same, up_nj, flI_ne, flI_in, flI_out, cpI_ne, cpI_in, cpI_out, hu, if_false]
  simp (disch := first | omega | (simp (disch := omega) only [up_ne, up_same, up_nj] <;> omega) | fail) only [@g_27_0, @g_27_1, @g_27_2, @g_27_5, @g_27_8, @g_27_9, @g_27_10, @g_27_13, @g_27_16, @g_27_17, @g_27_18, @g_27_21, @g_27_22, @g_27_23, @g_27_24, @g_27_25, @g_27_28, @g_27_29, @g_27_30, @g_27_33, @g_27_34, @g_27_35, @g_27_38, @g_27_39, @g_27_40, @h_27_40, @g_27_41, @g_27_42, @g_27_43, @g_27_44, @g_27_45, @g_27_46, @g_27_49, @g_27_50, @h_27_50, @g_27_51, @g_27_54, @g_27_55, @g_27_56, @g_27_59, @g_27_60, @g_27_61, @g_27_64, @g_27_65, @g_27_68, @g_27_69, @g_27_70, @g_27_73, @g_27_74, @g_27_75, @g_27_78, @g_27_79, @g_27_82, @e_27, nlO_n, nlO_i, nlO_r, ret01_0, ret01_1, ret01_if, ret01_fi, true_and, Option.toList_some, Option.toList_none, List.cons_append, List.nil_append, ii_1, ii_0, ii_R, ij_1, ij_0, ij_R, ite_not, if_true, if_false, Int.one_ne_zero, one_e1, not_true_eq_false, not_false_eq_true, and_true, and_false, false_and, or_false, false_or, or_true, true_or, and_self, or_self, inr_n1000100, inr_n1000010, inr_n1000003, inr_n1000002, inr_n1000001, inr_n1000000, inr_n1, inr_0, inr_1, inr_2, inr_3, inr_4, inr_5, inr_6, inr_7, inr_8, inr_10, inr_11, inr_12, inr_13, inr_14, inr_15, inr_16, inr_20, inr_21, inr_22, inr_23, inr_24, inr_29, inr_30, inr_31, inr_32, inr_39, inr_40, inr_44, inr_48, inr_53, inr_54, inr_57, inr_59, inr_63, inr_97, inr_100, inr_101, inr_102, inr_104, inr_105, inr_106, inr_110, inr_112, inr_116, inr_120, inr_122, inr_144, inr_255, inr_256, inr_320, inr_552, inr_576, inr_999, inr_1000, inr_1023, inr_1024, inr_2048, inr_1000000, inr_252645135, inr_858993459, inr_1431655765, okO_2, okF_2_2, rfN_2_2, okF_2_4, rfN_2_4, okF_2_5, rfN_2_5, okF_2_6, rfN_2_6, okF_2_7, rfN_2_7, okF_2_9, rfN_2_9, okF_2_10, rfN_2_10, okA_3, lnN_3, okA_4, lnN_4, okA_5, lnN_5, okA_6, lnN_6, okA_7, lnN_7, okA_8, lnN_8, okA_9, lnN_9, sp_17y H h0 h1, sp_16y H h2 h3, sp_26b, sp_25b, up_ne, up_same, up_nj, flI_ne, flI_in, flI_out, cpI_ne, cpI_in, cpI_out, o_R, o_le, o_lt, e11, e13, k1, k2, k4]
  exact fin _ _ rfl rfl
theorem sp_28 {B t : Int} {g : HV} (H : ROK B I 2 g) (h0 : 0 ≤ t) (h1 : t < g 2)
    (hq : ∀ I', Fr [2, 9] I I' → RHd I' 2 (folS g t) → Q none I' J) : EX x (d + 3) 28 [.inr (.inr (.inl 2)), .inl t] I J Q := by
  have b1 := B_1 H.1
  have b2 := B_2 H.1
  have e11 := H_11 H
  have e13 := H_13 H
  simp (disch := first | omega | (simp (disch := omega) only [up_ne, up_same, up_nj] <;> omega) | fail) only [@g_28_0, @g_28_1, @g_28_2, @g_28_5, @g_28_8, @g_28_9, @g_28_10, @g_28_13, @g_28_14, @g_28_16, @g_28_17, @g_28_18, @g_28_19, @g_28_22, @g_28_23, @g_28_24, @g_28_27, @g_28_28, @g_28_29, @g_28_32, @g_28_33, @g_28_34, @g_28_37, @e_28, nlO_n, nlO_i, nlO_r, ret01_0, ret01_1, ret01_if, ret01_fi, true_and, Option.toList_some, Option.toList_none, List.cons_append, List.nil_append, ii_1, ii_0, ii_R, ij_1, ij_0, ij_R, ite_not, if_true, if_false, Int.one_ne_zero, one_e1, not_true_eq_false, not_false_eq_true, and_true, and_false, false_and, or_false, false_or, or_true, true_or, and_self, or_self, inr_n1000100, inr_n1000010, inr_n1000003, inr_n1000002, inr_n1000001, inr_n1000000, inr_n1, inr_0, inr_1, inr_2, inr_3, inr_4, inr_5, inr_6, inr_7, inr_8, inr_10, inr_11, inr_12, inr_13, inr_14, inr_15, inr_16, inr_20, inr_21, inr_22, inr_23, inr_24, inr_29, inr_30, inr_31, inr_32, inr_39, inr_40, inr_44, inr_48, inr_53, inr_54, inr_57, inr_59, inr_63, inr_97, inr_100, inr_101, inr_102, inr_104, inr_105, inr_106, inr_110, inr_112, inr_116, inr_120, inr_122, inr_144, inr_255, inr_256, inr_320, inr_552, inr_576, inr_999, inr_1000, inr_1023, inr_1024, inr_2048, inr_1000000, inr_252645135, inr_858993459, inr_1431655765, okO_2, okF_2_2, rfN_2_2, okF_2_4, rfN_2_4, okF_2_5, rfN_2_5, okF_2_6, rfN_2_6, okF_2_7, rfN_2_7, okF_2_9, rfN_2_9, okF_2_10, rfN_2_10, okA_3, lnN_3, okA_4, lnN_4, okA_5, lnN_5, okA_6, lnN_6, okA_7, lnN_7, okA_8, lnN_8, okA_9, lnN_9, sp_17y H h0 h1, up_ne, up_same, up_nj, flI_ne, flI_in, flI_out, cpI_ne, cpI_in, cpI_out, o_R, o_le, o_lt, e11, e13]
  refine hq _ (fun c hc => ?_) ⟨?_, ?_, ?_, ?_, ?_, ?_, fun hs => ⟨?_, fun k a b => ?_⟩, fun u a b => ?_, fun u a b => ?_⟩
  · simp only [List.mem_cons, List.not_mem_nil, or_false, not_or] at hc
    simp (disch := omega) only [up_ne]
  · simp (disch := omega) only [up_ne, up_same, up_nj, flI_ne, flI_in, flI_out, cpI_ne, cpI_in, cpI_out, fS_n]
    exact H_0 H
  · simp (disch := omega) only [up_ne, up_same, up_nj, flI_ne, flI_in, flI_out, cpI_ne, cpI_in, cpI_out, fS_n]
    exact H_3 H
  · simp (disch := omega) only [up_ne, up_same, up_nj, flI_ne, flI_in, flI_out, cpI_ne, cpI_in, cpI_out, fS_n]
    exact H_8 H
  · simp (disch := omega) only [up_ne, up_same, up_nj, flI_ne, flI_in, flI_out, cpI_ne, cpI_in, cpI_out, fS_29]
  · simp (disch := omega) only [up_ne, up_same, up_nj, flI_ne, flI_in, flI_out, cpI_ne, cpI_in, cpI_out, fS_n]
    exact H_12 H
  · simp (disch := omega) only [up_ne, up_same, up_nj, flI_ne, flI_in, flI_out, cpI_ne, cpI_in, cpI_out, fS_31]
  · rw [fS_n (by omega)] at hs
    simp (disch := omega) only [up_ne, up_same, up_nj, flI_ne, flI_in, flI_out, cpI_ne, cpI_in, cpI_out, fS_n]
    exact H_1 H hs
  · rw [fS_n (by omega)] at hs
    simp (disch := omega) only [up_ne, up_same, up_nj, flI_ne, flI_in, flI_out, cpI_ne, cpI_in, cpI_out, fS_n]
    exact H_b H hs a b
  · rw [fS_n (by omega)] at b
    obtain ⟨m1, m2, m3, m4⟩ := H_w H a b
    refine ⟨?_, ?_, ?_, ?_⟩
    · simp (disch := omega) only [up_ne, up_same, up_nj, flI_ne, flI_in, flI_out, cpI_ne, cpI_in, cpI_out, fS_n]
      exact m1
    · simp (disch := omega) only [up_ne, up_same, up_nj, flI_ne, flI_in, flI_out, cpI_ne, cpI_in, cpI_out, fS_n]
      exact m2
    · simp (disch := omega) only [up_ne, up_same, up_nj, flI_ne, flI_in, flI_out, cpI_ne, cpI_in, cpI_out, fS_n]
      exact m3
    · simp (disch := omega) only [up_ne, up_same, up_nj, flI_ne, flI_in, flI_out, cpI_ne, cpI_in, cpI_out, fS_n]
      exact m4
  · rw [fS_n (by omega)] at b
    obtain ⟨m1, m2⟩ := H_t H a b
    refine ⟨?_, ?_⟩
    · simp (disch := omega) only [up_ne, up_same, up_nj, flI_ne, flI_in, flI_out, cpI_ne, cpI_in, cpI_out, fS_n]
      exact m1
    · by_cases hu : u = t
      · subst hu
        simp (disch := omega) only [up_ne, up_same, up_nj, flI_ne, flI_in, flI_out, cpI_ne, cpI_in, cpI_out, fS_48, enc_pos]
      · simp (disch := omega) only [up_ne, up_same, up_nj, flI_ne, flI_in, flI_out, cpI_ne, cpI_in, cpI_out, fS_n]
        exact m2
end
