/-! ===== the text: the class reads words and travellers ===== -/
/-- a hedge just read -/
def DW (s : HV) : Prop := WTo s ∧ s 0 = 1 ∧ ∀ i : Int, 29 ≤ i → i < 53 → s i = empI i
theorem DW_ok {B : Int} {s : HV} (h : DW s) (h0 : 0 ≤ B) (h1 : B ≤ 100000) : MOK B s := by
  obtain ⟨w, -, e⟩ := h
  have b1 : s 1 ≤ 8 := w.2.2.1
  have b2 : s 2 ≤ 5 := w.2.2.2.2.1
  have e1 : empI 29 = 0 := rfl
  have e2 : empI 30 = -1 := rfl
  have e3 : empI 31 = 0 := rfl
  refine ⟨w, ⟨?_, ?_, ?_, ?_, ?_, ?_, fun k a b => ?_, fun t a b => ?_⟩, h1⟩
  · rw [e 29 (by omega) (by omega), e1]; omega
  · rw [e 29 (by omega) (by omega), e1]; exact h0
  · rw [e 30 (by omega) (by omega), e2]; omega
  · rw [e 30 (by omega) (by omega), e2]; omega
  · rw [e 31 (by omega) (by omega), e3]; omega
  · rw [e 31 (by omega) (by omega), e3]; exact (nPas_le _ _).1
  · rw [e (32 + k) (by omega) (by omega), e (40 + k) (by omega) (by omega)]
    unfold empI
    rw [if_pos (by omega), if_neg (by omega)]
    omega
  · rw [e (48 + t) (by omega) (by omega)]
    unfold empI
    rw [if_pos (by omega)]
    omega
def addW (s : HV) (k v : Int) : HV := sv (sv (sv s (8 + s 1) k) (16 + s 1) v) 1 (s 1 + 1)
def addT (s : HV) (v : Int) : HV := sv (sv s (24 + s 2) v) 2 (s 2 + 1)
theorem DW_W {s : HV} {k v : Int} (h : DW s) (h1 : s 1 < 8) (h2 : s 2 = 0) (k0 : 1 ≤ k) (k1 : k ≤ 5) (v0 : 0 ≤ v) (v1 : v ≤ 3) : DW (addW s k v) := by
  obtain ⟨⟨w1, w2, w3, w4, w5, w6, w7, w8, w9⟩, z, e⟩ := h
  have n : ∀ i : Int, i ≠ 1 → i ≠ 8 + s 1 → i ≠ 16 + s 1 → addW s k v i = s i := fun i a1 a2 a3 => by unfold addW; rw [sv_n a1, sv_n a3, sv_n a2]
  have e1 : addW s k v 1 = s 1 + 1 := sv_s
  have e8 : addW s k v (8 + s 1) = k := by unfold addW; rw [sv_n (by omega), sv_n (by omega), sv_s]
  have e16 : addW s k v (16 + s 1) = v := by unfold addW; rw [sv_n (by omega), sv_s]
  have n0 := n 0 (by omega) (by omega) (by omega)
  have n2 := n 2 (by omega) (by omega) (by omega)
  have n3 := n 3 (by omega) (by omega) (by omega)
  refine ⟨⟨?_, ?_, ?_, ?_, ?_, ?_, ?_, fun w a b => ?_, fun t a b => ?_⟩, ?_, fun i a b => ?_⟩
  · rw [n0]; exact w1
  · rw [e1]; omega
  · rw [e1]; omega
  · rw [n2]; exact w4
  · rw [n2]; exact w5
  · rw [n0, z]; omega
  · rw [n0, n3]
    intro hq
    obtain ⟨z1, z2, z3⟩ := w7 hq
    exact ⟨z1, z2, fun k2 a b => by rw [n _ (by omega) (by omega) (by omega)]; exact z3 k2 a b⟩
  · rw [e1] at b
    by_cases hw : w = s 1
    · rw [hw, e8, e16]; omega
    · rw [n _ (by omega) (by omega) (by omega), n _ (by omega) (by omega) (by omega)]
      exact w8 w a (by omega)
  · rw [n2] at b; omega
  · rw [n0]; exact z
  · rw [n i (by omega) (by omega) (by omega)]; exact e i a b
theorem DW_T {s : HV} {v : Int} (h : DW s) (h2 : s 2 < 5) (v0 : 1 ≤ v) (v1 : v < 2 ^ (s 1).toNat) : DW (addT s v) := by
  obtain ⟨⟨w1, w2, w3, w4, w5, w6, w7, w8, w9⟩, z, e⟩ := h
  have n : ∀ i : Int, i ≠ 2 → i ≠ 24 + s 2 → addT s v i = s i := fun i a1 a2 => by unfold addT; rw [sv_n a1, sv_n a2]
  have e2 : addT s v 2 = s 2 + 1 := sv_s
  have e24 : addT s v (24 + s 2) = v := by unfold addT; rw [sv_n (by omega), sv_s]
  have n0 := n 0 (by omega) (by omega)
  have n1 := n 1 (by omega) (by omega)
  have n3 := n 3 (by omega) (by omega)
  refine ⟨⟨?_, ?_, ?_, ?_, ?_, ?_, ?_, fun w a b => ?_, fun t a b => ?_⟩, ?_, fun i a b => ?_⟩
  · rw [n0]; exact w1
  · rw [n1]; exact w2
  · rw [n1]; exact w3
  · rw [e2]; omega
  · rw [e2]; omega
  · rw [n0, z]; omega
  · rw [n0, n3]
    intro hq
    obtain ⟨z1, z2, z3⟩ := w7 hq
    exact ⟨z1, z2, fun k2 a b => by rw [n _ (by omega) (by omega)]; exact z3 k2 a b⟩
  · rw [n1] at b
    rw [n _ (by omega) (by omega), n _ (by omega) (by omega)]
    exact w8 w a b
  · rw [e2] at b
    rw [n1]
    by_cases ht : t = s 2
    · rw [ht, e24]; exact ⟨v0, v1⟩
    · rw [n _ (by omega) (by omega)]
      exact w9 t a (by omega)
  · rw [n0]; exact z
  · rw [n i (by omega) (by omega)]; exact e i a b
theorem pM_s {b : HV} {len a : Int} {m : Nat} {s : HV} : pM b len (m + 1) a s = if len ≤ a then .inr (a, s) else if b a = 116 then (if s 2 = 5 then .inl (3, a) else match pOne b len (a + 1) 1 (shlI 1 (s 1) - 1) with
    | .inl e => .inl e
    | .inr q => pM b len m q.1 (addT s q.2))
    else if kol (b a) = 0 ∨ 0 < s 2 then .inl (1, a) else if s 1 = 8 then .inl (3, a) else match pOne b len (a + 1) 0 3 with
      | .inl e => .inl e
      | .inr q => pM b len m q.1 (addW s (kol (b a)) q.2) := rfl
section
variable {x : RO} {d : Nat} {Q : QT} {I I0 : MI} {J : MJ} {n : Nat} {b : HV} {len a : Int}
def CS (I0 I : MI) (len a : Int) (s : HV) : Prop := Kp I0 I ∧ I 19 2 = 1 ∧ I 19 1 = a ∧ 0 ≤ a ∧ a ≤ len ∧ RHd I 10 s ∧ DW s
theorem sp_13 {k v w : Int} (h : I 10 3 = w) (w0 : 0 ≤ w) (w1 : w < 8) : EX x (d + 1) 13 [.inr (.inr (.inl 10)), .inl k, .inl v] I J Q = Q none (up (up (up (up (up I 12 w k) 13 w v) 14 w (-1000000)) 15 w 0) 10 3 (w + 1)) J := by
  simp (disch := omega) only [@g_13_0, @g_13_1, @g_13_4, @g_13_7, @g_13_8, @g_13_11, @g_13_13, @g_13_16, @g_13_17, @g_13_18, @g_13_21, @g_13_22, @g_13_25, @g_13_26, @g_13_27, @g_13_28, @g_13_31, @g_13_32, @g_13_35, @g_13_36, @g_13_37, @g_13_38, @g_13_41, @g_13_42, @g_13_45, @g_13_47, @g_13_48, @g_13_49, @g_13_52, @g_13_53, @g_13_56, @g_13_57, @g_13_58, @g_13_59, @g_13_60, @g_13_63, @g_13_64, @g_13_65, @g_13_68, @e_13, nlO_n, nlO_i, nlO_r, ret01_0, ret01_1, ret01_if, ret01_fi, true_and, Option.toList_some, Option.toList_none, List.cons_append, List.nil_append, ii_1, ii_0, ii_R, ij_1, ij_0, ij_R, ite_not, if_true, if_false, Int.one_ne_zero, one_e1, not_true_eq_false, not_false_eq_true, and_true, and_false, false_and, or_false, false_or, or_true, true_or, and_self, or_self, inr_n1000100, inr_n1000010, inr_n1000003, inr_n1000002, inr_n1000001, inr_n1000000, inr_n1, inr_0, inr_1, inr_2, inr_3, inr_4, inr_5, inr_6, inr_7, inr_8, inr_10, inr_11, inr_12, inr_13, inr_14, inr_15, inr_16, inr_20, inr_21, inr_22, inr_23, inr_24, inr_29, inr_30, inr_31, inr_32, inr_39, inr_40, inr_44, inr_48, inr_53, inr_54, inr_57, inr_59, inr_63, inr_97, inr_100, inr_101, inr_102, inr_104, inr_105, inr_106, inr_110, inr_112, inr_116, inr_120, inr_122, inr_144, inr_255, inr_256, inr_320, inr_552, inr_576, inr_999, inr_1000, inr_1023, inr_1024, inr_2048, inr_1000000, inr_252645135, inr_858993459, inr_1431655765, okO_10, okF_10_2, rfN_10_2, okF_10_4, rfN_10_4, okF_10_5, rfN_10_5, okF_10_6, rfN_10_6, okF_10_7, rfN_10_7, okF_10_9, rfN_10_9, okF_10_10, rfN_10_10, okA_11, lnN_11, okA_12, lnN_12, okA_13, lnN_13, okA_14, lnN_14, okA_15, lnN_15, okA_16, lnN_16, okA_17, lnN_17, o_R, o_le, o_lt, o_nlt, o_nle, o_eq, o_ne, h, up_ne, up_same, up_nj, flI_ne, flI_in, flI_out, cpI_ne, cpI_in, cpI_out]
theorem sp_14 {v w : Int} (h : I 10 8 = w) (w0 : 0 ≤ w) (w1 : w < 5) : EX x (d + 1) 14 [.inr (.inr (.inl 10)), .inl v] I J Q = Q none (up (up (up I 16 w v) 17 w (-1000000)) 10 8 (w + 1)) J := by
  simp (disch := omega) only [@g_14_0, @g_14_1, @g_14_4, @g_14_7, @g_14_8, @g_14_11, @g_14_12, @g_14_15, @g_14_16, @g_14_17, @g_14_20, @g_14_21, @g_14_24, @g_14_25, @g_14_26, @g_14_27, @g_14_30, @g_14_31, @g_14_34, @g_14_36, @g_14_37, @g_14_38, @g_14_39, @g_14_42, @g_14_43, @g_14_44, @g_14_47, @e_14, nlO_n, nlO_i, nlO_r, ret01_0, ret01_1, ret01_if, ret01_fi, true_and, Option.toList_some, Option.toList_none, List.cons_append, List.nil_append, ii_1, ii_0, ii_R, ij_1, ij_0, ij_R, ite_not, if_true, if_false, Int.one_ne_zero, one_e1, not_true_eq_false, not_false_eq_true, and_true, and_false, false_and, or_false, false_or, or_true, true_or, and_self, or_self, inr_n1000100, inr_n1000010, inr_n1000003, inr_n1000002, inr_n1000001, inr_n1000000, inr_n1, inr_0, inr_1, inr_2, inr_3, inr_4, inr_5, inr_6, inr_7, inr_8, inr_10, inr_11, inr_12, inr_13, inr_14, inr_15, inr_16, inr_20, inr_21, inr_22, inr_23, inr_24, inr_29, inr_30, inr_31, inr_32, inr_39, inr_40, inr_44, inr_48, inr_53, inr_54, inr_57, inr_59, inr_63, inr_97, inr_100, inr_101, inr_102, inr_104, inr_105, inr_106, inr_110, inr_112, inr_116, inr_120, inr_122, inr_144, inr_255, inr_256, inr_320, inr_552, inr_576, inr_999, inr_1000, inr_1023, inr_1024, inr_2048, inr_1000000, inr_252645135, inr_858993459, inr_1431655765, okO_10, okF_10_2, rfN_10_2, okF_10_4, rfN_10_4, okF_10_5, rfN_10_5, okF_10_6, rfN_10_6, okF_10_7, rfN_10_7, okF_10_9, rfN_10_9, okF_10_10, rfN_10_10, okA_11, lnN_11, okA_12, lnN_12, okA_13, lnN_13, okA_14, lnN_14, okA_15, lnN_15, okA_16, lnN_16, okA_17, lnN_17, o_R, o_le, o_lt, o_nlt, o_nle, o_eq, o_ne, h, up_ne, up_same, up_nj, flI_ne, flI_in, flI_out, cpI_ne, cpI_in, cpI_out]
theorem sp_14n {v : Int} (h : I 10 8 = 5) : EX x (d + 1) 14 [.inr (.inr (.inl 10)), .inl v] I J Q = Q none I J := by
  simp (disch := omega) only [@g_14_0, @g_14_1, @g_14_4, @g_14_7, @g_14_8, @g_14_11, @g_14_12, @g_14_15, @g_14_16, @g_14_17, @g_14_20, @g_14_21, @g_14_24, @g_14_25, @g_14_26, @g_14_27, @g_14_30, @g_14_31, @g_14_34, @g_14_36, @g_14_37, @g_14_38, @g_14_39, @g_14_42, @g_14_43, @g_14_44, @g_14_47, @e_14, nlO_n, nlO_i, nlO_r, ret01_0, ret01_1, ret01_if, ret01_fi, true_and, Option.toList_some, Option.toList_none, List.cons_append, List.nil_append, ii_1, ii_0, ii_R, ij_1, ij_0, ij_R, ite_not, if_true, if_false, Int.one_ne_zero, one_e1, not_true_eq_false, not_false_eq_true, and_true, and_false, false_and, or_false, false_or, or_true, true_or, and_self, or_self, inr_n1000100, inr_n1000010, inr_n1000003, inr_n1000002, inr_n1000001, inr_n1000000, inr_n1, inr_0, inr_1, inr_2, inr_3, inr_4, inr_5, inr_6, inr_7, inr_8, inr_10, inr_11, inr_12, inr_13, inr_14, inr_15, inr_16, inr_20, inr_21, inr_22, inr_23, inr_24, inr_29, inr_30, inr_31, inr_32, inr_39, inr_40, inr_44, inr_48, inr_53, inr_54, inr_57, inr_59, inr_63, inr_97, inr_100, inr_101, inr_102, inr_104, inr_105, inr_106, inr_110, inr_112, inr_116, inr_120, inr_122, inr_144, inr_255, inr_256, inr_320, inr_552, inr_576, inr_999, inr_1000, inr_1023, inr_1024, inr_2048, inr_1000000, inr_252645135, inr_858993459, inr_1431655765, okO_10, okF_10_2, rfN_10_2, okF_10_4, rfN_10_4, okF_10_5, rfN_10_5, okF_10_6, rfN_10_6, okF_10_7, rfN_10_7, okF_10_9, rfN_10_9, okF_10_10, rfN_10_10, okA_11, lnN_11, okA_12, lnN_12, okA_13, lnN_13, okA_14, lnN_14, okA_15, lnN_15, okA_16, lnN_16, okA_17, lnN_17, o_R, o_le, o_lt, o_nlt, o_nle, o_eq, o_ne, h]
theorem Kp_W {w k v : Int} : Kp I (up (up (up (up (up I 12 w k) 13 w v) 14 w (-1000000)) 15 w 0) 10 3 (w + 1)) := Kp_trans (Kp_trans (Kp_trans (Kp_trans (Kp_up (by omega)) (Kp_up (by omega))) Kp_14) (Kp_up (by omega))) (Kp_up (by omega))
theorem Kp_T {w v : Int} : Kp I (up (up (up I 16 w v) 17 w (-1000000)) 10 8 (w + 1)) := Kp_trans (Kp_trans (Kp_up (by omega)) (Kp_up (by omega))) (Kp_up (by omega))
theorem RHd_W {s : HV} {k v : Int} (h : DW s) (R : RHd I 10 s) (h1 : s 1 < 8) (h2 : s 2 = 0) : RHd (up (up (up (up (up I 12 (s 1) k) 13 (s 1) v) 14 (s 1) (-1000000)) 15 (s 1) 0) 10 3 (s 1 + 1)) 10 (addW s k v) := by
  have s0 := h.1.2.1
  have he := h.2.2
  obtain ⟨r1, r2, r3, r4, r5, r6, r7, r8, r9⟩ := R
  have n : ∀ i : Int, i ≠ 1 → i ≠ 8 + s 1 → i ≠ 16 + s 1 → addW s k v i = s i := fun i a1 a2 a3 => by unfold addW; rw [sv_n a1, sv_n a3, sv_n a2]
  have e1 : addW s k v 1 = s 1 + 1 := sv_s
  have e8 : addW s k v (8 + s 1) = k := by unfold addW; rw [sv_n (by omega), sv_n (by omega), sv_s]
  have e16 : addW s k v (16 + s 1) = v := by unfold addW; rw [sv_n (by omega), sv_s]
  refine ⟨?_, ?_, ?_, ?_, ?_, ?_, fun hq => ⟨?_, fun c a b => ?_⟩, fun w a b => ?_, fun t a b => ?_⟩
  · simp (disch := omega) only [up_ne, up_same, up_nj, flI_ne, flI_in, flI_out, cpI_ne, cpI_in, cpI_out, n]; exact r1
  · simp (disch := omega) only [up_ne, up_same, up_nj, flI_ne, flI_in, flI_out, cpI_ne, cpI_in, cpI_out, e1]
  · simp (disch := omega) only [up_ne, up_same, up_nj, flI_ne, flI_in, flI_out, cpI_ne, cpI_in, cpI_out, n]; exact r3
  · simp (disch := omega) only [up_ne, up_same, up_nj, flI_ne, flI_in, flI_out, cpI_ne, cpI_in, cpI_out, n]; exact r4
  · simp (disch := omega) only [up_ne, up_same, up_nj, flI_ne, flI_in, flI_out, cpI_ne, cpI_in, cpI_out, n]; exact r5
  · simp (disch := omega) only [up_ne, up_same, up_nj, flI_ne, flI_in, flI_out, cpI_ne, cpI_in, cpI_out, n]; exact r6
  · rw [n 0 (by omega) (by omega) (by omega)] at hq
    simp (disch := omega) only [up_ne, up_same, up_nj, flI_ne, flI_in, flI_out, cpI_ne, cpI_in, cpI_out, n]; exact (r7 hq).1
  · rw [n 0 (by omega) (by omega) (by omega)] at hq
    simp (disch := omega) only [up_ne, up_same, up_nj, flI_ne, flI_in, flI_out, cpI_ne, cpI_in, cpI_out, n]; exact (r7 hq).2 c a b
  · rw [e1] at b
    by_cases hw : w = s 1
    · rw [hw]
      have q1 := he (32 + s 1) (by omega) (by omega)
      have q2 := he (40 + s 1) (by omega) (by omega)
      have x1 : empI (32 + s 1) = -1 := by unfold empI; rw [if_pos (by omega)]
      have x2 : empI (40 + s 1) = 0 := by unfold empI; rw [if_neg (by omega)]
      refine ⟨?_, ?_, ?_, ?_⟩
      · simp (disch := omega) only [up_ne, up_same, up_nj, flI_ne, flI_in, flI_out, cpI_ne, cpI_in, cpI_out, e8]
      · simp (disch := omega) only [up_ne, up_same, up_nj, flI_ne, flI_in, flI_out, cpI_ne, cpI_in, cpI_out, e16]
      · simp (disch := omega) only [up_ne, up_same, up_nj, flI_ne, flI_in, flI_out, cpI_ne, cpI_in, cpI_out, n]
        rw [q1, x1]; rfl
      · simp (disch := omega) only [up_ne, up_same, up_nj, flI_ne, flI_in, flI_out, cpI_ne, cpI_in, cpI_out, n]
        rw [q2, x2]
    · obtain ⟨m1, m2, m3, m4⟩ := r8 w a (by omega)
      refine ⟨?_, ?_, ?_, ?_⟩
      · simp (disch := omega) only [up_ne, up_same, up_nj, flI_ne, flI_in, flI_out, cpI_ne, cpI_in, cpI_out, n]; exact m1
      · simp (disch := omega) only [up_ne, up_same, up_nj, flI_ne, flI_in, flI_out, cpI_ne, cpI_in, cpI_out, n]; exact m2
      · simp (disch := omega) only [up_ne, up_same, up_nj, flI_ne, flI_in, flI_out, cpI_ne, cpI_in, cpI_out, n]; exact m3
      · simp (disch := omega) only [up_ne, up_same, up_nj, flI_ne, flI_in, flI_out, cpI_ne, cpI_in, cpI_out, n]; exact m4
  · rw [n 2 (by omega) (by omega) (by omega)] at b
    omega
theorem RHd_T {s : HV} {v : Int} (h : DW s) (R : RHd I 10 s) (h2 : s 2 < 5) : RHd (up (up (up I 16 (s 2) v) 17 (s 2) (-1000000)) 10 8 (s 2 + 1)) 10 (addT s v) := by
  have s0 := h.1.2.1
  have s1 := h.1.2.2.1
  have s2 := h.1.2.2.2.1
  have he := h.2.2
  obtain ⟨r1, r2, r3, r4, r5, r6, r7, r8, r9⟩ := R
  have n : ∀ i : Int, i ≠ 2 → i ≠ 24 + s 2 → addT s v i = s i := fun i a1 a2 => by unfold addT; rw [sv_n a1, sv_n a2]
  have e2 : addT s v 2 = s 2 + 1 := sv_s
  have e24 : addT s v (24 + s 2) = v := by unfold addT; rw [sv_n (by omega), sv_s]
  refine ⟨?_, ?_, ?_, ?_, ?_, ?_, fun hq => ⟨?_, fun c a b => ?_⟩, fun w a b => ?_, fun t a b => ?_⟩
  · simp (disch := omega) only [up_ne, up_same, up_nj, flI_ne, flI_in, flI_out, cpI_ne, cpI_in, cpI_out, n]; exact r1
  · simp (disch := omega) only [up_ne, up_same, up_nj, flI_ne, flI_in, flI_out, cpI_ne, cpI_in, cpI_out, n]; exact r2
  · simp (disch := omega) only [up_ne, up_same, up_nj, flI_ne, flI_in, flI_out, cpI_ne, cpI_in, cpI_out, e2]
  · simp (disch := omega) only [up_ne, up_same, up_nj, flI_ne, flI_in, flI_out, cpI_ne, cpI_in, cpI_out, n]; exact r4
  · simp (disch := omega) only [up_ne, up_same, up_nj, flI_ne, flI_in, flI_out, cpI_ne, cpI_in, cpI_out, n]; exact r5
  · simp (disch := omega) only [up_ne, up_same, up_nj, flI_ne, flI_in, flI_out, cpI_ne, cpI_in, cpI_out, n]; exact r6
  · rw [n 0 (by omega) (by omega)] at hq
    simp (disch := omega) only [up_ne, up_same, up_nj, flI_ne, flI_in, flI_out, cpI_ne, cpI_in, cpI_out, n]; exact (r7 hq).1
  · rw [n 0 (by omega) (by omega)] at hq
    simp (disch := omega) only [up_ne, up_same, up_nj, flI_ne, flI_in, flI_out, cpI_ne, cpI_in, cpI_out, n]; exact (r7 hq).2 c a b
  · rw [n 1 (by omega) (by omega)] at b
    obtain ⟨m1, m2, m3, m4⟩ := r8 w a b
    refine ⟨?_, ?_, ?_, ?_⟩
    · simp (disch := omega) only [up_ne, up_same, up_nj, flI_ne, flI_in, flI_out, cpI_ne, cpI_in, cpI_out, n]; exact m1
    · simp (disch := omega) only [up_ne, up_same, up_nj, flI_ne, flI_in, flI_out, cpI_ne, cpI_in, cpI_out, n]; exact m2
    · simp (disch := omega) only [up_ne, up_same, up_nj, flI_ne, flI_in, flI_out, cpI_ne, cpI_in, cpI_out, n]; exact m3
    · simp (disch := omega) only [up_ne, up_same, up_nj, flI_ne, flI_in, flI_out, cpI_ne, cpI_in, cpI_out, n]; exact m4
  · rw [e2] at b
    by_cases ht : t = s 2
    · rw [ht]
      have q1 := he (48 + s 2) (by omega) (by omega)
      have x1 : empI (48 + s 2) = -1 := by unfold empI; rw [if_pos (by omega)]
      refine ⟨?_, ?_⟩
      · simp (disch := omega) only [up_ne, up_same, up_nj, flI_ne, flI_in, flI_out, cpI_ne, cpI_in, cpI_out, e24]
      · simp (disch := omega) only [up_ne, up_same, up_nj, flI_ne, flI_in, flI_out, cpI_ne, cpI_in, cpI_out, n]
        rw [q1, x1]; rfl
    · obtain ⟨m1, m2⟩ := r9 t a (by omega)
      refine ⟨?_, ?_⟩
      · simp (disch := omega) only [up_ne, up_same, up_nj, flI_ne, flI_in, flI_out, cpI_ne, cpI_in, cpI_out, n]; exact m1
      · simp (disch := omega) only [up_ne, up_same, up_nj, flI_ne, flI_in, flI_out, cpI_ne, cpI_in, cpI_out, n]; exact m2
theorem RHd_19 {s : HV} {j v : Int} (R : RHd I 10 s) : RHd (up I 19 j v) 10 s := RHd_cong (fun c a b => up_ne (by omega)) rfl R
/-- a letter's number and its sign -/
theorem lp_58 (T : TPc I b len) : ∀ (q m : Nat) (a : Int) (s : HV) (I1 : MI) (u3 u4 : Option AV), (8 - s 1).toNat = q → (m : Int) + s 1 = 14 → s 2 = 0 → CS I I1 len a s →
    (∀ I' e, pM b len m a s = .inl e → Kp I I' → FaC I' e → Q none I' J) →
    (∀ (I' : MI) (m' : Nat) (a' : Int) (s' : HV), pM b len m a s = pM b len m' a' s' → (m' : Int) + s' 1 = 14 → s' 2 = 0 → kol (byA b len a') = 0 → CS I I' len a' s' → Q none I' J) →
    GO x (d + 2) 58 Q 2 [some (.inr (.inr (.inl 19))), some (.inr (.inr (.inl 10))), some (.inl (s 1)), u3, u4] [] I1 J := by
  have t3 := T.2.2.1
  have t4 := T.2.2.2
  intro q
  induction q with
  | zero =>
    intro m a s I1 u3 u4 h1 hm h2 hc hf hk
    obtain ⟨l1, l2, l3, l4, l5, l6, l7⟩ := hc
    have s0 := l7.1.2.1
    have s1 := l7.1.2.2.1
    have e8 : s 1 = 8 := by omega
    have T1 := TP_K T l1
    have hR := byA_R T1 l4
    have hkR := kol_R (v := byA b len a)
    rw [@g_58_2]
    by_cases hkk : kol (byA b len a) = 0
    · simp (disch := omega) only [@g_58_0, @g_58_1, @g_58_3, @g_58_5, @g_58_8, @g_58_9, @g_58_12, @g_58_15, @g_58_16, @g_58_19, @g_58_22, @g_58_23, @g_58_24, @g_58_27, @g_58_28, @g_58_29, @g_58_31, @g_58_34, @g_58_35, @g_58_36, @g_58_39, @g_58_40, @g_58_41, @g_58_42, @g_58_45, @g_58_46, @g_58_47, @g_58_50, @g_58_51, @g_58_52, @g_58_53, @g_58_56, @g_58_58, @g_58_59, @g_58_61, @g_58_64, @g_58_65, @g_58_66, @g_58_68, @g_58_71, @g_58_74, @g_58_77, nlO_n, nlO_i, nlO_r, ret01_0, ret01_1, ret01_if, ret01_fi, true_and, Option.toList_some, Option.toList_none, List.cons_append, List.nil_append, ii_1, ii_0, ii_R, ij_1, ij_0, ij_R, ite_not, if_true, if_false, Int.one_ne_zero, one_e1, not_true_eq_false, not_false_eq_true, and_true, and_false, false_and, or_false, false_or, or_true, true_or, and_self, or_self, inr_n1000100, inr_n1000010, inr_n1000003, inr_n1000002, inr_n1000001, inr_n1000000, inr_n1, inr_0, inr_1, inr_2, inr_3, inr_4, inr_5, inr_6, inr_7, inr_8, inr_10, inr_11, inr_12, inr_13, inr_14, inr_15, inr_16, inr_20, inr_21, inr_22, inr_23, inr_24, inr_29, inr_30, inr_31, inr_32, inr_39, inr_40, inr_44, inr_48, inr_53, inr_54, inr_57, inr_59, inr_63, inr_97, inr_100, inr_101, inr_102, inr_104, inr_105, inr_106, inr_110, inr_112, inr_116, inr_120, inr_122, inr_144, inr_255, inr_256, inr_320, inr_552, inr_576, inr_999, inr_1000, inr_1023, inr_1024, inr_2048, inr_1000000, inr_252645135, inr_858993459, inr_1431655765, okO_19, okF_19_0, rfN_19_0, o_R, o_le, o_lt, o_nlt, o_nle, o_eq, o_ne, l2, sp_62 T1 l3 l4 (show a ≤ 200 by omega), sp_65]
      exact hk I1 m a s rfl hm h2 hkk ⟨l1, l2, l3, l4, l5, l6, l7⟩
    · simp (disch := omega) only [@g_58_0, @g_58_1, @g_58_3, @g_58_5, @g_58_8, @g_58_9, @g_58_12, @g_58_15, @g_58_16, @g_58_19, @g_58_22, @g_58_23, @g_58_24, @g_58_27, @g_58_28, @g_58_29, @g_58_31, @g_58_34, @g_58_35, @g_58_36, @g_58_39, @g_58_40, @g_58_41, @g_58_42, @g_58_45, @g_58_46, @g_58_47, @g_58_50, @g_58_51, @g_58_52, @g_58_53, @g_58_56, @g_58_58, @g_58_59, @g_58_61, @g_58_64, @g_58_65, @g_58_66, @g_58_68, @g_58_71, @g_58_74, @g_58_77, nlO_n, nlO_i, nlO_r, ret01_0, ret01_1, ret01_if, ret01_fi, true_and, Option.toList_some, Option.toList_none, List.cons_append, List.nil_append, ii_1, ii_0, ii_R, ij_1, ij_0, ij_R, ite_not, if_true, if_false, Int.one_ne_zero, one_e1, not_true_eq_false, not_false_eq_true, and_true, and_false, false_and, or_false, false_or, or_true, true_or, and_self, or_self, inr_n1000100, inr_n1000010, inr_n1000003, inr_n1000002, inr_n1000001, inr_n1000000, inr_n1, inr_0, inr_1, inr_2, inr_3, inr_4, inr_5, inr_6, inr_7, inr_8, inr_10, inr_11, inr_12, inr_13, inr_14, inr_15, inr_16, inr_20, inr_21, inr_22, inr_23, inr_24, inr_29, inr_30, inr_31, inr_32, inr_39, inr_40, inr_44, inr_48, inr_53, inr_54, inr_57, inr_59, inr_63, inr_97, inr_100, inr_101, inr_102, inr_104, inr_105, inr_106, inr_110, inr_112, inr_116, inr_120, inr_122, inr_144, inr_255, inr_256, inr_320, inr_552, inr_576, inr_999, inr_1000, inr_1023, inr_1024, inr_2048, inr_1000000, inr_252645135, inr_858993459, inr_1431655765, okO_19, okF_19_0, rfN_19_0, o_R, o_le, o_lt, o_nlt, o_nle, o_eq, o_ne, l2, sp_62 T1 l3 l4 (show a ≤ 200 by omega), sp_65, sp_63, l3]
      have ha : a < len := by
        by_cases hz : a < len
        · exact hz
        · unfold byA at hkk
          rw [if_neg hz] at hkk
          exact absurd rfl hkk
      have hb : byA b len a = b a := if_pos ha
      rw [hb] at hkk
      have h116 : ¬ b a = 116 := fun z => hkk (by rw [z]; rfl)
      refine hf _ (3, a) ?_ (Kp_trans l1 Kp_fail) Fa_fail
      obtain ⟨m2, rfl⟩ : ∃ m2, m = m2 + 1 := ⟨m - 1, by omega⟩
      rw [pM_s, if_neg (by omega), if_neg h116, if_neg (by omega), if_pos e8]
  | succ q ih =>
    intro m a s I1 u3 u4 h1 hm h2 hc hf hk
    obtain ⟨l1, l2, l3, l4, l5, l6, l7⟩ := hc
    have s0 := l7.1.2.1
    have s1 := l7.1.2.2.1
    have T1 := TP_K T l1
    have hR := byA_R T1 l4
    have hkR := kol_R (v := byA b len a)
    rw [@g_58_2]
    by_cases hkk : kol (byA b len a) = 0
    · simp (disch := omega) only [@g_58_0, @g_58_1, @g_58_3, @g_58_5, @g_58_8, @g_58_9, @g_58_12, @g_58_15, @g_58_16, @g_58_19, @g_58_22, @g_58_23, @g_58_24, @g_58_27, @g_58_28, @g_58_29, @g_58_31, @g_58_34, @g_58_35, @g_58_36, @g_58_39, @g_58_40, @g_58_41, @g_58_42, @g_58_45, @g_58_46, @g_58_47, @g_58_50, @g_58_51, @g_58_52, @g_58_53, @g_58_56, @g_58_58, @g_58_59, @g_58_61, @g_58_64, @g_58_65, @g_58_66, @g_58_68, @g_58_71, @g_58_74, @g_58_77, nlO_n, nlO_i, nlO_r, ret01_0, ret01_1, ret01_if, ret01_fi, true_and, Option.toList_some, Option.toList_none, List.cons_append, List.nil_append, ii_1, ii_0, ii_R, ij_1, ij_0, ij_R, ite_not, if_true, if_false, Int.one_ne_zero, one_e1, not_true_eq_false, not_false_eq_true, and_true, and_false, false_and, or_false, false_or, or_true, true_or, and_self, or_self, inr_n1000100, inr_n1000010, inr_n1000003, inr_n1000002, inr_n1000001, inr_n1000000, inr_n1, inr_0, inr_1, inr_2, inr_3, inr_4, inr_5, inr_6, inr_7, inr_8, inr_10, inr_11, inr_12, inr_13, inr_14, inr_15, inr_16, inr_20, inr_21, inr_22, inr_23, inr_24, inr_29, inr_30, inr_31, inr_32, inr_39, inr_40, inr_44, inr_48, inr_53, inr_54, inr_57, inr_59, inr_63, inr_97, inr_100, inr_101, inr_102, inr_104, inr_105, inr_106, inr_110, inr_112, inr_116, inr_120, inr_122, inr_144, inr_255, inr_256, inr_320, inr_552, inr_576, inr_999, inr_1000, inr_1023, inr_1024, inr_2048, inr_1000000, inr_252645135, inr_858993459, inr_1431655765, okO_19, okF_19_0, rfN_19_0, o_R, o_le, o_lt, o_nlt, o_nle, o_eq, o_ne, l2, sp_62 T1 l3 l4 (show a ≤ 200 by omega), sp_65]
      exact hk I1 m a s rfl hm h2 hkk ⟨l1, l2, l3, l4, l5, l6, l7⟩
    · have ha : a < len := by
        by_cases hz : a < len
        · exact hz
        · unfold byA at hkk
          rw [if_neg hz] at hkk
          exact absurd rfl hkk
      have hb : byA b len a = b a := if_pos ha
      have hkk2 := hkk
      have hkR2 := hkR
      rw [hb] at hkk2 hkR2
      have h116 : ¬ b a = 116 := fun z => hkk2 (by rw [z]; rfl)
      obtain ⟨m2, rfl⟩ : ∃ m2, m = m2 + 1 := ⟨m - 1, by omega⟩
      have epM : pM b len (m2 + 1) a s = match pOne b len (a + 1) 0 3 with
        | .inl e => .inl e
        | .inr q => pM b len m2 q.1 (addW s (kol (b a)) q.2) := by
        rw [pM_s, if_neg (by omega), if_neg h116, if_neg (by omega), if_neg (by omega)]
      rw [epM] at hf
      simp only [epM] at hk
      unfold pOne at hf hk
      have k2 : Kp I (up I1 19 1 (a + 1)) := Kp_trans l1 (Kp_19 (by omega))
      have T2 := TP_K T k2
      have e3 : I1 10 3 = s 1 := l6.2.1
      have stop : ∀ (I2 : MI) (e : Int × Int) (u3 u4 : Option AV) (nn : Int), 0 ≤ nn → nn ≤ 8 → FaC I2 e → Kp I I2 → (∀ I', Kp I I' → FaC I' e → Q none I' J) → GO x (d + 2) 58 Q 2 [some (.inr (.inr (.inl 19))), some (.inr (.inr (.inl 10))), some (.inl nn), u3, u4] [] I2 J := fun I2 e u3 u4 nn n0 n1 g1 g2 g3 => by
        rw [@g_58_2]
        simp (disch := omega) only [@g_58_0, @g_58_1, @g_58_3, @g_58_5, @g_58_8, @g_58_9, @g_58_12, @g_58_15, @g_58_16, @g_58_19, @g_58_22, @g_58_23, @g_58_24, @g_58_27, @g_58_28, @g_58_29, @g_58_31, @g_58_34, @g_58_35, @g_58_36, @g_58_39, @g_58_40, @g_58_41, @g_58_42, @g_58_45, @g_58_46, @g_58_47, @g_58_50, @g_58_51, @g_58_52, @g_58_53, @g_58_56, @g_58_58, @g_58_59, @g_58_61, @g_58_64, @g_58_65, @g_58_66, @g_58_68, @g_58_71, @g_58_74, @g_58_77, nlO_n, nlO_i, nlO_r, ret01_0, ret01_1, ret01_if, ret01_fi, true_and, Option.toList_some, Option.toList_none, List.cons_append, List.nil_append, ii_1, ii_0, ii_R, ij_1, ij_0, ij_R, ite_not, if_true, if_false, Int.one_ne_zero, one_e1, not_true_eq_false, not_false_eq_true, and_true, and_false, false_and, or_false, false_or, or_true, true_or, and_self, or_self, inr_n1000100, inr_n1000010, inr_n1000003, inr_n1000002, inr_n1000001, inr_n1000000, inr_n1, inr_0, inr_1, inr_2, inr_3, inr_4, inr_5, inr_6, inr_7, inr_8, inr_10, inr_11, inr_12, inr_13, inr_14, inr_15, inr_16, inr_20, inr_21, inr_22, inr_23, inr_24, inr_29, inr_30, inr_31, inr_32, inr_39, inr_40, inr_44, inr_48, inr_53, inr_54, inr_57, inr_59, inr_63, inr_97, inr_100, inr_101, inr_102, inr_104, inr_105, inr_106, inr_110, inr_112, inr_116, inr_120, inr_122, inr_144, inr_255, inr_256, inr_320, inr_552, inr_576, inr_999, inr_1000, inr_1023, inr_1024, inr_2048, inr_1000000, inr_252645135, inr_858993459, inr_1431655765, okO_19, okF_19_0, rfN_19_0, o_R, o_le, o_lt, o_nlt, o_nle, o_eq, o_ne, g1.1]
        exact g3 I2 g2 g1
      simp (disch := omega) only [@g_58_0, @g_58_1, @g_58_3, @g_58_5, @g_58_8, @g_58_9, @g_58_12, @g_58_15, @g_58_16, @g_58_19, @g_58_22, @g_58_23, @g_58_24, @g_58_27, @g_58_28, @g_58_29, @g_58_31, @g_58_34, @g_58_35, @g_58_36, @g_58_39, @g_58_40, @g_58_41, @g_58_42, @g_58_45, @g_58_46, @g_58_47, @g_58_50, @g_58_51, @g_58_52, @g_58_53, @g_58_56, @g_58_58, @g_58_59, @g_58_61, @g_58_64, @g_58_65, @g_58_66, @g_58_68, @g_58_71, @g_58_74, @g_58_77, nlO_n, nlO_i, nlO_r, ret01_0, ret01_1, ret01_if, ret01_fi, true_and, Option.toList_some, Option.toList_none, List.cons_append, List.nil_append, ii_1, ii_0, ii_R, ij_1, ij_0, ij_R, ite_not, if_true, if_false, Int.one_ne_zero, one_e1, not_true_eq_false, not_false_eq_true, and_true, and_false, false_and, or_false, false_or, or_true, true_or, and_self, or_self, inr_n1000100, inr_n1000010, inr_n1000003, inr_n1000002, inr_n1000001, inr_n1000000, inr_n1, inr_0, inr_1, inr_2, inr_3, inr_4, inr_5, inr_6, inr_7, inr_8, inr_10, inr_11, inr_12, inr_13, inr_14, inr_15, inr_16, inr_20, inr_21, inr_22, inr_23, inr_24, inr_29, inr_30, inr_31, inr_32, inr_39, inr_40, inr_44, inr_48, inr_53, inr_54, inr_57, inr_59, inr_63, inr_97, inr_100, inr_101, inr_102, inr_104, inr_105, inr_106, inr_110, inr_112, inr_116, inr_120, inr_122, inr_144, inr_255, inr_256, inr_320, inr_552, inr_576, inr_999, inr_1000, inr_1023, inr_1024, inr_2048, inr_1000000, inr_252645135, inr_858993459, inr_1431655765, okO_19, okF_19_0, rfN_19_0, o_R, o_le, o_lt, o_nlt, o_nle, o_eq, o_ne, l2, sp_62 T1 l3 l4 (show a ≤ 200 by omega), sp_65, l3]
      refine sp_61 (a := a + 1) T2 (by rw [up_nj (by omega)]; exact l2) up_same (by omega) (by omega) (by omega) (by omega) (by omega) (by omega) (fun e he => ?_) (fun p hp => ?_)
      · simp only [he] at hf
        have f1 : FaC (failM (up I1 19 1 (a + 1)) e) e := Fa_fail
        have e3' : failM (up I1 19 1 (a + 1)) e 10 3 = s 1 := by rw [fail_n (by omega), up_ne (by omega)]; exact e3
        simp (disch := omega) only [@g_58_0, @g_58_1, @g_58_3, @g_58_5, @g_58_8, @g_58_9, @g_58_12, @g_58_15, @g_58_16, @g_58_19, @g_58_22, @g_58_23, @g_58_24, @g_58_27, @g_58_28, @g_58_29, @g_58_31, @g_58_34, @g_58_35, @g_58_36, @g_58_39, @g_58_40, @g_58_41, @g_58_42, @g_58_45, @g_58_46, @g_58_47, @g_58_50, @g_58_51, @g_58_52, @g_58_53, @g_58_56, @g_58_58, @g_58_59, @g_58_61, @g_58_64, @g_58_65, @g_58_66, @g_58_68, @g_58_71, @g_58_74, @g_58_77, nlO_n, nlO_i, nlO_r, ret01_0, ret01_1, ret01_if, ret01_fi, true_and, Option.toList_some, Option.toList_none, List.cons_append, List.nil_append, ii_1, ii_0, ii_R, ij_1, ij_0, ij_R, ite_not, if_true, if_false, Int.one_ne_zero, one_e1, not_true_eq_false, not_false_eq_true, and_true, and_false, false_and, or_false, false_or, or_true, true_or, and_self, or_self, inr_n1000100, inr_n1000010, inr_n1000003, inr_n1000002, inr_n1000001, inr_n1000000, inr_n1, inr_0, inr_1, inr_2, inr_3, inr_4, inr_5, inr_6, inr_7, inr_8, inr_10, inr_11, inr_12, inr_13, inr_14, inr_15, inr_16, inr_20, inr_21, inr_22, inr_23, inr_24, inr_29, inr_30, inr_31, inr_32, inr_39, inr_40, inr_44, inr_48, inr_53, inr_54, inr_57, inr_59, inr_63, inr_97, inr_100, inr_101, inr_102, inr_104, inr_105, inr_106, inr_110, inr_112, inr_116, inr_120, inr_122, inr_144, inr_255, inr_256, inr_320, inr_552, inr_576, inr_999, inr_1000, inr_1023, inr_1024, inr_2048, inr_1000000, inr_252645135, inr_858993459, inr_1431655765, okO_10, okF_10_2, rfN_10_2, okF_10_4, rfN_10_4, okF_10_5, rfN_10_5, okF_10_6, rfN_10_6, okF_10_7, rfN_10_7, okF_10_9, rfN_10_9, okF_10_10, rfN_10_10, okO_19, okF_19_0, rfN_19_0, o_R, o_le, o_lt, o_nlt, o_nle, o_eq, o_ne, sp_60n f1.1, sp_13 e3' s0 (show s 1 < 8 by omega)]
        exact stop _ e _ _ _ (by omega) (by omega) (Fa_c (by simp (disch := omega) only [up_ne]) f1) (Kp_trans (Kp_trans k2 Kp_fail) Kp_W) (fun I' a b => hf I' e rfl a b)
      · simp only [hp] at hf hk
        obtain ⟨y1, y2, y3, y4, y5, y6⟩ := pNum_k (by omega) (by omega) hp
        have k3 : Kp I (up (up I1 19 1 (a + 1)) 19 1 p.1) := Kp_trans k2 (Kp_19 (by omega))
        have T3 := TP_K T k3
        have w2 : up (up I1 19 1 (a + 1)) 19 1 p.1 19 2 = 1 := by simp (disch := omega) only [up_nj]; exact l2
        cases h : pSgn b len p.1 59 with
        | inl e =>
          simp only [h] at hf
          have f1 : FaC (failM (up (up I1 19 1 (a + 1)) 19 1 p.1) e) e := Fa_fail
          have e3' : failM (up (up I1 19 1 (a + 1)) 19 1 p.1) e 10 3 = s 1 := by rw [fail_n (by omega), up_ne (by omega), up_ne (by omega)]; exact e3
          simp (disch := omega) only [@g_58_0, @g_58_1, @g_58_3, @g_58_5, @g_58_8, @g_58_9, @g_58_12, @g_58_15, @g_58_16, @g_58_19, @g_58_22, @g_58_23, @g_58_24, @g_58_27, @g_58_28, @g_58_29, @g_58_31, @g_58_34, @g_58_35, @g_58_36, @g_58_39, @g_58_40, @g_58_41, @g_58_42, @g_58_45, @g_58_46, @g_58_47, @g_58_50, @g_58_51, @g_58_52, @g_58_53, @g_58_56, @g_58_58, @g_58_59, @g_58_61, @g_58_64, @g_58_65, @g_58_66, @g_58_68, @g_58_71, @g_58_74, @g_58_77, nlO_n, nlO_i, nlO_r, ret01_0, ret01_1, ret01_if, ret01_fi, true_and, Option.toList_some, Option.toList_none, List.cons_append, List.nil_append, ii_1, ii_0, ii_R, ij_1, ij_0, ij_R, ite_not, if_true, if_false, Int.one_ne_zero, one_e1, not_true_eq_false, not_false_eq_true, and_true, and_false, false_and, or_false, false_or, or_true, true_or, and_self, or_self, inr_n1000100, inr_n1000010, inr_n1000003, inr_n1000002, inr_n1000001, inr_n1000000, inr_n1, inr_0, inr_1, inr_2, inr_3, inr_4, inr_5, inr_6, inr_7, inr_8, inr_10, inr_11, inr_12, inr_13, inr_14, inr_15, inr_16, inr_20, inr_21, inr_22, inr_23, inr_24, inr_29, inr_30, inr_31, inr_32, inr_39, inr_40, inr_44, inr_48, inr_53, inr_54, inr_57, inr_59, inr_63, inr_97, inr_100, inr_101, inr_102, inr_104, inr_105, inr_106, inr_110, inr_112, inr_116, inr_120, inr_122, inr_144, inr_255, inr_256, inr_320, inr_552, inr_576, inr_999, inr_1000, inr_1023, inr_1024, inr_2048, inr_1000000, inr_252645135, inr_858993459, inr_1431655765, okO_10, okF_10_2, rfN_10_2, okF_10_4, rfN_10_4, okF_10_5, rfN_10_5, okF_10_6, rfN_10_6, okF_10_7, rfN_10_7, okF_10_9, rfN_10_9, okF_10_10, rfN_10_10, okO_19, okF_19_0, rfN_19_0, o_R, o_le, o_lt, o_nlt, o_nle, o_eq, o_ne, sp_60f T3 w2 up_same (show 0 ≤ p.1 by omega) (show p.1 ≤ 200 by omega) (show (0 : Int) ≤ 59 by omega) (show (59 : Int) ≤ 255 by omega) h, sp_13 e3' s0 (show s 1 < 8 by omega)]
          exact stop _ e _ _ _ (by omega) (by omega) (Fa_c (by simp (disch := omega) only [up_ne]) f1) (Kp_trans (Kp_trans k3 Kp_fail) Kp_W) (fun I' a b => hf I' e rfl a b)
        | inr a3 =>
          simp only [h] at hf hk
          obtain ⟨z1, z2, z3⟩ := pSgn_k h (by omega)
          have e3' : up (up (up I1 19 1 (a + 1)) 19 1 p.1) 19 1 a3 10 3 = s 1 := by simp (disch := omega) only [up_ne]; exact e3
          simp (disch := omega) only [@g_58_0, @g_58_1, @g_58_3, @g_58_5, @g_58_8, @g_58_9, @g_58_12, @g_58_15, @g_58_16, @g_58_19, @g_58_22, @g_58_23, @g_58_24, @g_58_27, @g_58_28, @g_58_29, @g_58_31, @g_58_34, @g_58_35, @g_58_36, @g_58_39, @g_58_40, @g_58_41, @g_58_42, @g_58_45, @g_58_46, @g_58_47, @g_58_50, @g_58_51, @g_58_52, @g_58_53, @g_58_56, @g_58_58, @g_58_59, @g_58_61, @g_58_64, @g_58_65, @g_58_66, @g_58_68, @g_58_71, @g_58_74, @g_58_77, nlO_n, nlO_i, nlO_r, ret01_0, ret01_1, ret01_if, ret01_fi, true_and, Option.toList_some, Option.toList_none, List.cons_append, List.nil_append, ii_1, ii_0, ii_R, ij_1, ij_0, ij_R, ite_not, if_true, if_false, Int.one_ne_zero, one_e1, not_true_eq_false, not_false_eq_true, and_true, and_false, false_and, or_false, false_or, or_true, true_or, and_self, or_self, inr_n1000100, inr_n1000010, inr_n1000003, inr_n1000002, inr_n1000001, inr_n1000000, inr_n1, inr_0, inr_1, inr_2, inr_3, inr_4, inr_5, inr_6, inr_7, inr_8, inr_10, inr_11, inr_12, inr_13, inr_14, inr_15, inr_16, inr_20, inr_21, inr_22, inr_23, inr_24, inr_29, inr_30, inr_31, inr_32, inr_39, inr_40, inr_44, inr_48, inr_53, inr_54, inr_57, inr_59, inr_63, inr_97, inr_100, inr_101, inr_102, inr_104, inr_105, inr_106, inr_110, inr_112, inr_116, inr_120, inr_122, inr_144, inr_255, inr_256, inr_320, inr_552, inr_576, inr_999, inr_1000, inr_1023, inr_1024, inr_2048, inr_1000000, inr_252645135, inr_858993459, inr_1431655765, okO_10, okF_10_2, rfN_10_2, okF_10_4, rfN_10_4, okF_10_5, rfN_10_5, okF_10_6, rfN_10_6, okF_10_7, rfN_10_7, okF_10_9, rfN_10_9, okF_10_10, rfN_10_10, okO_19, okF_19_0, rfN_19_0, o_R, o_le, o_lt, o_nlt, o_nle, o_eq, o_ne, sp_60k T3 w2 up_same (show 0 ≤ p.1 by omega) (show p.1 ≤ 200 by omega) (show (0 : Int) ≤ 59 by omega) (show (59 : Int) ≤ 255 by omega) h, sp_13 e3' s0 (show s 1 < 8 by omega)]
          have ew : addW s (kol (b a)) p.2 1 = s 1 + 1 := sv_s
          have ew2 : addW s (kol (b a)) p.2 2 = s 2 := by unfold addW; rw [sv_n (by omega), sv_n (by omega), sv_n (by omega)]
          have ih2 := ih m2 a3 (addW s (kol (b a)) p.2) _ (some (.inl (kol (byA b len a)))) (some (.inl p.2)) (by rw [ew]; omega) (by rw [ew]; omega) (by rw [ew2]; exact h2) ⟨Kp_trans (Kp_trans k3 (Kp_19 (j := 1) (v := a3) (by omega))) (Kp_W (w := s 1) (k := kol (b a)) (v := p.2)), ?_, ?_, by omega, by omega, RHd_W (k := kol (b a)) (v := p.2) l7 (RHd_19 (RHd_19 (RHd_19 l6))) (by omega) h2, DW_W l7 (by omega) h2 (by omega) (by omega) (by omega) (by omega)⟩ hf hk
          · rw [ew] at ih2
            rw [hb] at ih2 ⊢
            exact ih2
          · simp (disch := omega) only [up_ne, up_same, up_nj, flI_ne, flI_in, flI_out, cpI_ne, cpI_in, cpI_out, l2]
          · simp (disch := omega) only [up_ne, up_same, up_nj, flI_ne, flI_in, flI_out, cpI_ne, cpI_in, cpI_out]
end
