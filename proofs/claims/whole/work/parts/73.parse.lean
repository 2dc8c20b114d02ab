/-! ===== the text: pure ===== -/
abbrev R2 : Type := (Int × Int) ⊕ (Int × Int)
abbrev RP : Type := (Int × Int) ⊕ (Int × HV)
def byA (b : HV) (len k : Int) : Int := if k < len then b k else -1
/-- figures from i on: how many, their number -/
def scN (b : HV) (len : Int) : Nat → Int → Int → Int → Int × Int
  | 0, _, f, v => (f, v)
  | m + 1, i, f, v => if 48 ≤ b i ∧ b i ≤ 57 then scN b len m (i + 1) (f + 1) (if f < 3 then 10 * v + b i - 48 else v) else (f, v)
theorem scN_s {b : HV} {len i f v : Int} {m : Nat} : scN b len (m + 1) i f v = if 48 ≤ b i ∧ b i ≤ 57 then scN b len m (i + 1) (f + 1) (if f < 3 then 10 * v + b i - 48 else v) else (f, v) := rfl
def vOk (f v : Int) : Prop := 0 ≤ f ∧ 0 ≤ v ∧ v ≤ 999 ∧ (f = 0 → v = 0) ∧ (f = 1 → v ≤ 9) ∧ (f = 2 → v ≤ 99)
theorem vOk_s {f v c : Int} (h : vOk f v) (h0 : 48 ≤ c) (h1 : c ≤ 57) : vOk (f + 1) (if f < 3 then 10 * v + c - 48 else v) := by
  obtain ⟨a1, a2, a3, a4, a5, a6⟩ := h
  unfold vOk
  have hc : f = 0 ∨ f = 1 ∨ f = 2 ∨ 3 ≤ f := by omega
  rcases hc with e | e | e | e
  · have := a4 e
    rw [if_pos (by omega)]
    refine ⟨?_, ?_, ?_, ?_, ?_, ?_⟩ <;> omega
  · have := a5 e
    rw [if_pos (by omega)]
    refine ⟨?_, ?_, ?_, ?_, ?_, ?_⟩ <;> omega
  · have := a6 e
    rw [if_pos (by omega)]
    refine ⟨?_, ?_, ?_, ?_, ?_, ?_⟩ <;> omega
  · rw [if_neg (by omega)]
    refine ⟨?_, ?_, ?_, ?_, ?_, ?_⟩ <;> omega
theorem scN_ok {b : HV} {len : Int} : ∀ (m : Nat) (i f v : Int), vOk f v → vOk (scN b len m i f v).1 (scN b len m i f v).2 ∧ f ≤ (scN b len m i f v).1 ∧ (scN b len m i f v).1 ≤ f + m
  | 0, i, f, v, h => ⟨h, Int.le_refl f, by show f ≤ f + ((0 : Nat) : Int); omega⟩
  | m + 1, i, f, v, h => by
    rw [scN_s]
    by_cases hc : 48 ≤ b i ∧ b i ≤ 57
    · rw [if_pos hc]
      have ih := scN_ok (b := b) (len := len) m (i + 1) (f + 1) _ (vOk_s h hc.1 hc.2)
      exact ⟨ih.1, by omega, by omega⟩
    · rw [if_neg hc]
      exact ⟨h, Int.le_refl f, by show f ≤ f + ((m + 1 : Nat) : Int); omega⟩
def fgV (b : HV) (len k : Int) : Int × Int := scN b len (len - k).toNat k 0 0
def pNum (b : HV) (len k lo hi : Int) : R2 := if (fgV b len k).1 = 0 ∨ 3 < (fgV b len k).1 then .inl (1, k) else if (fgV b len k).2 < lo ∨ hi < (fgV b len k).2 then .inl (2, k) else .inr (k + (fgV b len k).1, (fgV b len k).2)
def pSgn (b : HV) (len k c : Int) : (Int × Int) ⊕ Int := if byA b len k = c then .inr (k + 1) else .inl (1, k)
def sv (s : HV) (i v : Int) : HV := fun j => if j = i then v else s j
theorem sv_s {s : HV} {i v : Int} : sv s i v i = v := if_pos rfl
theorem sv_n {s : HV} {i j v : Int} (h : j ≠ i) : sv s i v j = s j := if_neg h
def pBeh (b : HV) (len : Int) : Nat → Int → Int → HV → RP
  | 0, _, a, s => .inr (a, s)
  | m + 1, c, a, s => match pSgn b len a 44 with
    | .inl e => .inl e
    | .inr a1 => match pNum b len a1 0 15 with
      | .inl e => .inl e
      | .inr q => pBeh b len m (c + 1) q.1 (sv s (4 + c) q.2)
def pLaw (b : HV) (len : Int) (s : HV) : RP := match pSgn b len 0 104 with
  | .inl e => .inl e
  | .inr a1 => match pNum b len a1 1 24 with
    | .inl e => .inl e
    | .inr q => match pBeh b len 4 0 q.1 (sv s 3 q.2) with
      | .inl e => .inl e
      | .inr q3 => match pSgn b len q3.1 59 with
        | .inl e => .inl e
        | .inr a4 => .inr (a4, q3.2)
def pOne (b : HV) (len a lo hi : Int) : R2 := match pNum b len a lo hi with
  | .inl e => .inl e
  | .inr q => match pSgn b len q.1 59 with
    | .inl e => .inl e
    | .inr a3 => .inr (a3, q.2)
def kol (v : Int) : Int := if v = 112 then 1 else if v = 105 then 2 else if v = 101 then 3 else if v = 102 then 4 else if v = 110 then 5 else 0
theorem kol_R {v : Int} : 0 ≤ kol v ∧ kol v ≤ 5 := by
  unfold kol
  (repeat' split) <;> omega
def pM (b : HV) (len : Int) : Nat → Int → HV → RP
  | 0, a, s => .inr (a, s)
  | m + 1, a, s => if len ≤ a then .inr (a, s) else if b a = 116 then (if s 2 = 5 then .inl (3, a) else match pOne b len (a + 1) 1 (shlI 1 (s 1) - 1) with
    | .inl e => .inl e
    | .inr q => pM b len m q.1 (sv (sv s (24 + s 2) q.2) 2 (s 2 + 1)))
    else if kol (b a) = 0 ∨ 0 < s 2 then .inl (1, a) else if s 1 = 8 then .inl (3, a) else match pOne b len (a + 1) 0 3 with
      | .inl e => .inl e
      | .inr q => pM b len m q.1 (sv (sv (sv s (8 + s 1) (kol (b a))) (16 + s 1) q.2) 1 (s 1 + 1))
theorem pNum_f {b : HV} {len k lo hi : Int} {e : Int × Int} (h : pNum b len k lo hi = .inl e) : e.2 = k ∧ (e.1 = 1 ∨ e.1 = 2) := by
  unfold pNum at h
  split at h
  · cases h; exact ⟨rfl, Or.inl rfl⟩
  · split at h
    · cases h; exact ⟨rfl, Or.inr rfl⟩
    · cases h
theorem pNum_k {b : HV} {len k lo hi : Int} {q : Int × Int} (k0 : 0 ≤ k) (k1 : k ≤ len) (h : pNum b len k lo hi = .inr q) : k < q.1 ∧ q.1 ≤ len ∧ lo ≤ q.2 ∧ q.2 ≤ hi ∧ 0 ≤ q.2 ∧ q.2 ≤ 999 := by
  have hs := scN_ok (b := b) (len := len) (len - k).toNat k 0 0 ⟨by omega, by omega, by omega, by omega, by omega, by omega⟩
  have hs1 : vOk (fgV b len k).1 (fgV b len k).2 := hs.1
  have hs2 : (fgV b len k).1 ≤ 0 + ((len - k).toNat : Nat) := hs.2.2
  obtain ⟨a1, a2, a3, -⟩ := hs1
  unfold pNum at h
  split at h
  · cases h
  · split at h
    · cases h
    · cases h
      refine ⟨?_, ?_, ?_, ?_, a2, a3⟩
      all_goals simp only []
      all_goals omega
theorem pSgn_f {b : HV} {len k c : Int} {e : Int × Int} (h : pSgn b len k c = .inl e) : e = (1, k) ∧ byA b len k ≠ c := by
  unfold pSgn at h
  split at h
  · cases h
  · rename_i hc
    cases h
    exact ⟨rfl, hc⟩
theorem pSgn_k {b : HV} {len k c a : Int} (h : pSgn b len k c = .inr a) (hc : 0 ≤ c) : a = k + 1 ∧ byA b len k = c ∧ k < len := by
  unfold pSgn at h
  split at h
  · rename_i h1
    cases h
    refine ⟨rfl, h1, ?_⟩
    unfold byA at h1
    split at h1
    · assumption
    · omega
  · cases h
/-! ===== the text: the class ===== -/
section
variable {x : RO} {d : Nat} {Q : QT} {I : MI} {J : MJ} {n : Nat} {b : HV} {len a : Int}
def TPc (I : MI) (b : HV) (len : Int) : Prop := I 19 3 = len ∧ 0 ≤ len ∧ len ≤ 120 ∧ ∀ k : Int, 0 ≤ k → k < len → I 20 k = b k ∧ 0 ≤ b k ∧ b k ≤ 255
def failM (I : MI) (e : Int × Int) : MI := up (up (up I 19 2 0) 19 4 e.1) 19 5 e.2
theorem byA_R (T : TPc I b len) (a0 : 0 ≤ a) : -1 ≤ byA b len a ∧ byA b len a ≤ 255 := by
  unfold byA
  split
  · have := T.2.2.2 a a0 (by assumption)
    omega
  · omega
theorem sp_62 (T : TPc I b len) (h1 : I 19 1 = a) (a0 : 0 ≤ a) (a1 : a ≤ 200) : EX x (d + 1) 62 [.inr (.inr (.inl 19))] I J Q = Q (some (.inl (byA b len a))) I J := by
  obtain ⟨t1, t2, t3, t4⟩ := T
  unfold byA
  by_cases hc : a < len
  · have e := (t4 a a0 hc).1
    rw [if_pos hc]
    simp (disch := omega) only [@g_62_0, @g_62_1, @g_62_4, @g_62_7, @g_62_8, @g_62_11, @g_62_12, @g_62_15, @g_62_18, @g_62_19, @g_62_22, @g_62_24, @g_62_27, @g_62_28, @g_62_31, @g_62_32, @g_62_35, @h_62_35, @g_62_36, @g_62_39, @g_62_40, @e_62, nlO_n, nlO_i, nlO_r, ret01_0, ret01_1, ret01_if, ret01_fi, true_and, Option.toList_some, Option.toList_none, List.cons_append, List.nil_append, ii_1, ii_0, ii_R, ij_1, ij_0, ij_R, ite_not, if_true, if_false, Int.one_ne_zero, one_e1, not_true_eq_false, not_false_eq_true, and_true, and_false, false_and, or_false, false_or, or_true, true_or, and_self, or_self, inr_n1000100, inr_n1000010, inr_n1000003, inr_n1000002, inr_n1000001, inr_n1000000, inr_n1, inr_0, inr_1, inr_2, inr_3, inr_4, inr_5, inr_6, inr_7, inr_8, inr_10, inr_11, inr_12, inr_13, inr_14, inr_15, inr_16, inr_20, inr_21, inr_22, inr_23, inr_24, inr_29, inr_30, inr_31, inr_32, inr_39, inr_40, inr_44, inr_48, inr_53, inr_54, inr_57, inr_59, inr_63, inr_97, inr_100, inr_101, inr_102, inr_104, inr_105, inr_106, inr_110, inr_112, inr_116, inr_120, inr_122, inr_144, inr_255, inr_256, inr_320, inr_552, inr_576, inr_999, inr_1000, inr_1023, inr_1024, inr_2048, inr_1000000, inr_252645135, inr_858993459, inr_1431655765, okO_19, okF_19_0, rfN_19_0, okA_20, lnN_20, o_R, o_le, o_lt, o_nlt, o_nle, o_eq, o_ne, h1, t1, e]
  · rw [if_neg hc]
    simp (disch := omega) only [@g_62_0, @g_62_1, @g_62_4, @g_62_7, @g_62_8, @g_62_11, @g_62_12, @g_62_15, @g_62_18, @g_62_19, @g_62_22, @g_62_24, @g_62_27, @g_62_28, @g_62_31, @g_62_32, @g_62_35, @h_62_35, @g_62_36, @g_62_39, @g_62_40, @e_62, nlO_n, nlO_i, nlO_r, ret01_0, ret01_1, ret01_if, ret01_fi, true_and, Option.toList_some, Option.toList_none, List.cons_append, List.nil_append, ii_1, ii_0, ii_R, ij_1, ij_0, ij_R, ite_not, if_true, if_false, Int.one_ne_zero, one_e1, not_true_eq_false, not_false_eq_true, and_true, and_false, false_and, or_false, false_or, or_true, true_or, and_self, or_self, inr_n1000100, inr_n1000010, inr_n1000003, inr_n1000002, inr_n1000001, inr_n1000000, inr_n1, inr_0, inr_1, inr_2, inr_3, inr_4, inr_5, inr_6, inr_7, inr_8, inr_10, inr_11, inr_12, inr_13, inr_14, inr_15, inr_16, inr_20, inr_21, inr_22, inr_23, inr_24, inr_29, inr_30, inr_31, inr_32, inr_39, inr_40, inr_44, inr_48, inr_53, inr_54, inr_57, inr_59, inr_63, inr_97, inr_100, inr_101, inr_102, inr_104, inr_105, inr_106, inr_110, inr_112, inr_116, inr_120, inr_122, inr_144, inr_255, inr_256, inr_320, inr_552, inr_576, inr_999, inr_1000, inr_1023, inr_1024, inr_2048, inr_1000000, inr_252645135, inr_858993459, inr_1431655765, okO_19, okF_19_0, rfN_19_0, okA_20, lnN_20, o_R, o_le, o_lt, o_nlt, o_nle, o_eq, o_ne, h1, t1]
theorem sp_63 {f : Int} : EX x (d + 1) 63 [.inr (.inr (.inl 19)), .inl f] I J Q = Q none (failM I (f, I 19 1)) J := by
  simp (disch := omega) only [@g_63_0, @g_63_1, @g_63_2, @g_63_5, @g_63_6, @g_63_7, @g_63_10, @g_63_11, @g_63_12, @g_63_15, @g_63_18, @e_63, nlO_n, nlO_i, nlO_r, ret01_0, ret01_1, ret01_if, ret01_fi, true_and, Option.toList_some, Option.toList_none, List.cons_append, List.nil_append, ii_1, ii_0, ii_R, ij_1, ij_0, ij_R, ite_not, if_true, if_false, Int.one_ne_zero, one_e1, not_true_eq_false, not_false_eq_true, and_true, and_false, false_and, or_false, false_or, or_true, true_or, and_self, or_self, inr_n1000100, inr_n1000010, inr_n1000003, inr_n1000002, inr_n1000001, inr_n1000000, inr_n1, inr_0, inr_1, inr_2, inr_3, inr_4, inr_5, inr_6, inr_7, inr_8, inr_10, inr_11, inr_12, inr_13, inr_14, inr_15, inr_16, inr_20, inr_21, inr_22, inr_23, inr_24, inr_29, inr_30, inr_31, inr_32, inr_39, inr_40, inr_44, inr_48, inr_53, inr_54, inr_57, inr_59, inr_63, inr_97, inr_100, inr_101, inr_102, inr_104, inr_105, inr_106, inr_110, inr_112, inr_116, inr_120, inr_122, inr_144, inr_255, inr_256, inr_320, inr_552, inr_576, inr_999, inr_1000, inr_1023, inr_1024, inr_2048, inr_1000000, inr_252645135, inr_858993459, inr_1431655765, okO_19, okF_19_0, rfN_19_0, up_ne, up_same, up_nj, flI_ne, flI_in, flI_out, cpI_ne, cpI_in, cpI_out]
  rfl
theorem sp_60n {c : Int} (h2 : I 19 2 = 0) : EX x (d + 2) 60 [.inr (.inr (.inl 19)), .inl c] I J Q = Q none I J := by
  simp (disch := omega) only [@g_60_0, @g_60_1, @g_60_4, @g_60_7, @g_60_8, @g_60_9, @g_60_12, @g_60_13, @g_60_16, @g_60_17, @g_60_18, @g_60_21, @g_60_22, @g_60_23, @g_60_26, @g_60_29, @g_60_30, @g_60_31, @g_60_34, @e_60, nlO_n, nlO_i, nlO_r, ret01_0, ret01_1, ret01_if, ret01_fi, true_and, Option.toList_some, Option.toList_none, List.cons_append, List.nil_append, ii_1, ii_0, ii_R, ij_1, ij_0, ij_R, ite_not, if_true, if_false, Int.one_ne_zero, one_e1, not_true_eq_false, not_false_eq_true, and_true, and_false, false_and, or_false, false_or, or_true, true_or, and_self, or_self, inr_n1000100, inr_n1000010, inr_n1000003, inr_n1000002, inr_n1000001, inr_n1000000, inr_n1, inr_0, inr_1, inr_2, inr_3, inr_4, inr_5, inr_6, inr_7, inr_8, inr_10, inr_11, inr_12, inr_13, inr_14, inr_15, inr_16, inr_20, inr_21, inr_22, inr_23, inr_24, inr_29, inr_30, inr_31, inr_32, inr_39, inr_40, inr_44, inr_48, inr_53, inr_54, inr_57, inr_59, inr_63, inr_97, inr_100, inr_101, inr_102, inr_104, inr_105, inr_106, inr_110, inr_112, inr_116, inr_120, inr_122, inr_144, inr_255, inr_256, inr_320, inr_552, inr_576, inr_999, inr_1000, inr_1023, inr_1024, inr_2048, inr_1000000, inr_252645135, inr_858993459, inr_1431655765, okO_19, okF_19_0, rfN_19_0, o_R, o_le, o_lt, o_nlt, o_nle, o_eq, o_ne, h2]
theorem sp_60f {c : Int} {e : Int × Int} (T : TPc I b len) (h2 : I 19 2 = 1) (h1 : I 19 1 = a) (a0 : 0 ≤ a) (a1 : a ≤ 200) (c0 : 0 ≤ c) (c1 : c ≤ 255) (h : pSgn b len a c = .inl e) : EX x (d + 2) 60 [.inr (.inr (.inl 19)), .inl c] I J Q = Q none (failM I e) J := by
  obtain ⟨e1, e2⟩ := pSgn_f h
  have hR := byA_R T a0
  have e2' := eq_false e2
  simp (disch := omega) only [@g_60_0, @g_60_1, @g_60_4, @g_60_7, @g_60_8, @g_60_9, @g_60_12, @g_60_13, @g_60_16, @g_60_17, @g_60_18, @g_60_21, @g_60_22, @g_60_23, @g_60_26, @g_60_29, @g_60_30, @g_60_31, @g_60_34, @e_60, nlO_n, nlO_i, nlO_r, ret01_0, ret01_1, ret01_if, ret01_fi, true_and, Option.toList_some, Option.toList_none, List.cons_append, List.nil_append, ii_1, ii_0, ii_R, ij_1, ij_0, ij_R, ite_not, if_true, if_false, Int.one_ne_zero, one_e1, not_true_eq_false, not_false_eq_true, and_true, and_false, false_and, or_false, false_or, or_true, true_or, and_self, or_self, inr_n1000100, inr_n1000010, inr_n1000003, inr_n1000002, inr_n1000001, inr_n1000000, inr_n1, inr_0, inr_1, inr_2, inr_3, inr_4, inr_5, inr_6, inr_7, inr_8, inr_10, inr_11, inr_12, inr_13, inr_14, inr_15, inr_16, inr_20, inr_21, inr_22, inr_23, inr_24, inr_29, inr_30, inr_31, inr_32, inr_39, inr_40, inr_44, inr_48, inr_53, inr_54, inr_57, inr_59, inr_63, inr_97, inr_100, inr_101, inr_102, inr_104, inr_105, inr_106, inr_110, inr_112, inr_116, inr_120, inr_122, inr_144, inr_255, inr_256, inr_320, inr_552, inr_576, inr_999, inr_1000, inr_1023, inr_1024, inr_2048, inr_1000000, inr_252645135, inr_858993459, inr_1431655765, okO_19, okF_19_0, rfN_19_0, o_R, o_ne, h2, sp_62 T h1 a0 a1, e2', sp_63]
  rw [e1, h1]
theorem sp_60k {c a2 : Int} (T : TPc I b len) (h2 : I 19 2 = 1) (h1 : I 19 1 = a) (a0 : 0 ≤ a) (a1 : a ≤ 200) (c0 : 0 ≤ c) (c1 : c ≤ 255) (h : pSgn b len a c = .inr a2) : EX x (d + 2) 60 [.inr (.inr (.inl 19)), .inl c] I J Q = Q none (up I 19 1 a2) J := by
  obtain ⟨e1, e2, -⟩ := pSgn_k h c0
  simp (disch := omega) only [@g_60_0, @g_60_1, @g_60_4, @g_60_7, @g_60_8, @g_60_9, @g_60_12, @g_60_13, @g_60_16, @g_60_17, @g_60_18, @g_60_21, @g_60_22, @g_60_23, @g_60_26, @g_60_29, @g_60_30, @g_60_31, @g_60_34, @e_60, nlO_n, nlO_i, nlO_r, ret01_0, ret01_1, ret01_if, ret01_fi, true_and, Option.toList_some, Option.toList_none, List.cons_append, List.nil_append, ii_1, ii_0, ii_R, ij_1, ij_0, ij_R, ite_not, if_true, if_false, Int.one_ne_zero, one_e1, not_true_eq_false, not_false_eq_true, and_true, and_false, false_and, or_false, false_or, or_true, true_or, and_self, or_self, inr_n1000100, inr_n1000010, inr_n1000003, inr_n1000002, inr_n1000001, inr_n1000000, inr_n1, inr_0, inr_1, inr_2, inr_3, inr_4, inr_5, inr_6, inr_7, inr_8, inr_10, inr_11, inr_12, inr_13, inr_14, inr_15, inr_16, inr_20, inr_21, inr_22, inr_23, inr_24, inr_29, inr_30, inr_31, inr_32, inr_39, inr_40, inr_44, inr_48, inr_53, inr_54, inr_57, inr_59, inr_63, inr_97, inr_100, inr_101, inr_102, inr_104, inr_105, inr_106, inr_110, inr_112, inr_116, inr_120, inr_122, inr_144, inr_255, inr_256, inr_320, inr_552, inr_576, inr_999, inr_1000, inr_1023, inr_1024, inr_2048, inr_1000000, inr_252645135, inr_858993459, inr_1431655765, okO_19, okF_19_0, rfN_19_0, o_R, o_le, o_lt, o_nlt, o_nle, o_eq, o_ne, h2, h1, sp_62 T h1 a0 a1, e2, e1]
theorem sp_61n {lo hi : Int} (h2 : I 19 2 = 0) : EX x (d + 2) 61 [.inr (.inr (.inl 19)), .inl lo, .inl hi] I J Q = Q (some (.inl 0)) I J := by
  simp (disch := omega) only [@g_61_0, @g_61_1, @g_61_4, @g_61_7, @g_61_8, @g_61_9, @g_61_10, @g_61_11, @g_61_12, @g_61_14, @g_61_15, @g_61_18, @g_61_22, @g_61_23, @g_61_26, @g_61_29, @g_61_30, @g_61_33, @g_61_35, @h_61_35, @g_61_36, @g_61_39, @g_61_42, @g_61_45, @g_61_46, @g_61_47, @g_61_50, @g_61_52, @g_61_54, @g_61_55, @g_61_56, @g_61_59, @g_61_61, @h_61_61, @g_61_62, @g_61_63, @g_61_65, @g_61_66, @g_61_68, @g_61_71, @g_61_74, @g_61_75, @g_61_78, @g_61_79, @g_61_80, @g_61_83, @g_61_84, @g_61_85, @g_61_88, @g_61_89, @g_61_90, @g_61_92, @g_61_93, @g_61_96, @g_61_98, @g_61_99, @g_61_102, @g_61_103, @g_61_104, @g_61_107, @g_61_108, @g_61_109, @g_61_110, @g_61_111, @g_61_114, @g_61_115, @g_61_116, @g_61_119, @g_61_121, @e_61, nlO_n, nlO_i, nlO_r, ret01_0, ret01_1, ret01_if, ret01_fi, true_and, Option.toList_some, Option.toList_none, List.cons_append, List.nil_append, ii_1, ii_0, ii_R, ij_1, ij_0, ij_R, ite_not, if_true, if_false, Int.one_ne_zero, one_e1, not_true_eq_false, not_false_eq_true, and_true, and_false, false_and, or_false, false_or, or_true, true_or, and_self, or_self, inr_n1000100, inr_n1000010, inr_n1000003, inr_n1000002, inr_n1000001, inr_n1000000, inr_n1, inr_0, inr_1, inr_2, inr_3, inr_4, inr_5, inr_6, inr_7, inr_8, inr_10, inr_11, inr_12, inr_13, inr_14, inr_15, inr_16, inr_20, inr_21, inr_22, inr_23, inr_24, inr_29, inr_30, inr_31, inr_32, inr_39, inr_40, inr_44, inr_48, inr_53, inr_54, inr_57, inr_59, inr_63, inr_97, inr_100, inr_101, inr_102, inr_104, inr_105, inr_106, inr_110, inr_112, inr_116, inr_120, inr_122, inr_144, inr_255, inr_256, inr_320, inr_552, inr_576, inr_999, inr_1000, inr_1023, inr_1024, inr_2048, inr_1000000, inr_252645135, inr_858993459, inr_1431655765, okO_19, okF_19_0, rfN_19_0, o_R, o_le, o_lt, o_nlt, o_nle, o_eq, o_ne, h2]
theorem sp_64 {c : Int} (c0 : -1 ≤ c) (c1 : c ≤ 255) : EX x (d + 1) 64 [.inl c] I J Q = Q (some (.inl (if 48 ≤ c ∧ c ≤ 57 then 1 else 0))) I J := by
  simp (disch := omega) only [@g_64_0, @g_64_1, @g_64_3, @g_64_6, @g_64_7, @g_64_9, @g_64_12, @g_64_13, @g_64_16, @g_64_17, @e_64, nlO_n, nlO_i, nlO_r, ret01_0, ret01_1, ret01_if, ret01_fi, true_and, Option.toList_some, Option.toList_none, List.cons_append, List.nil_append, ii_1, ii_0, ii_R, ij_1, ij_0, ij_R, ite_not, if_true, if_false, Int.one_ne_zero, one_e1, not_true_eq_false, not_false_eq_true, and_true, and_false, false_and, or_false, false_or, or_true, true_or, and_self, or_self, inr_n1000100, inr_n1000010, inr_n1000003, inr_n1000002, inr_n1000001, inr_n1000000, inr_n1, inr_0, inr_1, inr_2, inr_3, inr_4, inr_5, inr_6, inr_7, inr_8, inr_10, inr_11, inr_12, inr_13, inr_14, inr_15, inr_16, inr_20, inr_21, inr_22, inr_23, inr_24, inr_29, inr_30, inr_31, inr_32, inr_39, inr_40, inr_44, inr_48, inr_53, inr_54, inr_57, inr_59, inr_63, inr_97, inr_100, inr_101, inr_102, inr_104, inr_105, inr_106, inr_110, inr_112, inr_116, inr_120, inr_122, inr_144, inr_255, inr_256, inr_320, inr_552, inr_576, inr_999, inr_1000, inr_1023, inr_1024, inr_2048, inr_1000000, inr_252645135, inr_858993459, inr_1431655765, o_R]
  (repeat' split) <;> first | rfl | (exfalso; omega)
theorem lp_61 {lo hi : Int} (T : TPc I b len) : ∀ (m : Nat) (i f v : Int), 0 ≤ i → i ≤ len → (len - i).toNat = m → vOk f v → f ≤ i → (∀ u : Int, GO x (d + 1) 61 Q 74 [some (.inr (.inr (.inl 19))), some (.inl lo), some (.inl hi), some (.inl (scN b len m i f v).1), some (.inl (scN b len m i f v).2), some (.inl u)] [] I J) → GO x (d + 1) 61 Q 20 [some (.inr (.inr (.inl 19))), some (.inl lo), some (.inl hi), some (.inl f), some (.inl v), some (.inl i)] [] I J := by
  obtain ⟨t1, t2, t3, t4⟩ := T
  intro m
  induction m with
  | zero =>
    intro i f v h0 h1 h2 h3 h4 hq
    rw [@g_61_20]
    simp (disch := omega) only [@g_61_22, @g_61_23, @g_61_26, nlO_n, nlO_i, nlO_r, ret01_0, ret01_1, ret01_if, ret01_fi, true_and, Option.toList_some, Option.toList_none, List.cons_append, List.nil_append, ii_1, ii_0, ii_R, ij_1, ij_0, ij_R, ite_not, if_true, if_false, Int.one_ne_zero, one_e1, not_true_eq_false, not_false_eq_true, and_true, and_false, false_and, or_false, false_or, or_true, true_or, and_self, or_self, inr_n1000100, inr_n1000010, inr_n1000003, inr_n1000002, inr_n1000001, inr_n1000000, inr_n1, inr_0, inr_1, inr_2, inr_3, inr_4, inr_5, inr_6, inr_7, inr_8, inr_10, inr_11, inr_12, inr_13, inr_14, inr_15, inr_16, inr_20, inr_21, inr_22, inr_23, inr_24, inr_29, inr_30, inr_31, inr_32, inr_39, inr_40, inr_44, inr_48, inr_53, inr_54, inr_57, inr_59, inr_63, inr_97, inr_100, inr_101, inr_102, inr_104, inr_105, inr_106, inr_110, inr_112, inr_116, inr_120, inr_122, inr_144, inr_255, inr_256, inr_320, inr_552, inr_576, inr_999, inr_1000, inr_1023, inr_1024, inr_2048, inr_1000000, inr_252645135, inr_858993459, inr_1431655765, okO_19, okF_19_0, rfN_19_0, o_R, o_le, o_lt, o_nlt, o_nle, o_eq, o_ne, t1]
    exact hq i
  | succ m ih =>
    intro i f v h0 h1 h2 h3 h4 hq
    obtain ⟨e1, e2, e3⟩ := t4 i h0 (by omega)
    obtain ⟨v1, v2, v3, v4⟩ := h3
    have h3 : vOk f v := ⟨v1, v2, v3, v4⟩
    rw [scN_s] at hq
    rw [@g_61_20]
    by_cases hc : 48 ≤ b i ∧ b i ≤ 57
    · rw [if_pos hc] at hq
      have ih2 := ih (i + 1) (f + 1) _ (by omega) (by omega) (by omega) (vOk_s h3 hc.1 hc.2) (by omega) hq
      by_cases hf : f < 3
      · rw [if_pos hf] at ih2
        simp (disch := omega) only [@g_61_22, @g_61_23, @g_61_26, @g_61_29, @g_61_30, @g_61_33, @g_61_35, @g_61_36, @g_61_39, @g_61_42, @g_61_45, @g_61_46, @g_61_47, @g_61_50, @g_61_52, @g_61_54, @g_61_55, @g_61_56, @g_61_59, @g_61_61, @g_61_62, @g_61_63, @g_61_65, @g_61_66, @g_61_68, @g_61_71, nlO_n, nlO_i, nlO_r, ret01_0, ret01_1, ret01_if, ret01_fi, true_and, Option.toList_some, Option.toList_none, List.cons_append, List.nil_append, ii_1, ii_0, ii_R, ij_1, ij_0, ij_R, ite_not, if_true, if_false, Int.one_ne_zero, one_e1, not_true_eq_false, not_false_eq_true, and_true, and_false, false_and, or_false, false_or, or_true, true_or, and_self, or_self, inr_n1000100, inr_n1000010, inr_n1000003, inr_n1000002, inr_n1000001, inr_n1000000, inr_n1, inr_0, inr_1, inr_2, inr_3, inr_4, inr_5, inr_6, inr_7, inr_8, inr_10, inr_11, inr_12, inr_13, inr_14, inr_15, inr_16, inr_20, inr_21, inr_22, inr_23, inr_24, inr_29, inr_30, inr_31, inr_32, inr_39, inr_40, inr_44, inr_48, inr_53, inr_54, inr_57, inr_59, inr_63, inr_97, inr_100, inr_101, inr_102, inr_104, inr_105, inr_106, inr_110, inr_112, inr_116, inr_120, inr_122, inr_144, inr_255, inr_256, inr_320, inr_552, inr_576, inr_999, inr_1000, inr_1023, inr_1024, inr_2048, inr_1000000, inr_252645135, inr_858993459, inr_1431655765, okO_19, okF_19_0, rfN_19_0, okA_20, lnN_20, o_R, o_le, o_lt, o_nlt, o_nle, o_eq, o_ne, t1, e1, sp_64]
        exact ih2
      · rw [if_neg hf] at ih2
        simp (disch := omega) only [@g_61_22, @g_61_23, @g_61_26, @g_61_29, @g_61_30, @g_61_33, @g_61_35, @g_61_36, @g_61_39, @g_61_42, @g_61_45, @g_61_46, @g_61_47, @g_61_68, @g_61_71, nlO_n, nlO_i, nlO_r, ret01_0, ret01_1, ret01_if, ret01_fi, true_and, Option.toList_some, Option.toList_none, List.cons_append, List.nil_append, ii_1, ii_0, ii_R, ij_1, ij_0, ij_R, ite_not, if_true, if_false, Int.one_ne_zero, one_e1, not_true_eq_false, not_false_eq_true, and_true, and_false, false_and, or_false, false_or, or_true, true_or, and_self, or_self, inr_n1000100, inr_n1000010, inr_n1000003, inr_n1000002, inr_n1000001, inr_n1000000, inr_n1, inr_0, inr_1, inr_2, inr_3, inr_4, inr_5, inr_6, inr_7, inr_8, inr_10, inr_11, inr_12, inr_13, inr_14, inr_15, inr_16, inr_20, inr_21, inr_22, inr_23, inr_24, inr_29, inr_30, inr_31, inr_32, inr_39, inr_40, inr_44, inr_48, inr_53, inr_54, inr_57, inr_59, inr_63, inr_97, inr_100, inr_101, inr_102, inr_104, inr_105, inr_106, inr_110, inr_112, inr_116, inr_120, inr_122, inr_144, inr_255, inr_256, inr_320, inr_552, inr_576, inr_999, inr_1000, inr_1023, inr_1024, inr_2048, inr_1000000, inr_252645135, inr_858993459, inr_1431655765, okO_19, okF_19_0, rfN_19_0, okA_20, lnN_20, o_R, o_le, o_lt, o_nlt, o_nle, o_eq, o_ne, t1, e1, sp_64]
        exact ih2
    · rw [if_neg hc] at hq
      simp (disch := omega) only [@g_61_22, @g_61_23, @g_61_26, @g_61_29, @g_61_30, @g_61_33, @g_61_35, @g_61_36, @g_61_39, nlO_n, nlO_i, nlO_r, ret01_0, ret01_1, ret01_if, ret01_fi, true_and, Option.toList_some, Option.toList_none, List.cons_append, List.nil_append, ii_1, ii_0, ii_R, ij_1, ij_0, ij_R, ite_not, if_true, if_false, Int.one_ne_zero, one_e1, not_true_eq_false, not_false_eq_true, and_true, and_false, false_and, or_false, false_or, or_true, true_or, and_self, or_self, inr_n1000100, inr_n1000010, inr_n1000003, inr_n1000002, inr_n1000001, inr_n1000000, inr_n1, inr_0, inr_1, inr_2, inr_3, inr_4, inr_5, inr_6, inr_7, inr_8, inr_10, inr_11, inr_12, inr_13, inr_14, inr_15, inr_16, inr_20, inr_21, inr_22, inr_23, inr_24, inr_29, inr_30, inr_31, inr_32, inr_39, inr_40, inr_44, inr_48, inr_53, inr_54, inr_57, inr_59, inr_63, inr_97, inr_100, inr_101, inr_102, inr_104, inr_105, inr_106, inr_110, inr_112, inr_116, inr_120, inr_122, inr_144, inr_255, inr_256, inr_320, inr_552, inr_576, inr_999, inr_1000, inr_1023, inr_1024, inr_2048, inr_1000000, inr_252645135, inr_858993459, inr_1431655765, okO_19, okF_19_0, rfN_19_0, okA_20, lnN_20, o_R, o_lt, o_le, t1, e1, sp_64, hc]
      exact hq i
theorem sp_61 {lo hi : Int} (T : TPc I b len) (h2 : I 19 2 = 1) (h1 : I 19 1 = a) (a0 : 0 ≤ a) (a1 : a ≤ len) (lo0 : 0 ≤ lo) (lo1 : lo ≤ 300) (hi0 : -1 ≤ hi) (hi1 : hi ≤ 300) (hf : ∀ e, pNum b len a lo hi = .inl e → Q (some (.inl 0)) (failM I e) J) (hk : ∀ q, pNum b len a lo hi = .inr q → Q (some (.inl q.2)) (up I 19 1 q.1) J) : EX x (d + 2) 61 [.inr (.inr (.inl 19)), .inl lo, .inl hi] I J Q := by
  have t3 := T.2.2.1
  have hs := scN_ok (b := b) (len := len) (len - a).toNat a 0 0 ⟨by omega, by omega, by omega, by omega, by omega, by omega⟩
  have hs1 : vOk (fgV b len a).1 (fgV b len a).2 := hs.1
  have hs2 : (fgV b len a).1 ≤ 0 + ((len - a).toNat : Nat) := hs.2.2
  obtain ⟨z1, z2, z3, -⟩ := hs1
  simp (disch := omega) only [@e_61, @g_61_0, @g_61_1, @g_61_4, @g_61_9, @g_61_10, @g_61_11, @g_61_12, @g_61_14, @g_61_15, @g_61_18, nlO_n, nlO_i, nlO_r, ret01_0, ret01_1, ret01_if, ret01_fi, true_and, Option.toList_some, Option.toList_none, List.cons_append, List.nil_append, ii_1, ii_0, ii_R, ij_1, ij_0, ij_R, ite_not, if_true, if_false, Int.one_ne_zero, one_e1, not_true_eq_false, not_false_eq_true, and_true, and_false, false_and, or_false, false_or, or_true, true_or, and_self, or_self, inr_n1000100, inr_n1000010, inr_n1000003, inr_n1000002, inr_n1000001, inr_n1000000, inr_n1, inr_0, inr_1, inr_2, inr_3, inr_4, inr_5, inr_6, inr_7, inr_8, inr_10, inr_11, inr_12, inr_13, inr_14, inr_15, inr_16, inr_20, inr_21, inr_22, inr_23, inr_24, inr_29, inr_30, inr_31, inr_32, inr_39, inr_40, inr_44, inr_48, inr_53, inr_54, inr_57, inr_59, inr_63, inr_97, inr_100, inr_101, inr_102, inr_104, inr_105, inr_106, inr_110, inr_112, inr_116, inr_120, inr_122, inr_144, inr_255, inr_256, inr_320, inr_552, inr_576, inr_999, inr_1000, inr_1023, inr_1024, inr_2048, inr_1000000, inr_252645135, inr_858993459, inr_1431655765, okO_19, okF_19_0, rfN_19_0, o_R, o_le, o_lt, o_nlt, o_nle, o_eq, o_ne, h2, h1]
  refine lp_61 T _ a 0 0 a0 a1 rfl ⟨by omega, by omega, by omega, by omega, by omega, by omega⟩ a0 (fun u => ?_)
  show GO x (d + 1) 61 Q 74 [some (.inr (.inr (.inl 19))), some (.inl lo), some (.inl hi), some (.inl (fgV b len a).1), some (.inl (fgV b len a).2), some (.inl u)] [] I J
  unfold pNum at hf hk
  by_cases c1 : (fgV b len a).1 = 0 ∨ 3 < (fgV b len a).1
  · rw [if_pos c1] at hf
    have hf2 := hf (1, a) rfl
    by_cases c2 : (fgV b len a).1 = 0
    · simp (disch := omega) only [@g_61_0, @g_61_1, @g_61_4, @g_61_7, @g_61_8, @g_61_9, @g_61_10, @g_61_11, @g_61_12, @g_61_14, @g_61_15, @g_61_18, @g_61_22, @g_61_23, @g_61_26, @g_61_29, @g_61_30, @g_61_33, @g_61_35, @h_61_35, @g_61_36, @g_61_39, @g_61_42, @g_61_45, @g_61_46, @g_61_47, @g_61_50, @g_61_52, @g_61_54, @g_61_55, @g_61_56, @g_61_59, @g_61_61, @h_61_61, @g_61_62, @g_61_63, @g_61_65, @g_61_66, @g_61_68, @g_61_71, @g_61_74, @g_61_75, @g_61_78, @g_61_79, @g_61_80, @g_61_83, @g_61_84, @g_61_85, @g_61_88, @g_61_89, @g_61_90, @g_61_92, @g_61_93, @g_61_96, @g_61_98, @g_61_99, @g_61_102, @g_61_103, @g_61_104, @g_61_107, @g_61_108, @g_61_109, @g_61_110, @g_61_111, @g_61_114, @g_61_115, @g_61_116, @g_61_119, @g_61_121, nlO_n, nlO_i, nlO_r, ret01_0, ret01_1, ret01_if, ret01_fi, true_and, Option.toList_some, Option.toList_none, List.cons_append, List.nil_append, ii_1, ii_0, ii_R, ij_1, ij_0, ij_R, ite_not, if_true, if_false, Int.one_ne_zero, one_e1, not_true_eq_false, not_false_eq_true, and_true, and_false, false_and, or_false, false_or, or_true, true_or, and_self, or_self, inr_n1000100, inr_n1000010, inr_n1000003, inr_n1000002, inr_n1000001, inr_n1000000, inr_n1, inr_0, inr_1, inr_2, inr_3, inr_4, inr_5, inr_6, inr_7, inr_8, inr_10, inr_11, inr_12, inr_13, inr_14, inr_15, inr_16, inr_20, inr_21, inr_22, inr_23, inr_24, inr_29, inr_30, inr_31, inr_32, inr_39, inr_40, inr_44, inr_48, inr_53, inr_54, inr_57, inr_59, inr_63, inr_97, inr_100, inr_101, inr_102, inr_104, inr_105, inr_106, inr_110, inr_112, inr_116, inr_120, inr_122, inr_144, inr_255, inr_256, inr_320, inr_552, inr_576, inr_999, inr_1000, inr_1023, inr_1024, inr_2048, inr_1000000, inr_252645135, inr_858993459, inr_1431655765, okO_19, okF_19_0, rfN_19_0, o_R, o_le, o_lt, o_nlt, o_nle, o_eq, o_ne, sp_63, h1]
      exact hf2
    · simp (disch := omega) only [@g_61_0, @g_61_1, @g_61_4, @g_61_7, @g_61_8, @g_61_9, @g_61_10, @g_61_11, @g_61_12, @g_61_14, @g_61_15, @g_61_18, @g_61_22, @g_61_23, @g_61_26, @g_61_29, @g_61_30, @g_61_33, @g_61_35, @h_61_35, @g_61_36, @g_61_39, @g_61_42, @g_61_45, @g_61_46, @g_61_47, @g_61_50, @g_61_52, @g_61_54, @g_61_55, @g_61_56, @g_61_59, @g_61_61, @h_61_61, @g_61_62, @g_61_63, @g_61_65, @g_61_66, @g_61_68, @g_61_71, @g_61_74, @g_61_75, @g_61_78, @g_61_79, @g_61_80, @g_61_83, @g_61_84, @g_61_85, @g_61_88, @g_61_89, @g_61_90, @g_61_92, @g_61_93, @g_61_96, @g_61_98, @g_61_99, @g_61_102, @g_61_103, @g_61_104, @g_61_107, @g_61_108, @g_61_109, @g_61_110, @g_61_111, @g_61_114, @g_61_115, @g_61_116, @g_61_119, @g_61_121, nlO_n, nlO_i, nlO_r, ret01_0, ret01_1, ret01_if, ret01_fi, true_and, Option.toList_some, Option.toList_none, List.cons_append, List.nil_append, ii_1, ii_0, ii_R, ij_1, ij_0, ij_R, ite_not, if_true, if_false, Int.one_ne_zero, one_e1, not_true_eq_false, not_false_eq_true, and_true, and_false, false_and, or_false, false_or, or_true, true_or, and_self, or_self, inr_n1000100, inr_n1000010, inr_n1000003, inr_n1000002, inr_n1000001, inr_n1000000, inr_n1, inr_0, inr_1, inr_2, inr_3, inr_4, inr_5, inr_6, inr_7, inr_8, inr_10, inr_11, inr_12, inr_13, inr_14, inr_15, inr_16, inr_20, inr_21, inr_22, inr_23, inr_24, inr_29, inr_30, inr_31, inr_32, inr_39, inr_40, inr_44, inr_48, inr_53, inr_54, inr_57, inr_59, inr_63, inr_97, inr_100, inr_101, inr_102, inr_104, inr_105, inr_106, inr_110, inr_112, inr_116, inr_120, inr_122, inr_144, inr_255, inr_256, inr_320, inr_552, inr_576, inr_999, inr_1000, inr_1023, inr_1024, inr_2048, inr_1000000, inr_252645135, inr_858993459, inr_1431655765, okO_19, okF_19_0, rfN_19_0, o_R, o_le, o_lt, o_nlt, o_nle, o_eq, o_ne, sp_63, h1]
      exact hf2
  · rw [if_neg c1] at hf hk
    by_cases c2 : (fgV b len a).2 < lo ∨ hi < (fgV b len a).2
    · rw [if_pos c2] at hf
      have hf2 := hf (2, a) rfl
      by_cases c3 : (fgV b len a).2 < lo
      · simp (disch := omega) only [@g_61_0, @g_61_1, @g_61_4, @g_61_7, @g_61_8, @g_61_9, @g_61_10, @g_61_11, @g_61_12, @g_61_14, @g_61_15, @g_61_18, @g_61_22, @g_61_23, @g_61_26, @g_61_29, @g_61_30, @g_61_33, @g_61_35, @h_61_35, @g_61_36, @g_61_39, @g_61_42, @g_61_45, @g_61_46, @g_61_47, @g_61_50, @g_61_52, @g_61_54, @g_61_55, @g_61_56, @g_61_59, @g_61_61, @h_61_61, @g_61_62, @g_61_63, @g_61_65, @g_61_66, @g_61_68, @g_61_71, @g_61_74, @g_61_75, @g_61_78, @g_61_79, @g_61_80, @g_61_83, @g_61_84, @g_61_85, @g_61_88, @g_61_89, @g_61_90, @g_61_92, @g_61_93, @g_61_96, @g_61_98, @g_61_99, @g_61_102, @g_61_103, @g_61_104, @g_61_107, @g_61_108, @g_61_109, @g_61_110, @g_61_111, @g_61_114, @g_61_115, @g_61_116, @g_61_119, @g_61_121, nlO_n, nlO_i, nlO_r, ret01_0, ret01_1, ret01_if, ret01_fi, true_and, Option.toList_some, Option.toList_none, List.cons_append, List.nil_append, ii_1, ii_0, ii_R, ij_1, ij_0, ij_R, ite_not, if_true, if_false, Int.one_ne_zero, one_e1, not_true_eq_false, not_false_eq_true, and_true, and_false, false_and, or_false, false_or, or_true, true_or, and_self, or_self, inr_n1000100, inr_n1000010, inr_n1000003, inr_n1000002, inr_n1000001, inr_n1000000, inr_n1, inr_0, inr_1, inr_2, inr_3, inr_4, inr_5, inr_6, inr_7, inr_8, inr_10, inr_11, inr_12, inr_13, inr_14, inr_15, inr_16, inr_20, inr_21, inr_22, inr_23, inr_24, inr_29, inr_30, inr_31, inr_32, inr_39, inr_40, inr_44, inr_48, inr_53, inr_54, inr_57, inr_59, inr_63, inr_97, inr_100, inr_101, inr_102, inr_104, inr_105, inr_106, inr_110, inr_112, inr_116, inr_120, inr_122, inr_144, inr_255, inr_256, inr_320, inr_552, inr_576, inr_999, inr_1000, inr_1023, inr_1024, inr_2048, inr_1000000, inr_252645135, inr_858993459, inr_1431655765, okO_19, okF_19_0, rfN_19_0, o_R, o_le, o_lt, o_nlt, o_nle, o_eq, o_ne, sp_63, h1]
        exact hf2
      · simp (disch := omega) only [@g_61_0, @g_61_1, @g_61_4, @g_61_7, @g_61_8, @g_61_9, @g_61_10, @g_61_11, @g_61_12, @g_61_14, @g_61_15, @g_61_18, @g_61_22, @g_61_23, @g_61_26, @g_61_29, @g_61_30, @g_61_33, @g_61_35, @h_61_35, @g_61_36, @g_61_39, @g_61_42, @g_61_45, @g_61_46, @g_61_47, @g_61_50, @g_61_52, @g_61_54, @g_61_55, @g_61_56, @g_61_59, @g_61_61, @h_61_61, @g_61_62, @g_61_63, @g_61_65, @g_61_66, @g_61_68, @g_61_71, @g_61_74, @g_61_75, @g_61_78, @g_61_79, @g_61_80, @g_61_83, @g_61_84, @g_61_85, @g_61_88, @g_61_89, @g_61_90, @g_61_92, @g_61_93, @g_61_96, @g_61_98, @g_61_99, @g_61_102, @g_61_103, @g_61_104, @g_61_107, @g_61_108, @g_61_109, @g_61_110, @g_61_111, @g_61_114, @g_61_115, @g_61_116, @g_61_119, @g_61_121, nlO_n, nlO_i, nlO_r, ret01_0, ret01_1, ret01_if, ret01_fi, true_and, Option.toList_some, Option.toList_none, List.cons_append, List.nil_append, ii_1, ii_0, ii_R, ij_1, ij_0, ij_R, ite_not, if_true, if_false, Int.one_ne_zero, one_e1, not_true_eq_false, not_false_eq_true, and_true, and_false, false_and, or_false, false_or, or_true, true_or, and_self, or_self, inr_n1000100, inr_n1000010, inr_n1000003, inr_n1000002, inr_n1000001, inr_n1000000, inr_n1, inr_0, inr_1, inr_2, inr_3, inr_4, inr_5, inr_6, inr_7, inr_8, inr_10, inr_11, inr_12, inr_13, inr_14, inr_15, inr_16, inr_20, inr_21, inr_22, inr_23, inr_24, inr_29, inr_30, inr_31, inr_32, inr_39, inr_40, inr_44, inr_48, inr_53, inr_54, inr_57, inr_59, inr_63, inr_97, inr_100, inr_101, inr_102, inr_104, inr_105, inr_106, inr_110, inr_112, inr_116, inr_120, inr_122, inr_144, inr_255, inr_256, inr_320, inr_552, inr_576, inr_999, inr_1000, inr_1023, inr_1024, inr_2048, inr_1000000, inr_252645135, inr_858993459, inr_1431655765, okO_19, okF_19_0, rfN_19_0, o_R, o_le, o_lt, o_nlt, o_nle, o_eq, o_ne, sp_63, h1]
        exact hf2
    · rw [if_neg c2] at hk
      have hk2 := hk _ rfl
      simp (disch := omega) only [@g_61_0, @g_61_1, @g_61_4, @g_61_7, @g_61_8, @g_61_9, @g_61_10, @g_61_11, @g_61_12, @g_61_14, @g_61_15, @g_61_18, @g_61_22, @g_61_23, @g_61_26, @g_61_29, @g_61_30, @g_61_33, @g_61_35, @h_61_35, @g_61_36, @g_61_39, @g_61_42, @g_61_45, @g_61_46, @g_61_47, @g_61_50, @g_61_52, @g_61_54, @g_61_55, @g_61_56, @g_61_59, @g_61_61, @h_61_61, @g_61_62, @g_61_63, @g_61_65, @g_61_66, @g_61_68, @g_61_71, @g_61_74, @g_61_75, @g_61_78, @g_61_79, @g_61_80, @g_61_83, @g_61_84, @g_61_85, @g_61_88, @g_61_89, @g_61_90, @g_61_92, @g_61_93, @g_61_96, @g_61_98, @g_61_99, @g_61_102, @g_61_103, @g_61_104, @g_61_107, @g_61_108, @g_61_109, @g_61_110, @g_61_111, @g_61_114, @g_61_115, @g_61_116, @g_61_119, @g_61_121, nlO_n, nlO_i, nlO_r, ret01_0, ret01_1, ret01_if, ret01_fi, true_and, Option.toList_some, Option.toList_none, List.cons_append, List.nil_append, ii_1, ii_0, ii_R, ij_1, ij_0, ij_R, ite_not, if_true, if_false, Int.one_ne_zero, one_e1, not_true_eq_false, not_false_eq_true, and_true, and_false, false_and, or_false, false_or, or_true, true_or, and_self, or_self, inr_n1000100, inr_n1000010, inr_n1000003, inr_n1000002, inr_n1000001, inr_n1000000, inr_n1, inr_0, inr_1, inr_2, inr_3, inr_4, inr_5, inr_6, inr_7, inr_8, inr_10, inr_11, inr_12, inr_13, inr_14, inr_15, inr_16, inr_20, inr_21, inr_22, inr_23, inr_24, inr_29, inr_30, inr_31, inr_32, inr_39, inr_40, inr_44, inr_48, inr_53, inr_54, inr_57, inr_59, inr_63, inr_97, inr_100, inr_101, inr_102, inr_104, inr_105, inr_106, inr_110, inr_112, inr_116, inr_120, inr_122, inr_144, inr_255, inr_256, inr_320, inr_552, inr_576, inr_999, inr_1000, inr_1023, inr_1024, inr_2048, inr_1000000, inr_252645135, inr_858993459, inr_1431655765, okO_19, okF_19_0, rfN_19_0, o_R, o_le, o_lt, o_nlt, o_nle, o_eq, o_ne, h1]
      exact hk2
theorem sp_65 {v : Int} (v0 : -1 ≤ v) (v1 : v ≤ 255) : EX x (d + 1) 65 [.inl v] I J Q = Q (some (.inl (kol v))) I J := by
  rw [@e_65, @g_65_0, @g_65_1, o_R (by omega)]
  unfold kol
  by_cases h1 : v = 101
  · subst h1
    simp only [true_and, if_true, @g_65_68, @g_65_69]
    rfl
  · by_cases h2 : v = 102
    · subst h2
      simp only [true_and, if_true, h1, if_false, @g_65_70, @g_65_71]
      rfl
    · by_cases h3 : v = 105
      · subst h3
        simp (disch := omega) only [true_and, o_ne, o_eq, if_true, if_false, @g_65_66, @g_65_67]
      · by_cases h4 : v = 110
        · subst h4
          simp (disch := omega) only [true_and, o_ne, o_eq, if_true, if_false, @g_65_72, @g_65_73]
        · by_cases h5 : v = 112
          · subst h5
            simp (disch := omega) only [true_and, o_ne, o_eq, if_true, if_false, @g_65_64, @g_65_65]
          · simp only [true_and, h1, h2, h3, h4, h5, if_false, @g_65_74, @g_65_75, ite_self]
end
