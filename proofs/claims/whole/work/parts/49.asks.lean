/-! ===== asks, follows, waits ===== -/
theorem ring_0 {e : Nat} (he : e < 24) {nx : Int} (h : nx = if e = 23 then 0 else (e : Int) + 1) : ringAt nx 0 = e := by
  unfold ringAt
  rw [h]
  split <;> omega
theorem ring_s {e : Nat} (he : e < 24) {nx : Int} (h : nx = if e = 23 then 0 else (e : Int) + 1) (j : Nat) (hj : j < 30) : ringAt nx (j + 1) = ringAt (e : Int) j := by
  unfold ringAt
  rw [h]
  split <;> omega
theorem ring_ne {e : Nat} (he : e < 24) {j : Nat} (hj : j < 23) : ringAt (e : Int) j ≠ e := by
  unfold ringAt
  omega
theorem RAc_cong {I I' : MI} {c : Nat} {g g' : HV} (h : I' c = I c) (r : RAc I c g g') : RAc I' c g g' := by
  unfold RAc at r ⊢
  rw [h]
  exact r
theorem RAs_keep {B B' : Int} {I F : MI} {e : Nat} (r : RAs B I) (hB : B ≤ B') (hW : WIs B (I 94)) (he : I 21 1 = e) (e1 : F 21 1 = if e = 23 then 0 else (e : Int) + 1) (e2 : F 21 2 = if I 21 2 = 24 then 24 else I 21 2 + 1) (e5 : F 92 5 = if I 92 5 = 24 then 24 else I 92 5 + 1)
    (hact : ∀ c, 23 ≤ c → c < 47 → c ≠ 23 + e → F c = I c) (hp1 : past F (F 92 5 - 1) = I 94) (hp2 : ∀ m : Int, 0 ≤ m → m < F 92 5 - 1 → past F m = past I (m + (if I 92 5 = 24 then 1 else 0))) (hac : RAc F (23 + e) (F 94) (I 94)) : RAs B' F := by
  obtain ⟨r1, r2, r3, r4, r5, r6⟩ := r
  have he2 : e < 24 := by omega
  have f5 : F 92 5 = I 92 5 + 1 - (if I 92 5 = 24 then 1 else 0) := by rw [e5]; split <;> omega
  have f5b : F 92 5 ≤ 24 := by rw [e5]; split <;> omega
  refine ⟨by rw [e2, e5, r1], by rw [e5]; split <;> omega, f5b, by rw [e1]; split <;> omega, by rw [e1]; split <;> omega, fun k hk => ?_⟩
  cases k with
  | zero =>
    rw [show F 92 5 - 1 - ((0 : Nat) : Int) = F 92 5 - 1 by omega, hp1, if_pos rfl, ring_0 he2 e1]
    exact ⟨WIs_up hB hW, hac⟩
  | succ j =>
    obtain ⟨q1, q2⟩ := r6 j (by split at f5 <;> omega)
    have g1 : past F (F 92 5 - 1 - ((j + 1 : Nat) : Int)) = past I (I 92 5 - 1 - j) := by
      rw [hp2 _ (by omega) (by omega)]
      congr 1
      split at f5 <;> simp_all <;> omega
    rw [g1, if_neg (by omega), ring_s he2 e1 j (by omega)]
    refine ⟨WIs_up hB q1, ?_⟩
    have g2 : past F (F 92 5 - ((j + 1 : Nat) : Int)) = (if j = 0 then I 94 else past I (I 92 5 - j)) := by
      by_cases hj : j = 0
      · subst hj
        rw [if_pos rfl]
        exact hp1
      · rw [if_neg hj, hp2 _ (by omega) (by omega)]
        congr 1
        split at f5 <;> simp_all <;> omega
    rw [g2]
    refine RAc_cong (hact _ (by omega) (by have := ringAt_lt (e : Int) j; omega) (by have := ring_ne he2 (j := j) (by omega); omega)) ?_
    rw [he] at q2
    exact q2
section
variable {g g' : HV} {t w i : Int}
theorem aS_n (h : i ≠ 29 ∧ i ≠ 30 ∧ i ≠ 31 ∧ i ≠ 32 + w ∧ i ≠ 40 + w ∧ i ≠ 48 + t) : askS g t w i = g i := by
  unfold askS
  rw [if_neg (by omega), if_neg (by omega), if_neg (by omega), if_neg (by omega), if_neg (by omega), if_neg (by omega)]
theorem aS_29 : askS g t w 29 = g 29 + (if g (8 + w) = 5 then 2 else 1) := by unfold askS; rw [if_pos rfl]
theorem aS_30 : askS g t w 30 = g (16 + w) := by unfold askS; rw [if_neg (by omega), if_neg (by omega), if_pos rfl]
theorem aS_31 : askS g t w 31 = g 31 + (if g (8 + w) = 2 then 1 else 0) := by unfold askS; rw [if_neg (by omega), if_pos rfl]
theorem aS_32 (h0 : 0 ≤ w) : askS g t w (32 + w) = g 29 := by unfold askS; rw [if_neg (by omega), if_neg (by omega), if_neg (by omega), if_neg (by omega), if_pos rfl]
theorem aS_40 (h0 : 0 ≤ w) : askS g t w (40 + w) = g (40 + w) + 1 := by unfold askS; rw [if_neg (by omega), if_neg (by omega), if_neg (by omega), if_pos rfl]
theorem aS_48 (h0 : 0 ≤ w) (h1 : w < 8) (h2 : 0 ≤ t) : askS g t w (48 + t) = w := by unfold askS; rw [if_neg (by omega), if_neg (by omega), if_neg (by omega), if_neg (by omega), if_neg (by omega), if_pos rfl]
theorem fS_n (h : i ≠ 29 ∧ i ≠ 31 ∧ i ≠ 48 + t) : folS g t i = g i := by
  unfold folS
  rw [if_neg (by omega), if_neg (by omega), if_neg (by omega)]
theorem fS_29 : folS g t 29 = g 29 + 1 := by unfold folS; rw [if_pos rfl]
theorem fS_31 : folS g t 31 = g 31 - 1 := by unfold folS; rw [if_neg (by omega), if_pos rfl]
theorem fS_48 (h2 : 0 ≤ t) : folS g t (48 + t) = 8 := by unfold folS; rw [if_neg (by omega), if_neg (by omega), if_pos rfl]
theorem nPas_one (h0 : 0 ≤ t) (hg : g (48 + t) < 0) (hg' : 0 ≤ g' (48 + t)) (he : ∀ u : Int, 0 ≤ u → u ≠ t → g' (48 + u) = g (48 + u)) : ∀ m : Nat, nPas g' m = nPas g m + (if t < m then 1 else 0)
  | 0 => by
    rw [if_neg (by omega)]
    rfl
  | m + 1 => by
    unfold nPas
    rw [nPas_one h0 hg hg' he m]
    by_cases hm : t = m
    · subst hm
      rw [if_neg (by omega), if_neg (by omega), if_pos hg, if_pos (by omega)]
    · rw [he m (by omega) (by omega)]
      by_cases hl : t < m
      · rw [if_pos hl, if_pos (show t < ((m + 1 : Nat) : Int) by omega)]
        omega
      · rw [if_neg hl, if_neg (show ¬ t < ((m + 1 : Nat) : Int) by omega)]
        omega
theorem ask_ok {B : Int} (M : MOK B g) (hB : B + 2 ≤ 100000) (h0 : 0 ≤ t) (h1 : t < g 2) (h2 : 0 ≤ w) (h3 : w < g 1) (hp : g (48 + t) < 0) : MOK (B + 2) (askS g t w) := by
  have hb1 := B_1 M
  have hb2 := B_2 M
  have hk := B_w M h2 h3
  have ha := B_a M h2 h3
  obtain ⟨⟨w1, w2, w3, w4, w5, w6, w7, w8, w9⟩, ⟨v1, v2, v3, v4, v5, v6, v7, v8⟩, hBB⟩ := M
  have e1 : askS g t w 1 = g 1 := aS_n (by omega)
  have e2 : askS g t w 2 = g 2 := aS_n (by omega)
  have e0 : askS g t w 0 = g 0 := aS_n (by omega)
  have e3 : askS g t w 3 = g 3 := aS_n (by omega)
  refine ⟨⟨?_, ?_, ?_, ?_, ?_, ?_, ?_, ?_, ?_⟩, ⟨?_, ?_, ?_, ?_, ?_, ?_, ?_, ?_⟩, hB⟩
  all_goals simp only [e0, e1, e2, e3, aS_29, aS_30, aS_31]
  · exact w1
  · exact w2
  · exact w3
  · exact w4
  · exact w5
  · exact w6
  · intro hq
    obtain ⟨z1, z2, z3⟩ := w7 hq
    refine ⟨z1, z2, fun k2 a b => ?_⟩
    rw [aS_n (by omega)]
    exact z3 k2 a b
  · intro u a b
    rw [aS_n (by omega), aS_n (by omega)]
    exact w8 u a b
  · intro u a b
    rw [aS_n (by omega)]
    exact w9 u a b
  · split <;> omega
  · split <;> omega
  · omega
  · omega
  · split <;> omega
  · rw [nPas_one (g := g) h0 hp (by rw [aS_48 h2 (by omega) h0]; omega) (fun u a b => aS_n (by omega)), if_pos (show t < ((g 2).toNat : Int) by omega)]
    split <;> omega
  · intro u a b
    have q := v7 u a b
    by_cases hu : u = w
    · subst hu
      rw [aS_32 h2, aS_40 h2]
      omega
    · rw [aS_n (by omega), aS_n (by omega)]
      omega
  · intro u a b
    have q := v8 u a b
    by_cases hu : u = t
    · subst hu
      rw [aS_48 h2 (by omega) h0]
      omega
    · rw [aS_n (by omega)]
      omega
theorem fol_ok {B : Int} (M : MOK B g) (hB : B + 2 ≤ 100000) (h0 : 0 ≤ t) (h1 : t < g 2) (hp : g (48 + t) < 0) (hf : 0 < g 31) : MOK (B + 2) (folS g t) := by
  have hb1 := B_1 M
  have hb2 := B_2 M
  obtain ⟨⟨w1, w2, w3, w4, w5, w6, w7, w8, w9⟩, ⟨v1, v2, v3, v4, v5, v6, v7, v8⟩, hBB⟩ := M
  have e1 : folS g t 1 = g 1 := fS_n (by omega)
  have e2 : folS g t 2 = g 2 := fS_n (by omega)
  have e0 : folS g t 0 = g 0 := fS_n (by omega)
  have e3 : folS g t 3 = g 3 := fS_n (by omega)
  have e30 : folS g t 30 = g 30 := fS_n (by omega)
  refine ⟨⟨?_, ?_, ?_, ?_, ?_, ?_, ?_, ?_, ?_⟩, ⟨?_, ?_, ?_, ?_, ?_, ?_, ?_, ?_⟩, hB⟩
  all_goals simp only [e0, e1, e2, e3, e30, fS_29, fS_31]
  · exact w1
  · exact w2
  · exact w3
  · exact w4
  · exact w5
  · exact w6
  · intro hq
    obtain ⟨z1, z2, z3⟩ := w7 hq
    refine ⟨z1, z2, fun k2 a b => ?_⟩
    rw [fS_n (by omega)]
    exact z3 k2 a b
  · intro u a b
    rw [fS_n (by omega), fS_n (by omega)]
    exact w8 u a b
  · intro u a b
    rw [fS_n (by omega)]
    exact w9 u a b
  · omega
  · omega
  · omega
  · omega
  · omega
  · rw [nPas_one (g := g) h0 hp (by rw [fS_48 h0]; omega) (fun u a b => fS_n (by omega)), if_pos (show t < ((g 2).toNat : Int) by omega)]
    omega
  · intro u a b
    have q := v7 u a b
    rw [fS_n (by omega), fS_n (by omega)]
    omega
  · intro u a b
    have q := v8 u a b
    by_cases hu : u = t
    · subst hu
      rw [fS_48 h0]
      omega
    · rw [fS_n (by omega)]
      omega
theorem wait_ok {B k : Int} (M : MOK B g) (hB : B + 2 ≤ 100000) (h0 : 0 ≤ k) (h1 : g 29 + k ≤ B) : MOK (B + 2) (laterS g k) := by
  have hb1 := B_1 M
  have hb2 := B_2 M
  obtain ⟨⟨w1, w2, w3, w4, w5, w6, w7, w8, w9⟩, ⟨v1, v2, v3, v4, v5, v6, v7, v8⟩, -⟩ := M
  have e : ∀ i : Int, i ≠ 29 → laterS g k i = g i := fun i hi => by unfold laterS; rw [if_neg hi]
  have e29 : laterS g k 29 = g 29 + k := by unfold laterS; rw [if_pos rfl]
  refine ⟨⟨?_, ?_, ?_, ?_, ?_, ?_, ?_, ?_, ?_⟩, ⟨?_, ?_, ?_, ?_, ?_, ?_, ?_, ?_⟩, hB⟩
  all_goals simp (disch := omega) only [e, e29]
  · exact w1
  · omega
  · omega
  · omega
  · omega
  · exact w6
  · intro hq
    obtain ⟨z1, z2, z3⟩ := w7 hq
    refine ⟨z1, z2, fun k2 a b => ?_⟩
    rw [e _ (by omega)]
    exact z3 k2 a b
  · intro w a b
    rw [e _ (by omega), e _ (by omega)]
    exact w8 w a b
  · intro w a b
    rw [e _ (by omega)]
    exact w9 w a b
  · omega
  · omega
  · omega
  · omega
  · omega
  · rw [nPas_cong (g := g) _ (fun t a b => e _ (by omega))]
    exact v6
  · intro w a b
    rw [e _ (by omega), e _ (by omega)]
    have q := v7 w a b
    omega
  · intro w a b
    rw [e _ (by omega)]
    exact v8 w a b
end
