/-! ===== who: sets of travellers ===== -/
theorem st_A1 : ∀ s : Nat, s < 32 → ∀ t : Nat, t < 5 → tb (s : Int) (t : Int) = true → 0 ≤ xorI (s : Int) (shlI 1 (t : Int)) ∧ xorI (s : Int) (shlI 1 (t : Int)) < s ∧ cnt (xorI (s : Int) (shlI 1 (t : Int))) 8 = cnt (s : Int) 8 - 1 ∧ tb (xorI (s : Int) (shlI 1 (t : Int))) (t : Int) = false ∧ orI (xorI (s : Int) (shlI 1 (t : Int))) (shlI 1 (t : Int)) = s := by decide +kernel
theorem st_A2 : ∀ s : Nat, s < 32 → ∀ t : Nat, t < 5 → tb (s : Int) (t : Int) = false → xorI (orI (s : Int) (shlI 1 (t : Int))) (shlI 1 (t : Int)) = s ∧ cnt (orI (s : Int) (shlI 1 (t : Int))) 8 = cnt (s : Int) 8 + 1 ∧ tb (orI (s : Int) (shlI 1 (t : Int))) (t : Int) = true ∧ 0 ≤ orI (s : Int) (shlI 1 (t : Int)) ∧ orI (s : Int) (shlI 1 (t : Int)) < 32 := by decide +kernel
theorem st_A3 : ∀ T : Nat, T < 6 → ∀ s : Nat, s < 32 → ∀ t : Nat, t < 5 → (s : Int) < 2 ^ T → t < T → orI (s : Int) (shlI 1 (t : Int)) < 2 ^ T := by decide +kernel
theorem st_A4 : ∀ s : Nat, s < 32 → cnt (s : Int) 8 = 0 → s = 0 := by decide +kernel
theorem nat_of {s : Int} (h : 0 ≤ s) : ((s.toNat : Nat) : Int) = s := Int.toNat_of_nonneg h
theorem st_B1 {s t : Int} (s0 : 0 ≤ s) (s1 : s < 32) (t0 : 0 ≤ t) (t1 : t < 5) (h : tb s t = true) : 0 ≤ xorI s (shlI 1 t) ∧ xorI s (shlI 1 t) < s ∧ cnt (xorI s (shlI 1 t)) 8 = cnt s 8 - 1 ∧ tb (xorI s (shlI 1 t)) t = false ∧ orI (xorI s (shlI 1 t)) (shlI 1 t) = s := by
  have q := st_A1 s.toNat (by omega) t.toNat (by omega)
  rw [nat_of s0, nat_of t0] at q
  exact q h
theorem st_B2 {s t : Int} (s0 : 0 ≤ s) (s1 : s < 32) (t0 : 0 ≤ t) (t1 : t < 5) (h : tb s t = false) : xorI (orI s (shlI 1 t)) (shlI 1 t) = s ∧ cnt (orI s (shlI 1 t)) 8 = cnt s 8 + 1 ∧ tb (orI s (shlI 1 t)) t = true ∧ 0 ≤ orI s (shlI 1 t) ∧ orI s (shlI 1 t) < 32 := by
  have q := st_A2 s.toNat (by omega) t.toNat (by omega)
  rw [nat_of s0, nat_of t0] at q
  exact q h
theorem st_B3 {T : Nat} {s t : Int} (hT : T < 6) (s0 : 0 ≤ s) (s1 : s < 32) (t0 : 0 ≤ t) (h1 : s < 2 ^ T) (h2 : t < T) : orI s (shlI 1 t) < 2 ^ T := by
  have q := st_A3 T hT s.toNat (by omega) t.toNat (by omega)
  rw [nat_of s0, nat_of t0] at q
  exact q h1 (by omega)
theorem p32 : ∀ n : Nat, n ≤ 5 → (2 : Int) ^ n ≤ 32 := by decide
section
variable {g : HV} {ws : Int}
/-- the word of a number among the first m of a set -/
def wdN (ws k : Int) : Nat → Int
  | 0 => -1
  | m + 1 => if tb ws m = true ∧ cnt ws m = k then (m : Int) else wdN ws k m
theorem wdN_s {k : Int} {m : Nat} : wdN ws k (m + 1) = if tb ws m = true ∧ cnt ws m = k then (m : Int) else wdN ws k m := rfl
theorem wdN_R {k : Int} : ∀ m : Nat, -1 ≤ wdN ws k m ∧ wdN ws k m < m ∨ wdN ws k m = -1
  | 0 => Or.inr rfl
  | m + 1 => by
    have ih := wdN_R (k := k) m
    rw [wdN_s]
    split <;> omega
theorem cnt_s {a : Int} {m : Nat} : cnt a (m + 1) = cnt a m + (if tb a m = true then 1 else 0) := rfl
theorem cnt_mono (a : Int) (m : Nat) : ∀ k : Nat, cnt a m ≤ cnt a (m + k)
  | 0 => Int.le_refl _
  | k + 1 => by
    have ih := cnt_mono a m k
    show _ ≤ cnt a (m + k) + _
    split <;> omega
theorem wdN_eq {j : Nat} (hj : tb ws j = true) : ∀ k : Nat, wdN ws (cnt ws j) (j + 1 + k) = j
  | 0 => by
    show wdN ws (cnt ws j) (j + 1) = j
    rw [wdN_s, if_pos ⟨hj, rfl⟩]
  | k + 1 => by
    show wdN ws (cnt ws j) ((j + 1 + k) + 1) = j
    have h1 := cnt_mono ws (j + 1) k
    have h2 : cnt ws (j + 1) = cnt ws j + 1 := by rw [cnt_s, if_pos hj]
    rw [wdN_s, if_neg (fun z => by omega)]
    exact wdN_eq hj k
/-- whether a set of travellers can have asked the first words -/
def cfN (g : HV) (f : Int → Bool) (S w : Int) : Nat → Bool
  | 0 => decide (S = 0)
  | t + 1 => cfN g f S w t || (tb S t && tb (g (24 + (t : Int))) w && f (xorI S (shlI 1 t)))
theorem cfN_s {f : Int → Bool} {S w : Int} {t : Nat} : cfN g f S w (t + 1) = (cfN g f S w t || (tb S t && tb (g (24 + (t : Int))) w && f (xorI S (shlI 1 t)))) := rfl
def canF (g : HV) (ws : Int) (f : Int → Bool) (S : Int) : Bool := if wdN ws (cnt S 8 - 1) (g 1).toNat < 0 then decide (S = 0) else cfN g f S (wdN ws (cnt S 8 - 1) (g 1).toNat) (g 2).toNat
def ftN (g : HV) (ws : Int) : Nat → Int → Bool
  | 0 => fun _ => false
  | m + 1 => fun s => if s = m then canF g ws (ftN g ws m) m else ftN g ws m s
theorem ftN_s {m : Nat} {s : Int} : ftN g ws (m + 1) s = if s = m then canF g ws (ftN g ws m) m else ftN g ws m s := rfl
theorem ftN_st {m : Nat} {s : Int} (h : s < m) : ∀ k : Nat, ftN g ws (m + k) s = ftN g ws m s
  | 0 => rfl
  | k + 1 => by
    show ftN g ws ((m + k) + 1) s = _
    rw [ftN_s, if_neg (by omega)]
    exact ftN_st h k
theorem cfN_cong {f f' : Int → Bool} {S w : Int} (S0 : 0 ≤ S) (S1 : S < 32) (h : ∀ s : Int, 0 ≤ s → s < S → f s = f' s) : ∀ t : Nat, t ≤ 5 → cfN g f S w t = cfN g f' S w t
  | 0, _ => rfl
  | t + 1, ht => by
    rw [cfN_s, cfN_s, cfN_cong S0 S1 h t (by omega)]
    cases hb : tb S t
    · rfl
    · obtain ⟨q1, q2, -⟩ := st_B1 S0 S1 (Int.natCast_nonneg t) (show (t : Int) < 5 by omega) hb
      rw [h _ q1 q2]
theorem ftN_fix {B : Int} (M : MOK B g) {N : Nat} (hN : N ≤ 32) {s : Int} (s0 : 0 ≤ s) (s1 : s < N) : ftN g ws N s = canF g ws (ftN g ws N) s := by
  have b2 := B_2 M
  obtain ⟨m, hm⟩ : ∃ m : Nat, s = m := ⟨s.toNat, by omega⟩
  obtain ⟨k, hk⟩ : ∃ k, N = (m + 1) + k := ⟨N - (m + 1), by omega⟩
  have e1 : ftN g ws N s = canF g ws (ftN g ws m) s := by
    rw [hk, ftN_st (by omega), ftN_s, if_pos hm, hm]
  rw [e1]
  unfold canF
  split
  · rfl
  · refine cfN_cong s0 (by omega) (fun s2 a b => ?_) _ (by omega)
    obtain ⟨k2, hk2⟩ : ∃ k, N = m + k := ⟨N - m, by omega⟩
    rw [hk2, ftN_st (by omega)]
theorem cfN_iff {f : Int → Bool} {S w : Int} : ∀ t : Nat, cfN g f S w t = true ↔ S = 0 ∨ ∃ u : Int, 0 ≤ u ∧ u < t ∧ tb S u = true ∧ tb (g (24 + u)) w = true ∧ f (xorI S (shlI 1 u)) = true
  | 0 => by
    show decide (S = 0) = true ↔ _
    rw [decide_eq_true_eq]
    constructor
    · exact Or.inl
    · rintro (h | ⟨u, h0, h1, -⟩)
      · exact h
      · omega
  | t + 1 => by
    rw [cfN_s, Bool.or_eq_true, cfN_iff t, Bool.and_eq_true, Bool.and_eq_true]
    constructor
    · rintro ((h | ⟨u, h0, h1, h2⟩) | ⟨⟨h1, h2⟩, h3⟩)
      · exact Or.inl h
      · exact Or.inr ⟨u, h0, by omega, h2⟩
      · exact Or.inr ⟨t, by omega, by omega, h1, h2, h3⟩
    · rintro (h | ⟨u, h0, h1, h2, h3, h4⟩)
      · exact Or.inl (Or.inl h)
      · by_cases hu : u = t
        · subst hu
          exact Or.inr ⟨⟨h2, h3⟩, h4⟩
        · exact Or.inl (Or.inr ⟨u, h0, by omega, h2, h3, h4⟩)
/-- the class: a traveller more -/
def oneT (g : HV) (c w s lg : Int) : Nat → Int
  | 0 => lg
  | t + 1 => if (tb c s && !tb s t && tb (g (24 + (t : Int))) w) = true then orI (oneT g c w s lg t) (shlI 1 (orI s (shlI 1 t))) else oneT g c w s lg t
theorem oneT_s {c w s lg : Int} {t : Nat} : oneT g c w s lg (t + 1) = if (tb c s && !tb s t && tb (g (24 + (t : Int))) w) = true then orI (oneT g c w s lg t) (shlI 1 (orI s (shlI 1 t))) else oneT g c w s lg t := rfl
def oneS (g : HV) (c w : Int) : Nat → Int
  | 0 => 0
  | s + 1 => oneT g c w s (oneS g c w s) (g 2).toNat
theorem oneS_s {c w : Int} {s : Nat} : oneS g c w (s + 1) = oneT g c w s (oneS g c w s) (g 2).toNat := rfl
theorem oneT_R {c w s lg : Int} (h : inR lg) : ∀ t : Nat, inR (oneT g c w s lg t)
  | 0 => h
  | t + 1 => by
    rw [oneT_s]
    split
    · exact inR_or
    · exact oneT_R h t
theorem oneS_R {c w : Int} : ∀ s : Nat, inR (oneS g c w s)
  | 0 => inR_0
  | s + 1 => oneT_R (oneS_R s) _
theorem oneT_tb {c w s lg S : Int} (s0 : 0 ≤ s) (s1 : s < 32) (S0 : 0 ≤ S) (S1 : S < 32) : ∀ t : Nat, t ≤ 5 → (tb (oneT g c w s lg t) S = true ↔ tb lg S = true ∨ ∃ u : Int, 0 ≤ u ∧ u < t ∧ tb c s = true ∧ tb s u = false ∧ tb (g (24 + u)) w = true ∧ S = orI s (shlI 1 u))
  | 0, _ => by
    constructor
    · exact Or.inl
    · rintro (h | ⟨u, h0, h1, -⟩)
      · exact h
      · omega
  | t + 1, ht => by
    have ih := oneT_tb (c := c) (w := w) (lg := lg) s0 s1 S0 S1 t (by omega)
    rw [oneT_s]
    by_cases hc : (tb c s && !tb s t && tb (g (24 + (t : Int))) w) = true
    · rw [if_pos hc, tb_or, Bool.or_eq_true, ih]
      rw [Bool.and_eq_true, Bool.and_eq_true, Bool.not_eq_true'] at hc
      obtain ⟨⟨hc1, hc2⟩, hc3⟩ := hc
      obtain ⟨-, -, -, q4, q5⟩ := st_B2 s0 s1 (Int.natCast_nonneg t) (show (t : Int) < 5 by omega) hc2
      rw [tb_shl q4 q5 S0 S1, decide_eq_true_eq]
      constructor
      · rintro ((h | ⟨u, h0, h1, h2⟩) | h)
        · exact Or.inl h
        · exact Or.inr ⟨u, h0, by omega, h2⟩
        · exact Or.inr ⟨t, by omega, by omega, hc1, hc2, hc3, h⟩
      · rintro (h | ⟨u, h0, h1, h2, h3, h4, h5⟩)
        · exact Or.inl (Or.inl h)
        · by_cases hu : u = t
          · subst hu
            exact Or.inr h5
          · exact Or.inl (Or.inr ⟨u, h0, by omega, h2, h3, h4, h5⟩)
    · rw [if_neg hc, ih]
      constructor
      · rintro (h | ⟨u, h0, h1, h2⟩)
        · exact Or.inl h
        · exact Or.inr ⟨u, h0, by omega, h2⟩
      · rintro (h | ⟨u, h0, h1, h2, h3, h4, h5⟩)
        · exact Or.inl h
        · by_cases hu : u = t
          · subst hu
            exact absurd (by rw [h2, h3, h4]; rfl) hc
          · exact Or.inr ⟨u, h0, by omega, h2, h3, h4, h5⟩
theorem oneS_tb {B c w S : Int} (M : MOK B g) (S0 : 0 ≤ S) (S1 : S < 32) : ∀ m : Nat, m ≤ 32 → (tb (oneS g c w m) S = true ↔ ∃ s u : Int, 0 ≤ s ∧ s < m ∧ 0 ≤ u ∧ u < g 2 ∧ tb c s = true ∧ tb s u = false ∧ tb (g (24 + u)) w = true ∧ S = orI s (shlI 1 u))
  | 0, _ => by
    rw [show oneS g c w 0 = 0 from rfl, tb_0]
    constructor
    · intro h; cases h
    · rintro ⟨s, u, h0, h1, -⟩
      omega
  | m + 1, hm => by
    have b2 := B_2 M
    rw [oneS_s, oneT_tb (Int.natCast_nonneg m) (by omega) S0 S1 _ (by omega), oneS_tb M S0 S1 m (by omega)]
    constructor
    · rintro (⟨s, u, h0, h1, h2⟩ | ⟨u, h0, h1, h2⟩)
      · exact ⟨s, u, h0, by omega, h2⟩
      · exact ⟨m, u, by omega, by omega, h0, by omega, h2⟩
    · rintro ⟨s, u, h0, h1, h2, h3, h4⟩
      by_cases hs : s = m
      · subst hs
        exact Or.inr ⟨u, h2, by omega, h4⟩
      · exact Or.inl ⟨s, u, h0, by omega, h2, h3, h4⟩
/-- the class: companies by the first words -/
def cmpN (g : HV) (ws : Int) : Nat → Int
  | 0 => 1
  | m + 1 => if tb ws m = true then oneS g (cmpN g ws m) m ((2 : Int) ^ (g 2).toNat).toNat else cmpN g ws m
theorem cmpN_s {m : Nat} : cmpN g ws (m + 1) = if tb ws m = true then oneS g (cmpN g ws m) m ((2 : Int) ^ (g 2).toNat).toNat else cmpN g ws m := rfl
theorem cmpN_R : ∀ m : Nat, inR (cmpN g ws m)
  | 0 => (⟨by decide, by decide⟩ : inR 1)
  | m + 1 => by
    rw [cmpN_s]
    split
    · exact oneS_R _
    · exact cmpN_R m
theorem cmp_tb {B : Int} (M : MOK B g) : ∀ m : Nat, (m : Int) ≤ g 1 → ∀ S : Int, 0 ≤ S → S < 32 → (tb (cmpN g ws m) S = true ↔ S < 2 ^ (g 2).toNat ∧ cnt S 8 = cnt ws m ∧ ftN g ws ((2 : Int) ^ (g 2).toNat).toNat S = true)
  | 0, _ => by
    intro S S0 S1
    have b2 := B_2 M
    have p1 := p2_1 (g 2).toNat (by omega)
    have p2 := p32 (g 2).toNat (by omega)
    rw [show cmpN g ws 0 = 1 from rfl, tb_1 S0 S1, decide_eq_true_eq, show cnt ws 0 = 0 from rfl]
    constructor
    · intro h
      subst h
      refine ⟨by omega, cnt_0 8, ?_⟩
      rw [ftN_fix M (by omega) (Int.le_refl 0) (by omega)]
      unfold canF
      split
      · exact decide_eq_true rfl
      · exact (cfN_iff _).mpr (Or.inl rfl)
    · rintro ⟨-, h, -⟩
      have q := st_A4 S.toNat (by omega)
      rw [nat_of S0] at q
      have := q h
      omega
  | m + 1, hm => by
    intro S S0 S1
    have b1 := B_1 M
    have b2 := B_2 M
    have p1 := p2_1 (g 2).toNat (by omega)
    have p2 := p32 (g 2).toNat (by omega)
    have ih := cmp_tb M m (by omega)
    rw [cmpN_s]
    by_cases hw : tb ws m = true
    · have hc : cnt ws (m + 1) = cnt ws m + 1 := by rw [cnt_s, if_pos hw]
      have hwd : wdN ws (cnt ws m) (g 1).toNat = m := by
        have h1 := wdN_eq hw ((g 1).toNat - (m + 1))
        rw [show m + 1 + ((g 1).toNat - (m + 1)) = (g 1).toNat by omega] at h1
        exact h1
      rw [if_pos hw, oneS_tb M S0 S1 _ (by omega), hc]
      constructor
      · rintro ⟨s, u, h0, h1, h2, h3, h4, h5, h6, h7⟩
        obtain ⟨i1, i2, i3⟩ := (ih s h0 (by omega)).mp h4
        obtain ⟨q1, q2, q3, q4, q5⟩ := st_B2 h0 (by omega) h2 (by omega) h5
        rw [← h7] at q1 q2 q3
        have q6 : S < 2 ^ (g 2).toNat := by rw [h7]; exact st_B3 (by omega) h0 (by omega) h2 i1 (by omega)
        refine ⟨q6, by omega, ?_⟩
        rw [ftN_fix M (by omega) S0 (by omega)]
        unfold canF
        rw [show cnt S 8 - 1 = cnt ws m by omega, hwd, if_neg (by omega)]
        exact (cfN_iff _).mpr (Or.inr ⟨u, h2, by omega, q3, h6, by rw [q1]; exact i3⟩)
      · rintro ⟨h1, h2, h3⟩
        rw [ftN_fix M (by omega) S0 (by omega)] at h3
        unfold canF at h3
        rw [show cnt S 8 - 1 = cnt ws m by omega, hwd, if_neg (by omega)] at h3
        rcases (cfN_iff _).mp h3 with h4 | ⟨u, k0, k1, k2, k3, k4⟩
        · rw [h4, cnt_0] at h2
          have := cnt_le ws m
          omega
        · obtain ⟨q1, q2, q3, q4, q5⟩ := st_B1 S0 S1 k0 (by omega) k2
          exact ⟨xorI S (shlI 1 u), u, q1, by omega, k0, by omega, (ih _ q1 (by omega)).mpr ⟨by omega, by omega, k4⟩, q4, k3, q5.symm⟩
    · rw [if_neg hw]
      have hc : cnt ws (m + 1) = cnt ws m := by rw [cnt_s, if_neg hw, Int.add_zero]
      rw [hc]
      exact ih S S0 S1
end
