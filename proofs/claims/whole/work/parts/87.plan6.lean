/-! ===== plan: what was seen ===== -/
def lft (s : HV) : Int := s 2 - nPas s (s 2).toNat
def kyB (m : Nat) (st : Int) (s : HV) : Nat := (((m * 32 + (pasN s (s 2).toNat).toNat) * 8 + (s 30 + 1).toNat) * 8 + (s 31).toNat) * 16 + (s 29 - st).toNat
def kyN (b : Nat) (v : Int → Int) : Nat → Nat
  | 0 => b
  | w + 1 => kyN b v w * 16 + (v w).toNat
theorem kyN_s {b : Nat} {v : Int → Int} {w : Nat} : kyN b v (w + 1) = kyN b v w * 16 + (v w).toNat := rfl
/-- for how long a word is worn yet -/
def wF (s : HV) (w : Int) : Int := if wornB s (fun i => s (32 + i)) (s 29) w = true then s (32 + w) + s 3 - s 29 else 0
def vW (s : HV) (w : Int) : Int := if w < s 1 then (if 2 * lft s < wF s w then 2 * lft s else wF s w) else 0
def key (m : Nat) (st : Int) (s : HV) : Nat := kyN (kyB m st s) (vW s) 8
def VS (g : HV) (st : Int) (s : HV) : Prop := TE g s ∧ Tld s ∧ 0 ≤ s 31 ∧ s 31 ≤ 5 ∧ st ≤ s 29 ∧ s 29 < st + 16
theorem lft_R {s : HV} (h0 : 0 ≤ s 2) (h : s 2 ≤ 5) : 0 ≤ lft s ∧ lft s ≤ 5 := by
  have := nPas_le s (s 2).toNat
  unfold lft
  omega
theorem worn_u {s : HV} {w h : Int} (h0 : s 29 ≤ h) : wornB s (fun i => s (32 + i)) h w = decide (h - s 29 < wF s w) := by
  unfold wF wornB
  by_cases h1 : s (8 + w) < 4
  · by_cases h2 : 0 ≤ s (32 + w)
    · rw [decide_eq_true h1, decide_eq_true (p := 0 ≤ (fun i => s (32 + i)) w) h2, Bool.true_and, Bool.true_and, Bool.true_and]
      by_cases h3 : s 29 - s (32 + w) < s 3
      · rw [if_pos (decide_eq_true h3)]
        exact decide_eq_decide.mpr (by show h - s (32 + w) < s 3 ↔ _; omega)
      · rw [if_neg (fun z => h3 (of_decide_eq_true z))]
        exact decide_eq_decide.mpr (by show h - s (32 + w) < s 3 ↔ _; omega)
    · rw [decide_eq_false (p := 0 ≤ (fun i => s (32 + i)) w) h2, Bool.and_false, Bool.false_and, Bool.false_and, if_neg (by decide)]
      exact (decide_eq_false (by omega)).symm
  · rw [decide_eq_false h1, Bool.false_and, Bool.false_and, Bool.false_and, if_neg (by decide)]
    exact (decide_eq_false (by omega)).symm
theorem wF_R {s : HV} {w : Int} : 0 ≤ wF s w := by
  unfold wF
  split
  · rename_i h
    have h2 := worn_u (s := s) (w := w) (Int.le_refl (s 29))
    rw [h] at h2
    have h3 := of_decide_eq_true h2.symm
    unfold wF at h3
    rw [if_pos h] at h3
    omega
  · omega
theorem vW_R {s : HV} {w : Int} (h0 : 0 ≤ s 2) (h : s 2 ≤ 5) : 0 ≤ vW s w ∧ vW s w < 16 := by
  have h1 := lft_R h0 h
  have h2 := wF_R (s := s) (w := w)
  unfold vW
  split
  · split <;> omega
  · omega
theorem kyN_inj {b b' : Nat} {v v' : Int → Int} (h1 : ∀ w, 0 ≤ v w ∧ v w < 16) (h2 : ∀ w, 0 ≤ v' w ∧ v' w < 16) : ∀ n : Nat, kyN b v n = kyN b' v' n → b = b' ∧ ∀ w : Int, 0 ≤ w → w < n → v w = v' w
  | 0, h => ⟨h, fun w a c => by omega⟩
  | n + 1, h => by
    rw [kyN_s, kyN_s] at h
    have q1 := h1 n
    have q2 := h2 n
    obtain ⟨i1, i2⟩ := kyN_inj (b := b) (b' := b') h1 h2 n (by omega)
    refine ⟨i1, fun w a c => ?_⟩
    by_cases hw : w = n
    · rw [hw]; omega
    · exact i2 w a (by omega)
theorem kyN_R {b : Nat} {v : Int → Int} (h1 : ∀ w, 0 ≤ v w ∧ v w < 16) : b * 2 ^ 32 ≤ kyN b v 8 ∧ kyN b v 8 < (b + 1) * 2 ^ 32 := by
  have q0 := h1 ((0 : Nat) : Int)
  have q1 := h1 ((1 : Nat) : Int)
  have q2 := h1 ((2 : Nat) : Int)
  have q3 := h1 ((3 : Nat) : Int)
  have q4 := h1 ((4 : Nat) : Int)
  have q5 := h1 ((5 : Nat) : Int)
  have q6 := h1 ((6 : Nat) : Int)
  have q7 := h1 ((7 : Nat) : Int)
  have e : kyN b v 8 = (((((((b * 16 + (v ((0 : Nat) : Int)).toNat) * 16 + (v ((1 : Nat) : Int)).toNat) * 16 + (v ((2 : Nat) : Int)).toNat) * 16 + (v ((3 : Nat) : Int)).toNat) * 16 + (v ((4 : Nat) : Int)).toNat) * 16 + (v ((5 : Nat) : Int)).toNat) * 16 + (v ((6 : Nat) : Int)).toNat) * 16 + (v ((7 : Nat) : Int)).toNat := rfl
  omega
theorem big_R {m K Y : Nat} (h1 : m * 32768 ≤ K) (h2 : K < (m + 1) * 32768) (h3 : K * 4294967296 ≤ Y) (h4 : Y < (K + 1) * 4294967296) : m * 140737488355328 ≤ Y ∧ Y < (m + 1) * 140737488355328 := by
  have e1 : m * 140737488355328 = m * 32768 * 4294967296 := by rw [Nat.mul_assoc]
  have e2 : (m + 1) * 140737488355328 = (m + 1) * 32768 * 4294967296 := by rw [Nat.mul_assoc]
  rw [e1, e2]
  exact ⟨Nat.le_trans (Nat.mul_le_mul_right _ h1) h3, Nat.lt_of_lt_of_le h4 (Nat.mul_le_mul_right _ h2)⟩
theorem key_R {g s : HV} {st : Int} {m : Nat} (V : VS g st s) : m * 2 ^ 47 ≤ key m st s ∧ key m st s < (m + 1) * 2 ^ 47 := by
  obtain ⟨-, ⟨⟨z0, z1, z2, z3, z4, -⟩, l0, l1⟩, f0, f1, t0, t1⟩ := V
  have h := kyN_R (b := kyB m st s) (v := vW s) (fun w => vW_R z3 z4)
  have hp := pas_R (s := s) (m := (s 2).toNat) (by omega)
  unfold key
  rw [show (2 : Nat) ^ 32 = 4294967296 from rfl] at h
  rw [show (2 : Nat) ^ 47 = 140737488355328 from rfl]
  generalize kyN (kyB m st s) (vW s) 8 = Y at h ⊢
  have e : kyB m st s = (((m * 32 + (pasN s (s 2).toNat).toNat) * 8 + (s 30 + 1).toNat) * 8 + (s 31).toNat) * 16 + (s 29 - st).toNat := rfl
  generalize kyB m st s = K at h e
  generalize pasN s (s 2).toNat = p at hp e
  have e2 : m * 32768 ≤ K ∧ K < (m + 1) * 32768 := by clear h; omega
  exact big_R e2.1 e2.2 h.1 h.2
theorem nPas_cg {s σ : HV} : ∀ m : Nat, (∀ t : Int, 0 ≤ t → t < m → passB σ t = passB s t) → nPas σ m = nPas s m
  | 0, _ => rfl
  | m + 1, h => by
    have ih := nPas_cg (s := s) (σ := σ) m (fun t a b => h t a (by omega))
    have h1 := h m (by omega) (by omega)
    unfold passB at h1
    have h2 : (0 ≤ σ (48 + (m : Int))) ↔ (0 ≤ s (48 + (m : Int))) := decide_eq_decide.mp h1
    unfold nPas
    rw [ih]
    by_cases h3 : s (48 + (m : Int)) < 0
    · rw [if_pos h3, if_pos (by omega)]
    · rw [if_neg h3, if_neg (by omega)]
theorem key_inj {g s σ : HV} {st : Int} {m : Nat} (V : VS g st s) (V' : VS g st σ) (h : key m st s = key m st σ) : lft σ = lft s ∧ nPas σ (σ 2).toNat = nPas s (s 2).toNat ∧ ∀ n : Nat, (n : Int) = lft s → Rel n id s σ := by
  obtain ⟨hT, ⟨⟨z0, z1, z2, z3, z4, -⟩, l0, l1⟩, f0, f1, t0, t1⟩ := V
  obtain ⟨hT', ⟨⟨z0', z1', z2', z3', z4', -⟩, l0', l1'⟩, f0', f1', t0', t1'⟩ := V'
  obtain ⟨i1, i2⟩ := kyN_inj (fun w => vW_R z3 z4) (fun w => vW_R z3' z4') 8 h
  have e2 : σ 2 = s 2 := by rw [hT 2 (by omega) (by omega), hT' 2 (by omega) (by omega)]
  have hp := pas_R (s := s) (m := (s 2).toNat) (by omega)
  have hp' := pas_R (s := σ) (m := (σ 2).toNat) (by omega)
  unfold kyB at i1
  have j1 : pasN σ (σ 2).toNat = pasN s (s 2).toNat := by omega
  have j2 : σ 30 = s 30 := by omega
  have j3 : σ 31 = s 31 := by omega
  have j4 : σ 29 = s 29 := by omega
  have ps : ∀ t : Int, 0 ≤ t → t < s 2 → passB σ t = passB s t := fun t a b => by
    have q1 := pasN_tb (g := s) (w := t) a (by omega) (s 2).toNat (by omega)
    have q2 := pasN_tb (g := σ) (w := t) a (by omega) (σ 2).toNat (by omega)
    rw [j1, q1, e2, decide_eq_true (by omega), Bool.true_and, Bool.true_and] at q2
    exact q2.symm
  have hn : nPas σ (σ 2).toNat = nPas s (s 2).toNat := by
    rw [e2]
    exact nPas_cg _ (fun t a b => ps t a (by omega))
  have hl : lft σ = lft s := by unfold lft; omega
  refine ⟨hl, hn, fun n hnl => ⟨fun i a b => by rw [hT' i a b, hT i a b], j4, j2, j3, fun t a b => ⟨a, b, rfl, ps t a b⟩, fun t u _ _ _ _ hz => hz, fun w h a b c d => ?_⟩⟩
  have e1 : σ 1 = s 1 := by rw [hT 1 (by omega) (by omega), hT' 1 (by omega) (by omega)]
  have q := i2 w a (by omega)
  have a1 : vW s w = if 2 * lft s < wF s w then 2 * lft s else wF s w := if_pos b
  have a2 : vW σ w = if 2 * lft σ < wF σ w then 2 * lft σ else wF σ w := if_pos (by omega)
  rw [a1, a2, hl] at q
  rw [worn_u (by omega), worn_u c]
  refine decide_eq_decide.mpr ?_
  rw [j4]
  split at q <;> split at q <;> omega
/-- what the places say: old, or a state that is under way or done -/
def SeOK (g : HV) (st : Int) (m : Nat) (S : HV → Prop) (b : Int) (J : MJ) : Prop := ∀ j : Int, 0 ≤ j → j < 1024 → ∃ k : Nat, J 51 j = Int64.ofNat k ∧ (k < m * 2 ^ 47 ∨ (k < (m + 1) * 2 ^ 47 ∧ ∃ σ, VS g st σ ∧ k = key m st σ ∧ (S σ ∨ b ≤ mh (lft σ).toNat σ)))
theorem se_hit {g s : HV} {st b j : Int} {m : Nat} {S : HV → Prop} {J : MJ} (h : SeOK g st m S b J) (hm : m ≤ 1000) (V : VS g st s) (hS : ∀ σ, S σ → nPas σ (σ 2).toNat < nPas s (s 2).toNat) (j0 : 0 ≤ j) (j1 : j < 1024) (hj : J 51 j = Int64.ofNat (key m st s)) : b ≤ mh (lft s).toNat s := by
  obtain ⟨k, h1, h2⟩ := h j j0 j1
  have hk := key_R (m := m) V
  have z3 := V.2.1.1.2.2.2.1
  have z4 := V.2.1.1.2.2.2.2.1
  have hl := lft_R z3 z4
  have hkb : k < 2 ^ 64 := by
    rcases h2 with h2 | ⟨h2, -⟩ <;> omega
  have e := lg_inj hkb (by omega) (h1.symm.trans hj)
  rcases h2 with h2 | ⟨h2, σ, V', h3, h4⟩
  · omega
  · obtain ⟨r1, r2, r3⟩ := key_inj (m := m) V V' (by omega)
    rcases h4 with h4 | h4
    · have := hS σ h4
      omega
    · have hr := mh_rel (lft s).toNat s σ V.2.1 (r3 (lft s).toNat (by omega))
      rw [r1] at h4
      omega
theorem se_mono {g : HV} {st b b' : Int} {m : Nat} {S S' : HV → Prop} {J : MJ} (h : SeOK g st m S b J) (hb : b' ≤ b) (hS : ∀ σ, S σ → S' σ ∨ b' ≤ mh (lft σ).toNat σ) : SeOK g st m S' b' J := by
  intro j j0 j1
  obtain ⟨k, h1, h2⟩ := h j j0 j1
  refine ⟨k, h1, ?_⟩
  rcases h2 with h2 | ⟨h2, σ, V', h3, h4⟩
  · exact Or.inl h2
  · refine Or.inr ⟨h2, σ, V', h3, ?_⟩
    rcases h4 with h4 | h4
    · exact hS σ h4
    · exact Or.inr (by omega)
theorem se_put {g s : HV} {st b j : Int} {m : Nat} {S : HV → Prop} {J : MJ} (h : SeOK g st m S b J) (V : VS g st s) (hs : S s ∨ b ≤ mh (lft s).toNat s) : SeOK g st m S b (upL J 51 j (Int64.ofNat (key m st s))) := by
  intro i i0 i1
  by_cases hi : i = j
  · refine ⟨key m st s, ?_, Or.inr ⟨(key_R V).2, s, V, rfl, hs⟩⟩
    unfold upL
    rw [if_pos ⟨rfl, hi⟩]
  · obtain ⟨k, h1, h2⟩ := h i i0 i1
    refine ⟨k, ?_, h2⟩
    unfold upL
    rw [if_neg (fun z => hi z.2)]
    exact h1
