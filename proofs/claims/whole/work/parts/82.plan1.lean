/-! ===== plan: what both seek ===== -/
abbrev AC : Type := Int × (Int → Int)
/-- a step's number is 16 * traveller + word, the word 8 follows -/
def stB (s : HV) (c : Int) : Bool := if c % 16 = 8 then !passB s (c / 16) && decide (0 < s 31) else decide (c % 16 < s 1) && askB s (c / 16) (c % 16)
def nxS (s : HV) (c : Int) : HV := if c % 16 = 8 then folS s (c / 16) else askS s (c / 16) (c % 16)
def rowU (tr : Int → Int) (k c : Int) : Int → Int := fun j => if j = k then c else tr j
def impF (f : Int → AC → AC) : Nat → AC → AC
  | 0, a => a
  | m + 1, a => f m (impF f m a)
def imp : Nat → Int → HV → (Int → Int) → AC → AC
  | 0, _, s, tr, a => if s 29 < a.1 then (s 29, tr) else a
  | n + 1, k, s, tr, a => impF (fun c a => if stB s c = true then imp n (k + 1) (nxS s c) (rowU tr k c) a else a) (16 * (s 2).toNat) a
def mnF (p : Int → Int) : Nat → Int
  | 0 => 1000000
  | m + 1 => min (mnF p m) (p m)
/-- the least last hour -/
def mh : Nat → HV → Int
  | 0, s => s 29
  | n + 1, s => mnF (fun c => if stB s c = true then mh n (nxS s c) else 1000000) (16 * (s 2).toNat)
def impS (n : Nat) (k : Int) (s : HV) (tr : Int → Int) (c : Int) (a : AC) : AC := if stB s c = true then imp n (k + 1) (nxS s c) (rowU tr k c) a else a
def mhS (n : Nat) (s : HV) (c : Int) : Int := if stB s c = true then mh n (nxS s c) else 1000000
theorem imp_s {n : Nat} {k : Int} {s : HV} {tr : Int → Int} {a : AC} : imp (n + 1) k s tr a = impF (impS n k s tr) (16 * (s 2).toNat) a := rfl
theorem mh_s {n : Nat} {s : HV} : mh (n + 1) s = mnF (mhS n s) (16 * (s 2).toNat) := rfl
theorem mnF_s {p : Int → Int} {m : Nat} : mnF p (m + 1) = min (mnF p m) (p m) := rfl
theorem impF_s {f : Int → AC → AC} {m : Nat} {a : AC} : impF f (m + 1) a = f m (impF f m a) := rfl
theorem mnF_le {p : Int → Int} : ∀ m : Nat, mnF p m ≤ 1000000
  | 0 => Int.le_refl _
  | m + 1 => by
    have ih := mnF_le (p := p) m
    rw [mnF_s]
    omega
theorem mnF_at {p : Int → Int} : ∀ (m : Nat) (c : Int), 0 ≤ c → c < m → mnF p m ≤ p c
  | 0, c, h0, h1 => by omega
  | m + 1, c, h0, h1 => by
    rw [mnF_s]
    by_cases hc : c = m
    · rw [hc]; omega
    · have ih := mnF_at (p := p) m c h0 (by omega)
      omega
theorem mnF_ge {p : Int → Int} {v : Int} (hv : v ≤ 1000000) : ∀ m : Nat, (∀ c : Int, 0 ≤ c → c < m → v ≤ p c) → v ≤ mnF p m
  | 0, _ => hv
  | m + 1, h => by
    have ih := mnF_ge (p := p) hv m (fun c a b => h c a (by omega))
    have h1 := h m (by omega) (by omega)
    rw [mnF_s]
    omega
theorem nx_29 {s : HV} {c : Int} : s 29 + 1 ≤ nxS s c 29 ∧ nxS s c 29 ≤ s 29 + 2 := by
  unfold nxS
  split
  · rw [fS_29]; omega
  · rw [aS_29]
    split <;> omega
theorem mh_ge : ∀ (n : Nat) (s : HV), s 29 + 2 * n ≤ 1000000 → s 29 + n ≤ mh n s
  | 0, s, h => by
    show s 29 + ((0 : Nat) : Int) ≤ s 29
    omega
  | n + 1, s, h => by
    rw [mh_s]
    refine mnF_ge (by omega) _ (fun c a b => ?_)
    unfold mhS
    split
    · have h1 := nx_29 (s := s) (c := c)
      have ih := mh_ge n (nxS s c) (by omega)
      omega
    · omega
theorem impS_id {n : Nat} {k : Int} {s : HV} {tr : Int → Int} {c : Int} {a : AC} (hi : ∀ (k : Int) (s : HV) (tr : Int → Int) (a : AC), a.1 ≤ mh n s → imp n k s tr a = a) (h : a.1 ≤ mhS n s c) : impS n k s tr c a = a := by
  unfold impS
  unfold mhS at h
  split
  · rename_i hc
    rw [if_pos hc] at h
    exact hi _ _ _ _ h
  · rfl
theorem imp_id : ∀ (n : Nat) (k : Int) (s : HV) (tr : Int → Int) (a : AC), a.1 ≤ mh n s → imp n k s tr a = a
  | 0, k, s, tr, a, h => by
    have h1 : a.1 ≤ s 29 := h
    show (if s 29 < a.1 then (s 29, tr) else a) = a
    rw [if_neg (by omega)]
  | n + 1, k, s, tr, a, h => by
    rw [imp_s]
    have h1 : a.1 ≤ mnF (mhS n s) (16 * (s 2).toNat) := h
    have key : ∀ m : Nat, a.1 ≤ mnF (mhS n s) m → impF (impS n k s tr) m a = a := by
      intro m
      induction m with
      | zero => intro _; rfl
      | succ m ih =>
        intro h2
        rw [mnF_s] at h2
        rw [impF_s, ih (by omega)]
        exact impS_id (fun k s tr a h => imp_id n k s tr a h) (by omega)
    exact key _ h1
theorem impS_1 {n : Nat} {k : Int} {s : HV} {tr : Int → Int} {c : Int} {a : AC} (hi : ∀ (k : Int) (s : HV) (tr : Int → Int) (a : AC), a.1 ≤ 1000000 → (imp n k s tr a).1 = min a.1 (mh n s)) (h : a.1 ≤ 1000000) : (impS n k s tr c a).1 = min a.1 (mhS n s c) := by
  unfold impS mhS
  split
  · exact hi _ _ _ _ h
  · omega
theorem impF_1 {n : Nat} {k : Int} {s : HV} {tr : Int → Int} {a : AC} (hi : ∀ (k : Int) (s : HV) (tr : Int → Int) (a : AC), a.1 ≤ 1000000 → (imp n k s tr a).1 = min a.1 (mh n s)) (h : a.1 ≤ 1000000) : ∀ m : Nat, (impF (impS n k s tr) m a).1 = min a.1 (mnF (mhS n s) m)
  | 0 => by
    show a.1 = min a.1 1000000
    omega
  | m + 1 => by
    have ih := impF_1 (k := k) (s := s) (tr := tr) hi h m
    rw [impF_s, mnF_s, impS_1 hi (by omega), ih]
    omega
theorem imp_1 : ∀ (n : Nat) (k : Int) (s : HV) (tr : Int → Int) (a : AC), a.1 ≤ 1000000 → (imp n k s tr a).1 = min a.1 (mh n s)
  | 0, k, s, tr, a, h => by
    show (if s 29 < a.1 then (s 29, tr) else a).1 = min a.1 (s 29)
    split
    · show s 29 = min a.1 (s 29)
      omega
    · omega
  | n + 1, k, s, tr, a, h => by
    rw [imp_s, mh_s]
    exact impF_1 (fun k s tr a h => imp_1 n k s tr a h) h _
theorem nx_lo {s : HV} {c i : Int} (hc : 0 ≤ c) (hi : i < 29) : nxS s c i = s i := by
  unfold nxS
  split
  · exact fS_n (by omega)
  · exact aS_n (by omega)
def wrn (k m a h : Int) : Bool := decide (k < 4) && decide (0 ≤ a) && decide (h - a < m)
theorem wornB_v {g : HV} {wh : Int → Int} {h w : Int} : wornB g wh h w = wrn (g (8 + w)) (g 3) (wh w) h := rfl
/-- told alike and what is alike, up to the travellers' order, for 2 n hours -/
def Rel (n : Nat) (π : Int → Int) (s s' : HV) : Prop := (∀ i : Int, 0 ≤ i → i < 29 → s' i = s i) ∧ s' 29 = s 29 ∧ s' 30 = s 30 ∧ s' 31 = s 31 ∧
  (∀ t : Int, 0 ≤ t → t < s 2 → 0 ≤ π t ∧ π t < s 2 ∧ s (24 + π t) = s (24 + t) ∧ passB s' (π t) = passB s t) ∧ (∀ t u : Int, 0 ≤ t → t < s 2 → 0 ≤ u → u < s 2 → π t = π u → t = u) ∧
  ∀ w h : Int, 0 ≤ w → w < s 1 → s 29 ≤ h → h < s 29 + 2 * n → wornB s' (fun i => s' (32 + i)) h w = wornB s (fun i => s (32 + i)) h w
def Tld (s : HV) : Prop := WTo s ∧ -1 ≤ s 30 ∧ s 30 ≤ 3
theorem rel_st {n : Nat} {π : Int → Int} {s s' : HV} {t w : Int} (T : Tld s) (R : Rel (n + 1) π s s') (t0 : 0 ≤ t) (t1 : t < s 2) (w0 : 0 ≤ w) (w1 : w < 16) : stB s' (16 * π t + w) = stB s (16 * t + w) := by
  obtain ⟨⟨z0, z1, z2, z3, z4, -⟩, l0, l1⟩ := T
  obtain ⟨r1, r2, r3, r4, r5, r6, r7⟩ := R
  obtain ⟨p1, p2, p3, p4⟩ := r5 t t0 t1
  have e1 : (16 * π t + w) % 16 = w := by omega
  have e2 : (16 * π t + w) / 16 = π t := by omega
  have e3 : (16 * t + w) % 16 = w := by omega
  have e4 : (16 * t + w) / 16 = t := by omega
  unfold stB
  rw [e1, e2, e3, e4]
  by_cases h8 : w = 8
  · rw [if_pos h8, if_pos h8, p4, r4]
  · rw [if_neg h8, if_neg h8, r1 1 (by omega) (by omega)]
    by_cases hw : w < s 1
    · rw [decide_eq_true hw, Bool.true_and, Bool.true_and]
      have q := r7 w (s 29) w0 hw (by omega) (by omega)
      have q2 : comesB s' w (s 30) = comesB s w (s 30) := by
        unfold comesB
        rw [r1 (8 + w) (by omega) (by omega), r1 (16 + w) (by omega) (by omega)]
        by_cases hl : s 30 < 0
        · rw [decide_eq_true hl]
          rfl
        · rw [r1 (4 + s 30) (by omega) (by omega)]
      unfold askB mayB
      rw [p4, r1 (24 + π t) (by omega) (by omega), p3, r2, r3, q, q2]
    · rw [decide_eq_false hw]
      rfl
theorem rel_nx {n : Nat} {π : Int → Int} {s s' : HV} {t w : Int} (T : Tld s) (R : Rel (n + 1) π s s') (t0 : 0 ≤ t) (t1 : t < s 2) (w0 : 0 ≤ w) (w1 : w < 16) (hs : stB s (16 * t + w) = true) : Tld (nxS s (16 * t + w)) ∧ Rel n π (nxS s (16 * t + w)) (nxS s' (16 * π t + w)) := by
  have T0 := T
  obtain ⟨⟨z0, z1, z2, z3, z4, z5, z6, z7, z8⟩, l0, l1⟩ := T
  obtain ⟨r1, r2, r3, r4, r5, r6, r7⟩ := R
  obtain ⟨p1, p2, p3, p4⟩ := r5 t t0 t1
  have e1 : (16 * π t + w) % 16 = w := by omega
  have e2 : (16 * π t + w) / 16 = π t := by omega
  have e3 : (16 * t + w) % 16 = w := by omega
  have e4 : (16 * t + w) / 16 = t := by omega
  have lo : ∀ i : Int, 0 ≤ i → i < 29 → nxS s (16 * t + w) i = s i := fun i _ b => nx_lo (by omega) b
  have lo' : ∀ i : Int, 0 ≤ i → i < 29 → nxS s' (16 * π t + w) i = s i := fun i a b => by rw [nx_lo (by omega) b, r1 i a b]
  have W : WTo (nxS s (16 * t + w)) := WTo_ext (fun i a b => lo i a (by omega)) T0.1
  have hb := nx_29 (s := s) (c := 16 * t + w)
  unfold stB at hs
  rw [e3, e4] at hs
  by_cases h8 : w = 8
  · rw [if_pos h8] at hs
    have n1 : nxS s (16 * t + w) = folS s t := by unfold nxS; rw [e3, e4, if_pos h8]
    have n2 : nxS s' (16 * π t + w) = folS s' (π t) := by unfold nxS; rw [e1, e2, if_pos h8]
    rw [n1] at lo W hb ⊢
    rw [n2] at lo' ⊢
    refine ⟨⟨W, by rw [fS_n (by omega)]; exact l0, by rw [fS_n (by omega)]; exact l1⟩, fun i a b => by rw [lo i a b, lo' i a b], by rw [fS_29, fS_29, r2], by rw [fS_n (by omega), fS_n (by omega), r3], by rw [fS_31, fS_31, r4], fun u a b => ?_, fun u v a b c d => ?_, fun v h a b c d => ?_⟩
    · rw [lo 2 (by omega) (by omega)] at b
      obtain ⟨q1, q2, q3, q4⟩ := r5 u a b
      refine ⟨q1, by rw [lo 2 (by omega) (by omega)]; exact q2, by rw [lo _ (by omega) (by omega), lo _ (by omega) (by omega)]; exact q3, ?_⟩
      by_cases hu : u = t
      · subst hu
        unfold passB
        rw [fS_48 p1, fS_48 t0]
      · have hp : π u ≠ π t := fun z => hu (r6 u t a b t0 t1 z)
        unfold passB at q4 ⊢
        rw [fS_n (by omega), fS_n (by omega)]
        exact q4
    · rw [lo 2 (by omega) (by omega)] at b d
      exact r6 u v a b c d
    · rw [lo 1 (by omega) (by omega)] at b
      have q := r7 v h a b (by omega) (by omega)
      rw [wornB_v, wornB_v] at q ⊢
      rw [lo _ (by omega) (by omega), lo 3 (by omega) (by omega), lo' _ (by omega) (by omega), lo' 3 (by omega) (by omega)]
      rw [r1 _ (by omega) (by omega), r1 3 (by omega) (by omega)] at q
      rw [fS_n (i := 32 + v) (by omega), fS_n (i := 32 + v) (by omega)]
      exact q
  · rw [if_neg h8, Bool.and_eq_true, decide_eq_true_eq] at hs
    have n1 : nxS s (16 * t + w) = askS s t w := by unfold nxS; rw [e3, e4, if_neg h8]
    have n2 : nxS s' (16 * π t + w) = askS s' (π t) w := by unfold nxS; rw [e1, e2, if_neg h8]
    have zw := z7 w w0 hs.1
    have k1 := r1 (8 + w) (by omega) (by omega)
    have k2 := r1 (16 + w) (by omega) (by omega)
    rw [n1] at lo W hb ⊢
    rw [n2] at lo' ⊢
    refine ⟨⟨W, by rw [aS_30]; omega, by rw [aS_30]; omega⟩, fun i a b => by rw [lo i a b, lo' i a b], by rw [aS_29, aS_29, r2, k1], by rw [aS_30, aS_30, k2], by rw [aS_31, aS_31, r4, k1], fun u a b => ?_, fun u v a b c d => ?_, fun v h a b c d => ?_⟩
    · rw [lo 2 (by omega) (by omega)] at b
      obtain ⟨q1, q2, q3, q4⟩ := r5 u a b
      refine ⟨q1, by rw [lo 2 (by omega) (by omega)]; exact q2, by rw [lo _ (by omega) (by omega), lo _ (by omega) (by omega)]; exact q3, ?_⟩
      by_cases hu : u = t
      · subst hu
        unfold passB
        rw [aS_48 w0 (by omega) p1, aS_48 w0 (by omega) t0]
      · have hp : π u ≠ π t := fun z => hu (r6 u t a b t0 t1 z)
        unfold passB at q4 ⊢
        rw [aS_n (by omega), aS_n (by omega)]
        exact q4
    · rw [lo 2 (by omega) (by omega)] at b d
      exact r6 u v a b c d
    · rw [lo 1 (by omega) (by omega)] at b
      have q := r7 v h a b (by omega) (by omega)
      rw [wornB_v, wornB_v] at q ⊢
      rw [lo _ (by omega) (by omega), lo 3 (by omega) (by omega), lo' _ (by omega) (by omega), lo' 3 (by omega) (by omega)]
      rw [r1 _ (by omega) (by omega), r1 3 (by omega) (by omega)] at q
      by_cases hv : v = w
      · subst hv
        rw [aS_32 w0, aS_32 w0, r2]
      · rw [aS_n (i := 32 + v) (by omega), aS_n (i := 32 + v) (by omega)]
        exact q
theorem mh_rel {π : Int → Int} : ∀ (n : Nat) (s s' : HV), Tld s → Rel n π s s' → mh n s' ≤ mh n s
  | 0, s, s', T, R => by
    show s' 29 ≤ s 29
    rw [R.2.1]
    exact Int.le_refl _
  | n + 1, s, s', T, R => by
    rw [mh_s, mh_s]
    refine mnF_ge (mnF_le _) _ (fun c c0 c1 => ?_)
    have b2 := T.1.2.2.2.1
    have e2 : s' 2 = s 2 := R.1 2 (by omega) (by omega)
    obtain ⟨t, w, hc, w0, w1, t0, t1⟩ : ∃ t w : Int, c = 16 * t + w ∧ 0 ≤ w ∧ w < 16 ∧ 0 ≤ t ∧ t < s 2 := ⟨c / 16, c % 16, by omega, by omega, by omega, by omega, by omega⟩
    subst hc
    obtain ⟨p1, p2, -, -⟩ := R.2.2.2.2.1 t t0 t1
    have h1 := mnF_at (p := mhS n s') (16 * (s' 2).toNat) (16 * π t + w) (by omega) (by omega)
    refine Int.le_trans h1 ?_
    unfold mhS
    rw [rel_st T R t0 t1 w0 w1]
    split
    · rename_i hs
      obtain ⟨T2, R2⟩ := rel_nx T R t0 t1 w0 w1 hs
      exact mh_rel n _ _ T2 R2
    · exact Int.le_refl _
