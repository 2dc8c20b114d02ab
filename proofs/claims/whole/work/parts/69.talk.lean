/-! ===== talk: the longest row ===== -/
theorem st_A5 : ∀ s : Nat, s < 256 → ∀ w : Nat, w < 8 → tb (s : Int) (w : Int) = false → orI (s : Int) (shlI 1 (w : Int)) = s + 2 ^ w := by decide +kernel
theorem st_B5 {s w : Int} (s0 : 0 ≤ s) (s1 : s < 256) (w0 : 0 ≤ w) (w1 : w < 8) (h : tb s w = false) : s < orI s (shlI 1 w) := by
  have q := st_A5 s.toNat (by omega) w.toNat (by omega)
  rw [nat_of s0, nat_of w0] at q
  have p := p2_1 w.toNat (by omega)
  rw [q h]
  omega
theorem or_lt {W : Nat} {s w : Int} (hW : W ≤ 8) (s0 : 0 ≤ s) (s1 : s < 2 ^ W) (w0 : 0 ≤ w) (w1 : w < W) : 0 ≤ orI s (shlI 1 w) ∧ orI s (shlI 1 w) < 2 ^ W := lt_tb inR_or (by omega) (fun v a b => by
  rw [tb_or, tb_lt s0 s1 a b, tb_shl w0 (by omega) (by omega) b, decide_eq_false (by omega)]
  rfl)
theorem cnt_or {U w : Int} (w0 : 0 ≤ w) (w1 : w < 32) (h : tb U w = false) : ∀ m : Nat, m ≤ 32 → cnt (orI U (shlI 1 w)) m = cnt U m + (if w < m then 1 else 0)
  | 0, _ => by rw [if_neg (by omega)]; rfl
  | m + 1, hm => by
    rw [cnt_s, cnt_s, cnt_or w0 w1 h m (by omega), tb_or, tb_shl w0 w1 (Int.natCast_nonneg m) (by omega)]
    by_cases he : (m : Int) = w
    · rw [decide_eq_true he, Bool.or_true, if_pos rfl, if_neg (by omega), he, h, if_neg (by decide), if_pos (by omega)]
    · rw [decide_eq_false he, Bool.or_false]
      by_cases hl : w < m
      · rw [if_pos hl, if_pos (show w < ((m + 1 : Nat) : Int) by omega)]
        omega
      · rw [if_neg hl, if_neg (show ¬ w < ((m + 1 : Nat) : Int) by omega)]
        omega
def mxN (p : Int → Int) : Nat → Int
  | 0 => 0
  | m + 1 => if mxN p m < p m then p m else mxN p m
theorem mxN_s {p : Int → Int} {m : Nat} : mxN p (m + 1) = if mxN p m < p m then p m else mxN p m := rfl
theorem mxN_cong {p p' : Int → Int} : ∀ m : Nat, (∀ w : Int, 0 ≤ w → w < m → p w = p' w) → mxN p m = mxN p' m
  | 0, _ => rfl
  | m + 1, h => by rw [mxN_s, mxN_s, mxN_cong m (fun w a b => h w a (by omega)), h m (by omega) (by omega)]
theorem mxN_R {p : Int → Int} {c : Int} (hc : 0 ≤ c) : ∀ m : Nat, (∀ w : Int, 0 ≤ w → w < m → p w ≤ c) → 0 ≤ mxN p m ∧ mxN p m ≤ c
  | 0, _ => ⟨Int.le_refl 0, hc⟩
  | m + 1, h => by
    have ih := mxN_R hc m (fun w a b => h w a (by omega))
    have hm := h m (by omega) (by omega)
    rw [mxN_s]
    split <;> omega
theorem mxN_ex {p : Int → Int} : ∀ m : Nat, 0 < mxN p m → ∃ w : Int, 0 ≤ w ∧ w < m ∧ p w = mxN p m
  | 0, h => absurd (show (0 : Int) < 0 from h) (by decide)
  | m + 1, h => by
    rw [mxN_s] at h ⊢
    by_cases hc : mxN p m < p m
    · rw [if_pos hc]
      exact ⟨m, by omega, by omega, rfl⟩
    · rw [if_neg hc] at h ⊢
      obtain ⟨w, a, b, c⟩ := mxN_ex m h
      exact ⟨w, a, by omega, c⟩
def tlN (g : HV) : Nat → Int → Int → Int
  | 0, _, _ => 0
  | f + 1, U, c => mxN (fun w => if (!tb U w && comesB g w c) = true then 1 + tlN g f (orI U (shlI 1 w)) (g (16 + w)) else 0) (g 1).toNat
theorem tlN_s {g : HV} {f : Nat} {U c : Int} : tlN g (f + 1) U c = mxN (fun w => if (!tb U w && comesB g w c) = true then 1 + tlN g f (orI U (shlI 1 w)) (g (16 + w)) else 0) (g 1).toNat := rfl
theorem tlN_R {g : HV} : ∀ (f : Nat) (U c : Int), 0 ≤ tlN g f U c ∧ tlN g f U c ≤ f
  | 0, _, _ => ⟨Int.le_refl 0, Int.le_refl 0⟩
  | f + 1, U, c => by
    rw [tlN_s]
    refine mxN_R (by omega) _ (fun w a b => ?_)
    have ih := tlN_R (g := g) f (orI U (shlI 1 w)) (g (16 + w))
    show (if (!tb U w && comesB g w c) = true then 1 + tlN g f (orI U (shlI 1 w)) (g (16 + w)) else 0) ≤ _
    split <;> omega
theorem tlN_st {g : HV} (h0 : 0 ≤ g 1) (h1 : g 1 ≤ 8) : ∀ (f : Nat) (U c : Int), g 1 - cnt U (g 1).toNat ≤ f → tlN g (f + 1) U c = tlN g f U c
  | 0, U, c, h => by
    have hl := cnt_le U (g 1).toNat
    have ha := cnt_all (a := U) (m := (g 1).toNat) (by omega)
    rw [tlN_s, mxN_cong (p' := fun _ => 0) _ (fun w a b => by rw [ha w a b]; rfl)]
    have hz : ∀ m : Nat, mxN (fun _ => 0) m = 0 := fun m => by
      induction m with
      | zero => rfl
      | succ m ih => rw [mxN_s, ih]; rfl
    rw [hz]
    rfl
  | f + 1, U, c, h => by
    rw [tlN_s, tlN_s (f := f)]
    refine mxN_cong _ (fun w a b => ?_)
    cases ht : tb U w
    · have hc := cnt_or (U := U) a (by omega) ht (g 1).toNat (by omega)
      rw [if_pos (by omega)] at hc
      rw [tlN_st h0 h1 f (orI U (shlI 1 w)) (g (16 + w)) (by omega)]
    · rfl
/-- the longest row that begins with a word -/
def byW (g : HV) (U c w : Int) : Int := if (!tb U w && comesB g w c) = true then 1 + tlN g 8 (orI U (shlI 1 w)) (g (16 + w)) else 0
theorem tl_fix {g : HV} (h0 : 0 ≤ g 1) (h1 : g 1 ≤ 8) {U c : Int} : tlN g 8 U c = mxN (byW g U c) (g 1).toNat := by
  have hl := cnt_le U (g 1).toNat
  rw [← tlN_st h0 h1 8 U c (by omega), tlN_s]
  rfl
theorem byW_R {g : HV} {U c w : Int} : 0 ≤ byW g U c w ∧ byW g U c w ≤ 9 := by
  have h := tlN_R (g := g) 8 (orI U (shlI 1 w)) (g (16 + w))
  unfold byW
  split <;> omega
/-- words worn now -/
def wnN (g : HV) : Nat → Int
  | 0 => 0
  | m + 1 => if wornB g (fun i => g (32 + i)) (g 29) m = true then orI (wnN g m) (shlI 1 m) else wnN g m
theorem wnN_s {g : HV} {m : Nat} : wnN g (m + 1) = if wornB g (fun i => g (32 + i)) (g 29) m = true then orI (wnN g m) (shlI 1 m) else wnN g m := rfl
theorem wnN_tb {g : HV} {w : Int} (h0 : 0 ≤ w) (h1 : w < 32) : ∀ m : Nat, m ≤ 32 → tb (wnN g m) w = (decide (w < m) && wornB g (fun i => g (32 + i)) (g 29) w)
  | 0, _ => by
    rw [show wnN g 0 = 0 from rfl, tb_0, decide_eq_false (by omega)]
    rfl
  | m + 1, hn => by
    rw [wnN_s]
    have ih := wnN_tb (g := g) h0 h1 m (by omega)
    by_cases hm : wornB g (fun i => g (32 + i)) (g 29) m = true
    · rw [if_pos hm, tb_or, ih, tb_shl (by omega) (by omega) h0 h1]
      by_cases he : w = m
      · rw [he, hm, decide_eq_true (show (m : Int) = m from rfl), decide_eq_true (show (m : Int) < ((m + 1 : Nat) : Int) by omega), Bool.or_true]
        rfl
      · rw [decide_eq_false he, Bool.or_false]
        congr 1
        exact decide_eq_decide.mpr (by omega)
    · rw [if_neg hm, ih]
      by_cases he : w = m
      · rw [he, Bool.not_eq_true _ |>.mp hm, Bool.and_false, Bool.and_false]
      · congr 1
        exact decide_eq_decide.mpr (by omega)
theorem wnN_lt {g : HV} {W : Nat} (hW : W ≤ 8) : 0 ≤ wnN g W ∧ wnN g W < 2 ^ W := by
  have hR : ∀ m : Nat, inR (wnN g m) := fun m => by
    induction m with
    | zero => exact inR_0
    | succ m ih =>
      rw [wnN_s]
      split
      · exact inR_or
      · exact ih
  exact lt_tb (hR W) (by omega) (fun w a b => by rw [wnN_tb (by omega) b W (by omega), decide_eq_false (by omega)]; rfl)
/-- the first word from k on, of m, by which it is so long -/
def fsN (p : Int → Int) (l : Int) : Nat → Int → Int
  | 0, _ => -1000000
  | m + 1, k => if p k = l then k else fsN p l m (k + 1)
theorem fsN_s {p : Int → Int} {l k : Int} {m : Nat} : fsN p l (m + 1) k = if p k = l then k else fsN p l m (k + 1) := rfl
theorem fsN_ex {p : Int → Int} {l : Int} : ∀ (m : Nat) (k w : Int), k ≤ w → w < k + m → p w = l → k ≤ fsN p l m k ∧ fsN p l m k < k + m ∧ p (fsN p l m k) = l
  | 0, k, w, h0, h1, _ => by omega
  | m + 1, k, w, h0, h1, h2 => by
    rw [fsN_s]
    by_cases hk : p k = l
    · rw [if_pos hk]
      exact ⟨by omega, by omega, hk⟩
    · rw [if_neg hk]
      have hw : w ≠ k := fun z => hk (by rw [← z]; exact h2)
      have ih := fsN_ex m (k + 1) w (by omega) (by omega) h2
      exact ⟨by omega, by omega, ih.2.2⟩
/-- used words and the last case behind k words -/
def sqN (g : HV) (L : Int) : Nat → Int × Int
  | 0 => (wnN g (g 1).toNat, g 30)
  | k + 1 => (orI (sqN g L k).1 (shlI 1 (fsN (byW g (sqN g L k).1 (sqN g L k).2) (L - k) (g 1).toNat 0)), g (16 + fsN (byW g (sqN g L k).1 (sqN g L k).2) (L - k) (g 1).toNat 0))
/-- the k-th word -/
def wdT (g : HV) (L : Int) (k : Nat) : Int := fsN (byW g (sqN g L k).1 (sqN g L k).2) (L - k) (g 1).toNat 0
theorem sqN_s {g : HV} {L : Int} {k : Nat} : sqN g L (k + 1) = (orI (sqN g L k).1 (shlI 1 (wdT g L k)), g (16 + wdT g L k)) := rfl
def tkL (g : HV) : Int := tlN g 8 (wnN g (g 1).toNat) (g 30)
theorem sq_ok {B : Int} {g : HV} (M : MOK B g) : ∀ k : Nat, (k : Int) ≤ tkL g → tlN g 8 (sqN g (tkL g) k).1 (sqN g (tkL g) k).2 = tkL g - k ∧ (0 ≤ (sqN g (tkL g) k).1 ∧ (sqN g (tkL g) k).1 < 2 ^ (g 1).toNat) ∧ (-1 ≤ (sqN g (tkL g) k).2 ∧ (sqN g (tkL g) k).2 ≤ 3) ∧ andI (sqN g (tkL g) k).1 (wnN g (g 1).toNat) = wnN g (g 1).toNat
  | 0, _ => by
    have b1 := B_1 M
    have b30 := B_30 M
    refine ⟨?_, wnN_lt (by omega), b30, ?_⟩
    · show tkL g = _
      omega
    · show andI (wnN g (g 1).toNat) (wnN g (g 1).toNat) = _
      have hl := wnN_lt (g := g) (W := (g 1).toNat) (by omega)
      have hp := p28 (g 1).toNat (by omega)
      refine tb_ext inR_and ⟨by omega, by omega⟩ (fun w a b => by rw [tb_and, Bool.and_self])
  | k + 1, hk => by
    have b1 := B_1 M
    obtain ⟨h1, ⟨h2, h2b⟩, h3, h4⟩ := sq_ok M k (by omega)
    rw [tl_fix b1.1 b1.2] at h1
    obtain ⟨w, w0, w1, hw⟩ := mxN_ex _ (show 0 < mxN (byW g (sqN g (tkL g) k).1 (sqN g (tkL g) k).2) (g 1).toNat by omega)
    rw [h1] at hw
    obtain ⟨f0, f1, f2⟩ := fsN_ex (p := byW g (sqN g (tkL g) k).1 (sqN g (tkL g) k).2) (l := tkL g - k) (g 1).toNat 0 w w0 (by omega) hw
    have f0 : 0 ≤ wdT g (tkL g) k := f0
    have f1 : wdT g (tkL g) k < 0 + (g 1).toNat := f1
    have f2 : byW g (sqN g (tkL g) k).1 (sqN g (tkL g) k).2 (wdT g (tkL g) k) = tkL g - k := f2
    have hb := B_w M f0 (by omega)
    unfold byW at f2
    by_cases hc : (!tb (sqN g (tkL g) k).1 (wdT g (tkL g) k) && comesB g (wdT g (tkL g) k) (sqN g (tkL g) k).2) = true
    · rw [if_pos hc] at f2
      rw [sqN_s]
      refine ⟨by show tlN g 8 (orI (sqN g (tkL g) k).1 (shlI 1 (wdT g (tkL g) k))) (g (16 + wdT g (tkL g) k)) = _; omega, or_lt (by omega) h2 h2b f0 (by omega), ?_, ?_⟩
      · show -1 ≤ g (16 + wdT g (tkL g) k) ∧ g (16 + wdT g (tkL g) k) ≤ 3
        omega
      · show andI (orI (sqN g (tkL g) k).1 (shlI 1 (wdT g (tkL g) k))) (wnN g (g 1).toNat) = _
        have hl := wnN_lt (g := g) (W := (g 1).toNat) (by omega)
        have hp := p28 (g 1).toNat (by omega)
        refine tb_ext inR_and ⟨by omega, by omega⟩ (fun v a b => ?_)
        have h5 : tb (andI (sqN g (tkL g) k).1 (wnN g (g 1).toNat)) v = tb (wnN g (g 1).toNat) v := by rw [h4]
        rw [tb_and] at h5
        rw [tb_and, tb_or]
        cases hx : tb (wnN g (g 1).toNat) v
        · rw [Bool.and_false]
        · rw [hx, Bool.and_true] at h5
          rw [h5]
          rfl
    · rw [if_neg hc] at f2
      omega
theorem wd_ok {B : Int} {g : HV} (M : MOK B g) {k : Nat} (hk : (k : Int) < tkL g) : 0 ≤ wdT g (tkL g) k ∧ wdT g (tkL g) k < g 1 ∧ byW g (sqN g (tkL g) k).1 (sqN g (tkL g) k).2 (wdT g (tkL g) k) = tkL g - k := by
  have b1 := B_1 M
  obtain ⟨h1, -⟩ := sq_ok M k (by omega)
  rw [tl_fix b1.1 b1.2] at h1
  obtain ⟨w, w0, w1, hw⟩ := mxN_ex _ (show 0 < mxN (byW g (sqN g (tkL g) k).1 (sqN g (tkL g) k).2) (g 1).toNat by omega)
  rw [h1] at hw
  obtain ⟨f0, f1, f2⟩ := fsN_ex (p := byW g (sqN g (tkL g) k).1 (sqN g (tkL g) k).2) (l := tkL g - k) (g 1).toNat 0 w w0 (by omega) hw
  exact ⟨f0, by have f1 : wdT g (tkL g) k < 0 + (g 1).toNat := f1; omega, f2⟩
