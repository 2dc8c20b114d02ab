/-! ===== sets as bits (bt and its rows: the kit's starting text) ===== -/
def bt (x : Int32) (i : Nat) : Bool := x.toBitVec.getLsbD i
theorem b_ext {x y : Int32} (h : ∀ i, i < 32 → bt x i = bt y i) : x = y := Int32.toBitVec_inj.mp (BitVec.eq_of_getLsbD_eq (fun i hi => h i hi))
theorem b_or (x y : Int32) (i : Nat) : bt (x ||| y) i = (bt x i || bt y i) := by unfold bt; rw [Int32.toBitVec_or, BitVec.getLsbD_or]
theorem b_and (x y : Int32) (i : Nat) : bt (x &&& y) i = (bt x i && bt y i) := by unfold bt; rw [Int32.toBitVec_and, BitVec.getLsbD_and]
theorem b_xor (x y : Int32) (i : Nat) : bt (x ^^^ y) i = (bt x i ^^ bt y i) := by unfold bt; rw [Int32.toBitVec_xor, BitVec.getLsbD_xor]
theorem b_big {x : Int32} {i : Nat} (h : 32 ≤ i) : bt x i = false := BitVec.getLsbD_of_ge _ _ h
theorem b_m1 : ∀ i, i < 32 → bt (Int32.ofInt (-1)) i = true := by decide +kernel
theorem b_1 : ∀ i, i < 32 → bt (Int32.ofInt 1) i = decide (i = 0) := by decide +kernel
theorem b_0 (i : Nat) : bt 0 i = false := BitVec.getLsbD_zero
theorem s_l : ∀ n, n < 32 → ((nI n &&& 31).toBitVec.smod 32).toNat = n := by decide +kernel
theorem s_u : ∀ n, n < 32 → (((nI n).toUInt32 &&& Int32.toUInt32 31).toBitVec % 32).toNat = n := by decide +kernel
theorem b_shl (n : Nat) (hn : n < 32) (x : Int32) {i : Nat} (hi : i < 32) : bt (x <<< (nI n &&& 31)) i = (decide (n ≤ i) && bt x (i - n)) := by
  unfold bt
  rw [Int32.toBitVec_shiftLeft]
  show (x.toBitVec <<< ((nI n &&& 31).toBitVec.smod 32).toNat).getLsbD i = _
  rw [s_l n hn, BitVec.getLsbD_shiftLeft]
  rcases Nat.lt_or_ge i n with h | h
  · simp [h, Nat.not_le.mpr h]
  · simp [hi, h, Nat.not_lt.mpr h]
theorem b_ushr (n : Nat) (hn : n < 32) (x : Int32) (i : Nat) : bt ((x.toUInt32 >>> ((nI n).toUInt32 &&& Int32.toUInt32 31)).toInt32) i = bt x (n + i) := by
  show (x.toUInt32 >>> ((nI n).toUInt32 &&& Int32.toUInt32 31)).toBitVec.getLsbD i = x.toUInt32.toBitVec.getLsbD (n + i)
  rw [UInt32.toBitVec_shiftRight]
  show (x.toUInt32.toBitVec >>> (((nI n).toUInt32 &&& Int32.toUInt32 31).toBitVec % 32).toNat).getLsbD i = _
  rw [s_u n hn, BitVec.getLsbD_ushiftRight]
theorem b_sshr (n : Nat) (hn : n < 32) (x : Int32) {i : Nat} (hi : i < 32) : bt (x >>> (nI n &&& 31)) i = if n + i < 32 then bt x (n + i) else bt x 31 := by
  unfold bt
  rw [Int32.toBitVec_shiftRight]
  show (x.toBitVec.sshiftRight ((nI n &&& 31).toBitVec.smod 32).toNat).getLsbD i = _
  rw [s_l n hn, BitVec.getLsbD_sshiftRight, BitVec.msb_eq_getLsbD_last]
  simp [hi]
/-! ===== the same of numbers ===== -/
def tb (a w : Int) : Bool := bt (Int32.ofInt a) w.toNat
theorem inR_t (x : Int32) : inR x.toInt := by
  have h1 := Int32.le_toInt x
  have h2 := Int32.toInt_lt x
  exact ⟨by omega, by omega⟩
theorem ofI_nn {a : Int} (h : 0 ≤ a) : Int32.ofInt a = nI a.toNat := by
  have e : ((a.toNat : Nat) : Int) = a := Int.toNat_of_nonneg h
  rw [← e, Int32.ofInt_eq_ofNat]
  rfl
theorem inR_and {a b : Int} : inR (andI a b) := inR_t _
theorem inR_or {a b : Int} : inR (orI a b) := inR_t _
theorem inR_xor {a b : Int} : inR (xorI a b) := inR_t _
theorem inR_shl {a b : Int} : inR (shlI a b) := inR_t _
theorem inR_shr {a b : Int} : inR (shrI a b) := inR_t _
theorem inR_ushr {a b : Int} : inR (ushrI a b) := inR_t _
theorem tb_ext {a b : Int} (ha : inR a) (hb : inR b) (h : ∀ w : Int, 0 ≤ w → w < 32 → tb a w = tb b w) : a = b := by
  have e : Int32.ofInt a = Int32.ofInt b := b_ext (fun i hi => by
    have h1 := h i (by omega) (by omega)
    unfold tb at h1
    rw [Int.toNat_natCast] at h1
    exact h1)
  exact (ofI_eq ha hb).mp e
theorem tb_or {a b w : Int} : tb (orI a b) w = (tb a w || tb b w) := by unfold tb orI; rw [ofI_toI, b_or]
theorem tb_and {a b w : Int} : tb (andI a b) w = (tb a w && tb b w) := by unfold tb andI; rw [ofI_toI, b_and]
theorem tb_xor {a b w : Int} : tb (xorI a b) w = (tb a w ^^ tb b w) := by unfold tb xorI; rw [ofI_toI, b_xor]
theorem tb_0 {w : Int} : tb 0 w = false := by
  have e : Int32.ofInt 0 = 0 := by decide
  unfold tb
  rw [e]
  exact b_0 _
theorem tb_1 {w : Int} (h0 : 0 ≤ w) (h : w < 32) : tb 1 w = decide (w = 0) := by
  unfold tb
  rw [b_1 _ (by omega)]
  exact decide_eq_decide.mpr (by omega)
theorem tb_m1 {w : Int} (h : w < 32) : tb (-1) w = true := b_m1 _ (by omega)
theorem tb_shl {k w : Int} (h0 : 0 ≤ k) (h1 : k < 32) (h2 : 0 ≤ w) (h3 : w < 32) : tb (shlI 1 k) w = decide (w = k) := by
  unfold tb shlI
  rw [ofI_toI, ofI_nn h0, b_shl k.toNat (by omega) _ (by omega), b_1 _ (by omega), ← Bool.decide_and]
  exact decide_eq_decide.mpr (by omega)
theorem and_1 {a : Int} : andI a 1 = if tb a 0 = true then 1 else 0 := by
  refine tb_ext inR_and ?_ (fun w h0 h => ?_)
  · split
    · exact ⟨by decide, by decide⟩
    · exact ⟨by decide, by decide⟩
  · rw [tb_and, tb_1 h0 h]
    by_cases hw : w = 0
    · subst hw
      cases ht : tb a 0
      · simp [tb_0]
      · simp [tb_1 h0 h]
    · cases ht : tb a 0
      · simp [tb_0, hw]
      · simp [tb_1 h0 h, hw]
theorem holdU {a k : Int} (h0 : 0 ≤ k) (h1 : k < 32) : andI (ushrI a k) 1 = if tb a k = true then 1 else 0 := by
  rw [and_1]
  have e : tb (ushrI a k) 0 = tb a k := by
    unfold tb ushrI
    rw [ofI_toI, ofI_nn h0, b_ushr k.toNat (by omega)]
    rfl
  rw [e]
theorem holdS {a k : Int} (h0 : 0 ≤ k) (h1 : k < 32) : andI (shrI a k) 1 = if tb a k = true then 1 else 0 := by
  rw [and_1]
  have e : tb (shrI a k) 0 = tb a k := by
    unfold tb shrI
    rw [ofI_toI, ofI_nn h0]
    show bt (Int32.ofInt a >>> (nI k.toNat &&& 31)) 0 = _
    rw [b_sshr k.toNat (by omega) _ (by omega), if_pos (by omega)]
    rfl
  rw [e]
theorem and_eq0 {a b : Int} : andI a b = 0 ↔ ∀ w : Int, 0 ≤ w → w < 32 → ¬ (tb a w = true ∧ tb b w = true) := by
  constructor
  · intro h w h0 h1 ⟨h2, h3⟩
    have e : tb (andI a b) w = true := by rw [tb_and, h2, h3]; rfl
    rw [h, tb_0] at e
    cases e
  · intro h
    refine tb_ext inR_and ⟨by decide, by decide⟩ (fun w h0 h1 => ?_)
    rw [tb_and, tb_0]
    have h2 := h w h0 h1
    cases h3 : tb a w
    · rfl
    · cases h4 : tb b w
      · rfl
      · exact absurd ⟨h3, h4⟩ h2
theorem bt_nI {m i : Nat} (h : i < 32) : bt (nI m) i = m.testBit i := by
  show (BitVec.ofNat 32 m).getLsbD i = _
  rw [BitVec.getLsbD_ofNat]
  simp [h]
theorem tbN {a w : Int} (h0 : 0 ≤ a) (h1 : w < 32) : tb a w = a.toNat.testBit w.toNat := by
  unfold tb
  rw [ofI_nn h0, bt_nI (by omega)]
theorem tb_lt {a w : Int} {n : Nat} (h0 : 0 ≤ a) (h : a < 2 ^ n) (hw : n ≤ w) (h1 : w < 32) : tb a w = false := by
  rw [tbN h0 h1]
  refine Nat.testBit_lt_two_pow ?_
  have e : ((a.toNat : Nat) : Int) = a := Int.toNat_of_nonneg h0
  have h2 : a.toNat < 2 ^ n := by
    have h3 : ((a.toNat : Nat) : Int) < ((2 ^ n : Nat) : Int) := by rw [e]; simpa using h
    exact Int.ofNat_lt.mp h3
  exact Nat.lt_of_lt_of_le h2 (Nat.pow_le_pow_right (by omega) (by omega))
theorem tb_neg {a : Int} (h : inR a) (ha : a < 0) : tb a 31 = true := by
  show (Int32.ofInt a).toBitVec.getLsbD (32 - 1) = true
  rw [← BitVec.msb_eq_getLsbD_last, BitVec.msb_eq_toInt]
  have e : (Int32.ofInt a).toBitVec.toInt = a := toI_ofI h
  rw [e]
  exact decide_eq_true ha
theorem lt_tb {a : Int} {n : Nat} (hR : inR a) (hn : n ≤ 31) (h : ∀ w : Int, n ≤ w → w < 32 → tb a w = false) : 0 ≤ a ∧ a < 2 ^ n := by
  have h0 : 0 ≤ a := by
    by_cases hc : 0 ≤ a
    · exact hc
    · have h1 := tb_neg hR (by omega)
      rw [h 31 (by omega) (by omega)] at h1
      cases h1
  refine ⟨h0, ?_⟩
  have e : ((a.toNat : Nat) : Int) = a := Int.toNat_of_nonneg h0
  have h2 : a.toNat < 2 ^ n := by
    refine Nat.lt_pow_two_of_testBit _ (fun i hi => ?_)
    by_cases hi2 : i < 32
    · have h3 := h i (by omega) (by omega)
      rw [tbN h0 (by omega), Int.toNat_natCast] at h3
      exact h3
    · refine Nat.testBit_lt_two_pow ?_
      have h4 : a.toNat < 2 ^ 31 := by have := hR.2; omega
      exact Nat.lt_of_lt_of_le h4 (Nat.pow_le_pow_right (by omega) (by omega))
  have h3 : ((a.toNat : Nat) : Int) < ((2 ^ n : Nat) : Int) := Int.ofNat_lt.mpr h2
  rw [e] at h3
  simpa using h3
theorem shl_pow {k : Int} (h0 : 0 ≤ k) (h1 : k < 31) : shlI 1 k = 2 ^ k.toNat := by
  have hc : ∀ n : Nat, n < 31 → shlI 1 (n : Int) = 2 ^ n := by decide +kernel
  have e : ((k.toNat : Nat) : Int) = k := Int.toNat_of_nonneg h0
  have h2 := hc k.toNat (by omega)
  rw [e] at h2
  exact h2
/-- how many of the first n are in the set -/
def cnt (a : Int) : Nat → Int
  | 0 => 0
  | n + 1 => cnt a n + (if tb a n = true then 1 else 0)
theorem cnt_le (a : Int) : ∀ n : Nat, 0 ≤ cnt a n ∧ cnt a n ≤ n
  | 0 => ⟨Int.le_refl 0, Int.le_refl 0⟩
  | n + 1 => by
    have ih := cnt_le a n
    unfold cnt
    split <;> omega
theorem cnt_cong {a b : Int} : ∀ {n : Nat}, (∀ w : Int, 0 ≤ w → w < n → tb a w = tb b w) → cnt a n = cnt b n
  | 0, _ => rfl
  | n + 1, h => by
    unfold cnt
    rw [cnt_cong (fun w h0 h1 => h w h0 (by omega)), h n (by omega) (by omega)]
theorem cnt_more {a : Int} {n : Nat} : ∀ m : Nat, (∀ w : Int, n ≤ w → w < n + m → tb a w = false) → cnt a (n + m) = cnt a n
  | 0, _ => rfl
  | m + 1, h => by
    show cnt a (n + m) + (if tb a ((n + m : Nat) : Int) = true then 1 else 0) = _
    rw [cnt_more m (fun w h0 h1 => h w h0 (by omega)), h (n + m : Nat) (by omega) (by omega)]
    simp
theorem cnt_0 : ∀ n : Nat, cnt 0 n = 0
  | 0 => rfl
  | n + 1 => by
    unfold cnt
    rw [cnt_0 n, tb_0]
    rfl
