/-! ===== Integer.bitCount ===== -/
def cntN (n : Nat) : Nat → Nat
  | 0 => 0
  | m + 1 => cntN n m + (if n.testBit m = true then 1 else 0)
theorem tbit8 {p q i : Nat} (hp : p < 256) : (p + 256 * q).testBit i = if i < 8 then p.testBit i else q.testBit (i - 8) := by
  have h := Nat.testBit_two_pow_mul_add q (b := p) (i := 8) hp i
  rw [← h]
  congr 1
  omega
theorem cntN_lo {p q : Nat} (hp : p < 256) : ∀ m : Nat, m ≤ 8 → cntN (p + 256 * q) m = cntN p m
  | 0, _ => rfl
  | m + 1, h => by
    unfold cntN
    rw [cntN_lo hp m (by omega), tbit8 hp, if_pos (show m < 8 by omega)]
theorem cntN_hi {p q : Nat} (hp : p < 256) : ∀ m : Nat, cntN (p + 256 * q) (8 + m) = cntN p 8 + cntN q m
  | 0 => cntN_lo hp 8 (by omega)
  | m + 1 => by
    show cntN (p + 256 * q) (8 + m) + (if (p + 256 * q).testBit (8 + m) = true then 1 else 0) = _
    rw [tbit8 hp, if_neg (show ¬ 8 + m < 8 by omega), cntN_hi hp m, show 8 + m - 8 = m by omega]
    show _ = cntN p 8 + (cntN q m + _)
    omega
theorem and8 {p q r s : Nat} (hp : p < 256) (hr : r < 256) : (p + 256 * q) &&& (r + 256 * s) = (p &&& r) + 256 * (q &&& s) := by
  refine Nat.eq_of_testBit_eq (fun i => ?_)
  have h : p &&& r < 256 := Nat.lt_of_le_of_lt Nat.and_le_left hp
  rw [Nat.testBit_and, tbit8 hp, tbit8 hr, tbit8 h]
  by_cases hi : i < 8
  · simp only [hi, if_true, Nat.testBit_and]
  · simp only [hi, if_false, Nat.testBit_and]
def pA (b : Nat) : Nat := b / 2 &&& 85
def pE (b : Nat) : Nat := b - pA b
def pF (b : Nat) : Nat := (pE b &&& 51) + (pE b / 4 &&& 51)
theorem p_b : ∀ b : Nat, b < 256 → pA b ≤ b ∧ pF b ≤ 68 ∧ pF b % 16 ≤ 4 ∧ (pF b + pF b / 16) % 16 = cntN b 8 ∧ cntN b 8 ≤ 8 := by decide +kernel
theorem p_A : ∀ b : Nat, b < 256 → ∀ c : Nat, c < 2 → (b / 2 + 128 * c) &&& 85 = pA b := by decide +kernel
theorem p_F : ∀ b : Nat, b < 256 → ∀ c : Nat, c < 4 → (b / 4 + 64 * c) &&& 51 = b / 4 &&& 51 := by decide +kernel
theorem p_C : ∀ f : Nat, f < 69 → ∀ c : Nat, c < 5 → (f + f / 16 + 16 * c) &&& 15 = (f + f / 16) % 16 := by decide +kernel
theorem and32 {p0 p1 p2 p3 m : Nat} (h0 : p0 < 256) (h1 : p1 < 256) (h2 : p2 < 256) (hm : m < 256) : (p0 + 256 * (p1 + 256 * (p2 + 256 * p3))) &&& (m + 256 * (m + 256 * (m + 256 * m))) = (p0 &&& m) + 256 * ((p1 &&& m) + 256 * ((p2 &&& m) + 256 * (p3 &&& m))) := by
  rw [and8 h0 hm, and8 h1 hm, and8 h2 hm]
theorem pp_1 {b0 b1 b2 b3 : Nat} (h0 : b0 < 256) (h1 : b1 < 256) (h2 : b2 < 256) (h3 : b3 < 256) : (b0 + 256 * (b1 + 256 * (b2 + 256 * b3))) / 2 &&& 1431655765 = pA b0 + 256 * (pA b1 + 256 * (pA b2 + 256 * pA b3)) := by
  have e : (b0 + 256 * (b1 + 256 * (b2 + 256 * b3))) / 2 = (b0 / 2 + 128 * (b1 % 2)) + 256 * ((b1 / 2 + 128 * (b2 % 2)) + 256 * ((b2 / 2 + 128 * (b3 % 2)) + 256 * (b3 / 2 + 128 * 0))) := by omega
  rw [e, show (1431655765 : Nat) = 85 + 256 * (85 + 256 * (85 + 256 * 85)) by decide, and32 (by omega) (by omega) (by omega) (by omega), p_A b0 h0 _ (by omega), p_A b1 h1 _ (by omega), p_A b2 h2 _ (by omega), p_A b3 h3 0 (by omega)]
theorem pp_2 {b0 b1 b2 b3 : Nat} (h0 : b0 < 256) (h1 : b1 < 256) (h2 : b2 < 256) (h3 : b3 < 256) : (b0 + 256 * (b1 + 256 * (b2 + 256 * b3))) / 4 &&& 858993459 = (b0 / 4 &&& 51) + 256 * ((b1 / 4 &&& 51) + 256 * ((b2 / 4 &&& 51) + 256 * (b3 / 4 &&& 51))) := by
  have e : (b0 + 256 * (b1 + 256 * (b2 + 256 * b3))) / 4 = (b0 / 4 + 64 * (b1 % 4)) + 256 * ((b1 / 4 + 64 * (b2 % 4)) + 256 * ((b2 / 4 + 64 * (b3 % 4)) + 256 * (b3 / 4 + 64 * 0))) := by omega
  rw [e, show (858993459 : Nat) = 51 + 256 * (51 + 256 * (51 + 256 * 51)) by decide, and32 (by omega) (by omega) (by omega) (by omega), p_F b0 h0 _ (by omega), p_F b1 h1 _ (by omega), p_F b2 h2 _ (by omega), p_F b3 h3 0 (by omega)]
theorem pp_3 {f0 f1 f2 f3 : Nat} (h0 : f0 ≤ 68) (h1 : f1 ≤ 68) (h2 : f2 ≤ 68) (h3 : f3 ≤ 68) (g1 : f1 % 16 ≤ 4) (g2 : f2 % 16 ≤ 4) (g3 : f3 % 16 ≤ 4) :
    (f0 + 256 * (f1 + 256 * (f2 + 256 * f3)) + (f0 + 256 * (f1 + 256 * (f2 + 256 * f3))) / 16) &&& 252645135 = (f0 + f0 / 16) % 16 + 256 * ((f1 + f1 / 16) % 16 + 256 * ((f2 + f2 / 16) % 16 + 256 * ((f3 + f3 / 16) % 16))) := by
  have e : f0 + 256 * (f1 + 256 * (f2 + 256 * f3)) + (f0 + 256 * (f1 + 256 * (f2 + 256 * f3))) / 16 = (f0 + f0 / 16 + 16 * (f1 % 16)) + 256 * ((f1 + f1 / 16 + 16 * (f2 % 16)) + 256 * ((f2 + f2 / 16 + 16 * (f3 % 16)) + 256 * (f3 + f3 / 16 + 16 * 0))) := by omega
  rw [e, show (252645135 : Nat) = 15 + 256 * (15 + 256 * (15 + 256 * 15)) by decide, and32 (by omega) (by omega) (by omega) (by omega), p_C f0 (by omega) _ (by omega), p_C f1 (by omega) _ (by omega), p_C f2 (by omega) _ (by omega), p_C f3 (by omega) 0 (by omega)]
theorem pp_5 {c0 c1 c2 c3 : Nat} (h0 : c0 ≤ 8) (h1 : c1 ≤ 8) (h2 : c2 ≤ 8) (h3 : c3 ≤ 8) : (c0 + c1 + 256 * (c1 + c2 + 256 * (c2 + c3 + 256 * c3)) + (c0 + c1 + 256 * (c1 + c2 + 256 * (c2 + c3 + 256 * c3))) / 65536) % 4294967296 % 64 = c0 + c1 + c2 + c3 := by
  have e : (c0 + c1 + 256 * (c1 + c2 + 256 * (c2 + c3 + 256 * c3))) / 65536 = c2 + c3 + 256 * c3 := by omega
  rw [e, Nat.mod_eq_of_lt (b := 4294967296) (by omega)]
  omega
/-- the unsigned number -/
def uI (a : Int) : Nat := (Int32.ofInt a).toBitVec.toNat
theorem uI_lt (a : Int) : uI a < 4294967296 := (Int32.ofInt a).toBitVec.isLt
theorem uI_and {a b : Int} : uI (andI a b) = uI a &&& uI b := by unfold uI andI; rw [ofI_toI, Int32.toBitVec_and, BitVec.toNat_and]
theorem uI_bt (a : Int) (i : Nat) : (uI a).testBit i = bt (Int32.ofInt a) i := rfl
theorem uI_ushr {a : Int} {k : Nat} (hk : k < 32) : uI (ushrI a k) = uI a / 2 ^ k := by
  refine Nat.eq_of_testBit_eq (fun i => ?_)
  rw [Nat.testBit_div_two_pow, uI_bt, uI_bt]
  unfold ushrI
  rw [ofI_toI, ofI_nn (a := (k : Int)) (by omega), Int.toNat_natCast, b_ushr k hk]
  rw [Nat.add_comm]
theorem uI_add {a b : Int} : uI (a + b) = (uI a + uI b) % 4294967296 := by
  unfold uI
  rw [Int32.ofInt_add, Int32.toBitVec_add, BitVec.toNat_add]
theorem uI_sub {a b : Int} : uI (a - b) = (4294967296 - uI b + uI a) % 4294967296 := by
  unfold uI
  rw [Int32.ofInt_sub, Int32.toBitVec_sub, BitVec.toNat_sub]
def pop1 (a : Int) : Int := a - andI (ushrI a 1) 1431655765
def pop2 (a : Int) : Int := andI (pop1 a) 858993459 + andI (ushrI (pop1 a) 2) 858993459
def pop3 (a : Int) : Int := andI (pop2 a + ushrI (pop2 a) 4) 252645135
def pop4 (a : Int) : Int := pop3 a + ushrI (pop3 a) 8
def pop5 (a : Int) : Int := pop4 a + ushrI (pop4 a) 16
def popE (a : Int) : Int := andI (pop5 a) 63
theorem cnt_N (a : Int) : ∀ m : Nat, m ≤ 32 → cnt a m = (cntN (uI a) m : Nat)
  | 0, _ => rfl
  | m + 1, h => by
    unfold cnt cntN
    have e : tb a (m : Int) = (uI a).testBit m := by rw [uI_bt]; unfold tb; rw [Int.toNat_natCast]
    rw [cnt_N a m (by omega), e]
    by_cases hb : (uI a).testBit m = true
    · rw [if_pos hb, if_pos hb]; omega
    · rw [if_neg hb, if_neg hb]; omega
theorem pop_ok (a : Int) : popE a = cnt a 32 := by
  rw [cnt_N a 32 (by omega)]
  obtain ⟨b0, b1, b2, b3, h0, h1, h2, h3, e⟩ : ∃ b0 b1 b2 b3 : Nat, b0 < 256 ∧ b1 < 256 ∧ b2 < 256 ∧ b3 < 256 ∧ uI a = b0 + 256 * (b1 + 256 * (b2 + 256 * b3)) := by
    have h := uI_lt a
    exact ⟨uI a % 256, uI a / 256 % 256, uI a / 65536 % 256, uI a / 16777216, by omega, by omega, by omega, by omega, by omega⟩
  obtain ⟨c01, c02, c03, c04, c05⟩ := p_b b0 h0
  obtain ⟨c11, c12, c13, c14, c15⟩ := p_b b1 h1
  obtain ⟨c21, c22, c23, c24, c25⟩ := p_b b2 h2
  obtain ⟨c31, c32, c33, c34, c35⟩ := p_b b3 h3
  have u1 : uI (pop1 a) = pE b0 + 256 * (pE b1 + 256 * (pE b2 + 256 * pE b3)) := by
    unfold pop1
    have z : uI (andI (ushrI a 1) 1431655765) = pA b0 + 256 * (pA b1 + 256 * (pA b2 + 256 * pA b3)) := by
      rw [uI_and, show (1 : Int) = ((1 : Nat) : Int) from rfl, uI_ushr (by omega), e, show uI 1431655765 = 1431655765 by decide, Nat.pow_one, pp_1 h0 h1 h2 h3]
    rw [uI_sub, z, e]
    unfold pE
    omega
  have q0 : pE b0 < 256 := by unfold pE; omega
  have q1 : pE b1 < 256 := by unfold pE; omega
  have q2 : pE b2 < 256 := by unfold pE; omega
  have q3 : pE b3 < 256 := by unfold pE; omega
  have u2 : uI (pop2 a) = pF b0 + 256 * (pF b1 + 256 * (pF b2 + 256 * pF b3)) := by
    unfold pop2
    have z1 : uI (andI (pop1 a) 858993459) = (pE b0 &&& 51) + 256 * ((pE b1 &&& 51) + 256 * ((pE b2 &&& 51) + 256 * (pE b3 &&& 51))) := by
      rw [uI_and, u1, show uI 858993459 = 51 + 256 * (51 + 256 * (51 + 256 * 51)) by decide, and32 q0 q1 q2 (by omega)]
    have z2 : uI (andI (ushrI (pop1 a) 2) 858993459) = (pE b0 / 4 &&& 51) + 256 * ((pE b1 / 4 &&& 51) + 256 * ((pE b2 / 4 &&& 51) + 256 * (pE b3 / 4 &&& 51))) := by
      rw [uI_and, show (2 : Int) = ((2 : Nat) : Int) from rfl, uI_ushr (by omega), u1, show uI 858993459 = 858993459 by decide, show 2 ^ 2 = 4 by decide, pp_2 q0 q1 q2 q3]
    rw [uI_add, z1, z2]
    unfold pF at c02 c12 c22 c32 ⊢
    omega
  have u3 : uI (pop3 a) = cntN b0 8 + 256 * (cntN b1 8 + 256 * (cntN b2 8 + 256 * cntN b3 8)) := by
    unfold pop3
    rw [uI_and, uI_add, show (4 : Int) = ((4 : Nat) : Int) from rfl, uI_ushr (by omega), u2, show uI 252645135 = 252645135 by decide, show 2 ^ 4 = 16 by decide, Nat.mod_eq_of_lt (by omega), pp_3 c02 c12 c22 c32 c13 c23 c33, c04, c14, c24, c34]
  have u4 : uI (pop4 a) = (cntN b0 8 + cntN b1 8) + 256 * ((cntN b1 8 + cntN b2 8) + 256 * ((cntN b2 8 + cntN b3 8) + 256 * cntN b3 8)) := by
    unfold pop4
    rw [uI_add, show (8 : Int) = ((8 : Nat) : Int) from rfl, uI_ushr (by omega), u3, show 2 ^ 8 = 256 by decide]
    omega
  have u5 : uI (popE a) = cntN b0 8 + cntN b1 8 + cntN b2 8 + cntN b3 8 := by
    unfold popE
    rw [uI_and, show uI 63 = 2 ^ 6 - 1 by decide, Nat.and_two_pow_sub_one_eq_mod]
    unfold pop5
    rw [uI_add, show (16 : Int) = ((16 : Nat) : Int) from rfl, uI_ushr (by omega), u4, show 2 ^ 16 = 65536 by decide, show 2 ^ 6 = 64 by decide]
    exact pp_5 c05 c15 c25 c35
  have e2 : cntN (uI a) 32 = uI (popE a) := by
    rw [u5, e, show 32 = 8 + (8 + (8 + 8)) by decide, cntN_hi h0, cntN_hi h1, cntN_hi h2]
    omega
  rw [e2]
  have hR : inR (popE a) := inR_and
  have h4 : (Int32.ofInt (popE a)).toBitVec.toInt = popE a := toI_ofI hR
  exact h4.symm.trans (BitVec.toInt_eq_toNat_of_lt (by show 2 * uI (popE a) < 4294967296; rw [u5]; omega))
