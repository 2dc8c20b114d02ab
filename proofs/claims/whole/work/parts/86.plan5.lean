/-! ===== plan: numbers of 64 bits ===== -/
theorem lg_bv {i m p : Nat} (hi : i ≤ 5) (hp : p < 2 ^ i) : (BitVec.ofNat 64 m <<< i ||| BitVec.ofNat 64 p) = BitVec.ofNat 64 (m * 2 ^ i + p) := by
  apply BitVec.eq_of_toNat_eq
  rw [BitVec.toNat_or, BitVec.toNat_shiftLeft, BitVec.toNat_ofNat, BitVec.toNat_ofNat, BitVec.toNat_ofNat, Nat.shiftLeft_eq]
  have hc : i = 0 ∨ i = 1 ∨ i = 2 ∨ i = 3 ∨ i = 4 ∨ i = 5 := by omega
  have e : m % 2 ^ 64 * 2 ^ i % 2 ^ 64 = (m % 2 ^ (64 - i)) <<< i := by
    rw [Nat.shiftLeft_eq]
    rcases hc with rfl | rfl | rfl | rfl | rfl | rfl <;> omega
  rw [e, show p % 2 ^ 64 = p by rcases hc with rfl | rfl | rfl | rfl | rfl | rfl <;> omega, ← Nat.shiftLeft_add_eq_or_of_lt hp, Nat.shiftLeft_eq]
  rcases hc with rfl | rfl | rfl | rfl | rfl | rfl <;> omega
theorem lg_i32 : ∀ p : Fin 32, (Int32.ofInt ((p.val : Nat) : Int)).toInt64 = Int64.ofNat p.val := by decide
theorem lg_i {p : Int} (h0 : 0 ≤ p) (h1 : p < 32) : (Int32.ofInt p).toInt64 = Int64.ofNat p.toNat := by
  have h := lg_i32 ⟨p.toNat, by omega⟩
  have e : ((p.toNat : Nat) : Int) = p := by omega
  simp only [e] at h
  exact h
theorem lg_p5 {m : Nat} {p : Int} (h0 : 0 ≤ p) (h1 : p < 32) : (Int64.ofNat m <<< ((Int32.ofInt 5).toInt64 &&& 63)) ||| (Int32.ofInt p).toInt64 = Int64.ofNat (m * 32 + p.toNat) := by
  rw [lg_i h0 h1]
  apply Int64.toBitVec_inj.1
  exact lg_bv (i := 5) (m := m) (p := p.toNat) (by omega) (by omega)
theorem lg_p4 {m : Nat} {p : Int} (h0 : 0 ≤ p) (h1 : p < 16) : (Int64.ofNat m <<< ((Int32.ofInt 4).toInt64 &&& 63)) ||| (Int32.ofInt p).toInt64 = Int64.ofNat (m * 16 + p.toNat) := by
  rw [lg_i h0 (by omega)]
  apply Int64.toBitVec_inj.1
  exact lg_bv (i := 4) (m := m) (p := p.toNat) (by omega) (by omega)
theorem lg_p3 {m : Nat} {p : Int} (h0 : 0 ≤ p) (h1 : p < 8) : (Int64.ofNat m <<< ((Int32.ofInt 3).toInt64 &&& 63)) ||| (Int32.ofInt p).toInt64 = Int64.ofNat (m * 8 + p.toNat) := by
  rw [lg_i h0 (by omega)]
  apply Int64.toBitVec_inj.1
  exact lg_bv (i := 3) (m := m) (p := p.toNat) (by omega) (by omega)
theorem lg_one {m : Nat} : Int64.ofNat m + Int64.ofInt 1 = Int64.ofNat (m + 1) := by
  apply Int64.toBitVec_inj.1
  show BitVec.ofNat 64 m + BitVec.ofInt 64 1 = BitVec.ofNat 64 (m + 1)
  apply BitVec.eq_of_toNat_eq
  rw [BitVec.toNat_add, BitVec.toNat_ofNat, BitVec.toNat_ofNat, show (BitVec.ofInt 64 1).toNat = 1 from rfl]
  omega
theorem lg_inj {a b : Nat} (ha : a < 2 ^ 64) (hb : b < 2 ^ 64) (h : Int64.ofNat a = Int64.ofNat b) : a = b := by
  have h1 : (Int64.ofNat a).toBitVec.toNat = (Int64.ofNat b).toBitVec.toNat := by rw [h]
  have h2 : a % 2 ^ 64 = b % 2 ^ 64 := h1
  omega
theorem lg_c0 {y z : Int64} : ((lg_cmp y z).toInt = 0) = (y = z) := by
  apply propext
  rw [← lg_cmp_eq]
  constructor
  · intro h
    apply Int32.toInt_inj.1
    rw [h]
    rfl
  · intro h
    rw [h]
    rfl
theorem lg_cR {y z : Int64} : inR (lg_cmp y z).toInt = True := eq_true (by
  unfold lg_cmp
  split
  · exact ⟨by decide, by decide⟩
  · split
    · exact ⟨by decide, by decide⟩
    · exact ⟨by decide, by decide⟩)
theorem and_bd {a b : Int} (h0 : 0 ≤ b) (h1 : b < 2147483648) : 0 ≤ andI a b ∧ andI a b ≤ b := by
  have e1 : andI a b = (BitVec.ofInt 32 a &&& BitVec.ofInt 32 b).toInt := rfl
  have e2 : (BitVec.ofInt 32 b).toNat = b.toNat := by
    rw [BitVec.toNat_ofInt]
    omega
  have e3 : (BitVec.ofInt 32 a &&& BitVec.ofInt 32 b).toNat ≤ b.toNat := by
    rw [BitVec.toNat_and, e2]
    exact Nat.and_le_right
  rw [e1, BitVec.toInt_eq_toNat_of_lt (by omega)]
  omega
theorem pas_R {s : HV} {m : Nat} (hm : m ≤ 5) : 0 ≤ pasN s m ∧ pasN s m < 32 := by
  have e : andI (pasN s m) 31 = pasN s m := by
    refine tb_ext inR_and (pasN_R m) (fun w h0 h1 => ?_)
    rw [tb_and, pasN_tb h0 h1 m (by omega)]
    by_cases hw : w < m
    · have h31 : ∀ n : Fin 5, tb 31 ((n.val : Nat) : Int) = true := by decide
      have h5 := h31 ⟨w.toNat, by omega⟩
      have e : ((w.toNat : Nat) : Int) = w := by omega
      simp only [e] at h5
      rw [h5, Bool.and_true]
    · rw [decide_eq_false hw]
      rfl
  have h := and_bd (a := pasN s m) (b := 31) (by omega) (by omega)
  rw [e] at h
  omega
theorem pas_nx {s : HV} {t : Int} {c : Int} (hs : stB s c = true) (c0 : 0 ≤ c) (c1 : c < 16 * s 2) (b1 : s 1 ≤ 8) (b2 : s 2 ≤ 5) (ht : t = c / 16) : orI (pasN s (s 2).toNat) (shlI 1 t) = pasN (nxS s c) (s 2).toNat := by
  refine tb_ext inR_or (pasN_R _) (fun w h0 h1 => ?_)
  rw [tb_or, tb_shl (by omega) (by omega) h0 h1, pasN_tb h0 h1 _ (by omega), pasN_tb h0 h1 _ (by omega)]
  have e : passB (nxS s c) w = (passB s w || decide (w = t)) := by
    unfold stB at hs
    unfold passB nxS
    by_cases h8 : c % 16 = 8
    · rw [if_pos h8]
      by_cases hw : w = t
      · rw [hw, ht, fS_48 (by omega), decide_eq_true (show (0 : Int) ≤ 8 by omega), decide_eq_true rfl, Bool.or_true]
      · rw [fS_n (by omega), decide_eq_false hw, Bool.or_false]
    · rw [if_neg h8, Bool.and_eq_true, decide_eq_true_eq] at hs
      rw [if_neg h8]
      by_cases hw : w = t
      · rw [hw, ht, aS_48 (by omega) (by omega) (by omega), decide_eq_true (show (0 : Int) ≤ c % 16 by omega), decide_eq_true rfl, Bool.or_true]
      · rw [aS_n (by omega), decide_eq_false hw, Bool.or_false]
  rw [e]
  by_cases hw : w < (s 2).toNat
  · rw [decide_eq_true hw, Bool.true_and, Bool.true_and]
  · rw [decide_eq_false hw, decide_eq_false (show ¬ w = t by omega)]
    rfl
