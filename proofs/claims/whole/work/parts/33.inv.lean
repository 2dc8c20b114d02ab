/-! ===== what ties the class's cells to the model's ===== -/
def encN (v : Int) : Int := if v < 0 then -1000000 else v
/-- rows -/
def RR1 (I : MI) (n : Nat) : Prop := (I (60 + 2 * n) 1 = 0 ∧ I 99 n = 0) ∨
  (I (60 + 2 * n) 1 = 1 ∧ 0 ≤ I (60 + 2 * n) 2 ∧ I (60 + 2 * n) 2 ≤ 2 ∧ I 99 n = I (60 + 2 * n) 2 + 1 ∧ I 100 n = I (60 + 2 * n) 3 ∧ 0 ≤ I 100 n ∧ I 100 n ≤ 40 ∧ ∀ k : Int, 0 ≤ k → k < 40 → I (61 + 2 * n) k = I 101 (40 * n + k) ∧ inR (I (61 + 2 * n) k))
def RRs (I : MI) : Prop := ∀ n : Nat, n < 8 → RR1 I n
/-- the tape, the latest fault -/
def RTp (I : MI) : Prop := I 19 3 = I 92 1 ∧ 0 ≤ I 92 1 ∧ I 92 1 ≤ 120 ∧ (∀ k : Int, 0 ≤ k → k < I 92 1 → I 20 k = I 93 k ∧ 0 ≤ I 93 k ∧ I 93 k ≤ 255) ∧ I 19 4 = I 92 14 ∧ inR (I 92 14)
/-- status -/
def RSt (I : MI) : Prop := I 0 10 = I 92 13 ∧ inR (I 92 13)
abbrev HV : Type := Int → Int
/-- a hedge as the model holds it: what was told -/
def WTo (g : HV) : Prop := (g 0 = 0 ∨ g 0 = 1) ∧ 0 ≤ g 1 ∧ g 1 ≤ 8 ∧ 0 ≤ g 2 ∧ g 2 ≤ 5 ∧ (g 0 = 0 → g 1 = 0 ∧ g 2 = 0) ∧ (g 0 = 1 → 1 ≤ g 3 ∧ g 3 ≤ 24 ∧ ∀ k : Int, 0 ≤ k → k < 4 → 0 ≤ g (4 + k) ∧ g (4 + k) ≤ 15) ∧
  (∀ w : Int, 0 ≤ w → w < g 1 → 1 ≤ g (8 + w) ∧ g (8 + w) ≤ 5 ∧ 0 ≤ g (16 + w) ∧ g (16 + w) ≤ 3) ∧ ∀ t : Int, 0 ≤ t → t < g 2 → 1 ≤ g (24 + t) ∧ g (24 + t) < 2 ^ (g 1).toNat
/-- how many of the first n have passed -/
def nPas (g : HV) : Nat → Int
  | 0 => 0
  | n + 1 => nPas g n + (if g (48 + (n : Int)) < 0 then 0 else 1)
/-- what is, B a bound of hours and numbers -/
def WIs (B : Int) (g : HV) : Prop := 0 ≤ g 29 ∧ g 29 ≤ B ∧ -1 ≤ g 30 ∧ g 30 ≤ 3 ∧ 0 ≤ g 31 ∧ g 31 ≤ nPas g (g 2).toNat ∧
  (∀ w : Int, 0 ≤ w → w < g 1 → -1 ≤ g (32 + w) ∧ g (32 + w) ≤ B ∧ 0 ≤ g (40 + w) ∧ g (40 + w) ≤ B) ∧ ∀ t : Int, 0 ≤ t → t < g 2 → -1 ≤ g (48 + t) ∧ g (48 + t) ≤ 8
/-- the class's hedge at the cell h says the same -/
def RHd (I : MI) (h : Nat) (g : HV) : Prop := I h 0 = g 0 ∧ I h 3 = g 1 ∧ I h 8 = g 2 ∧ I h 11 = g 29 ∧ I h 12 = g 30 ∧ I h 13 = g 31 ∧ (g 0 = 1 → I h 1 = g 3 ∧ ∀ k : Int, 0 ≤ k → k < 4 → I (h + 1) k = g (4 + k)) ∧
  (∀ w : Int, 0 ≤ w → w < g 1 → I (h + 2) w = g (8 + w) ∧ I (h + 3) w = g (16 + w) ∧ I (h + 4) w = encN (g (32 + w)) ∧ I (h + 5) w = g (40 + w)) ∧
  ∀ t : Int, 0 ≤ t → t < g 2 → I (h + 6) t = g (24 + t) ∧ I (h + 7) t = encN (g (48 + t))
/-- a hedge as the model holds it -/
def MOK (B : Int) (g : HV) : Prop := WTo g ∧ WIs B g ∧ B ≤ 100000
def ROK (B : Int) (I : MI) (h : Nat) (g : HV) : Prop := MOK B g ∧ RHd I h g
/-- images -/
def RIm (B : Int) (I : MI) : Prop := (I 76 0 = I 98 0 ∧ (I 98 0 = 0 ∨ (I 98 0 = 1 ∧ I 97 0 = 1 ∧ ROK B I 76 (fun i => I 97 i)))) ∧ (I 84 0 = I 98 1 ∧ (I 98 1 = 0 ∨ (I 98 1 = 1 ∧ I 97 53 = 1 ∧ ROK B I 84 (fun i => I 97 (53 + i)))))
/-- what is, with 24 numbers of a past put in place of it -/
def past (I : MI) (m : Int) : HV := fun i => if 29 ≤ i ∧ i < 53 then I 96 (24 * m + (i - 29)) else I 94 i
/-- an act of the ring takes one state back to another -/
def RAc (I : MI) (e : Nat) (g g' : HV) : Prop := g' 29 = I e 2 ∧ g' 30 = I e 3 ∧ g' 31 = I e 4 ∧ inR (I e 0) ∧ inR (I e 1) ∧
  (∀ t : Int, 0 ≤ t → t < g 2 → if t = I e 0 then g' (48 + t) < 0 else g' (48 + t) = g (48 + t)) ∧
  (∀ w : Int, 0 ≤ w → w < g 1 → if w = I e 1 then encN (g' (32 + w)) = I e 5 ∧ g' (40 + w) = g (40 + w) - 1 else g' (32 + w) = g (32 + w) ∧ g' (40 + w) = g (40 + w))
/-- the place in the ring of the act that lies k behind the latest -/
def ringAt (next : Int) (k : Nat) : Nat := ((next - 1 - k + 48) % 24).toNat
def RAs (B : Int) (I : MI) : Prop := I 21 2 = I 92 5 ∧ 0 ≤ I 92 5 ∧ I 92 5 ≤ 24 ∧ 0 ≤ I 21 1 ∧ I 21 1 < 24 ∧
  ∀ k : Nat, (k : Int) < I 92 5 → WIs B (past I (I 92 5 - 1 - k)) ∧ RAc I (23 + ringAt (I 21 1) k) (if k = 0 then (fun i => I 94 i) else past I (I 92 5 - k)) (past I (I 92 5 - 1 - k))
/-- the trace -/
def RTr (I : MI) : Prop := I 58 1 = I 92 12 ∧ 0 ≤ I 92 12 ∧ I 92 12 ≤ 16 ∧ ∀ k : Int, 0 ≤ k → k < I 92 12 → I 59 k = I 102 k ∧ inR (I 59 k)
/-- hours asked, also those beyond the words -/
def RAk (B : Int) (I : MI) : Prop := ∀ c : Nat, (c = 6 ∨ c = 14 ∨ c = 80 ∨ c = 88) → ∀ w : Int, 0 ≤ w → w < 8 → -1000000 ≤ I c w ∧ I c w ≤ B
/-- what plans remember -/
def RPl (n : Nat) (J : MJ) : Prop := ∃ m : Nat, m ≤ n ∧ J 47 4 = Int64.ofNat m ∧ ∀ j : Int, 0 ≤ j → j < 1024 → ∃ k : Nat, k < (m + 1) * 2 ^ 47 ∧ J 51 j = Int64.ofNat k
/-- n calls have been made -/
def Inv (n : Nat) (I : MI) (J : MJ) : Prop := RRs I ∧ RTp I ∧ RSt I ∧ ROK (1000 + 2 * n) I 2 (I 94) ∧ RIm (1000 + 2 * n) I ∧ RAs (1000 + 2 * n) I ∧ RTr I ∧ RAk (1000 + 2 * n) I ∧ RPl n J
/-- both answer alike, and the tie holds behind them -/
def MQz (v : Int) (n : Nat) : QT := fun r2 I2 J2 => r2 = some (.inl v) ∧ Inv (n + 1) I2 J2
def PQz (x : RO) (d jm : Nat) (as : List AV) (n : Nat) : QT := fun r1 I1 J1 => ∃ v, inR v ∧ r1 = some (.inl v) ∧ EX x d jm (.inr (.inr (.inl 92)) :: as) I1 J1 (MQz v n)
def Pair (x : RO) (d jx jm : Nat) (as : List AV) (n : Nat) (I : MI) (J : MJ) : Prop := EX x d jx (.inr (.inr (.inl 0)) :: as) I J (PQz x d jm as n)
theorem PQ_of {x : RO} {d jm : Nat} {as : List AV} {n : Nat} {I : MI} {J : MJ} {v : Int} (h0 : -2147483648 ≤ v) (h1 : v < 2147483648) (h : EX x d jm (.inr (.inr (.inl 92)) :: as) I J (MQz v n)) : PQz x d jm as n (some (.inl v)) I J := ⟨v, ⟨h0, h1⟩, rfl, h⟩
theorem MQ_of {v v' : Int} {n : Nat} {I : MI} {J : MJ} (e : v' = v) (h : Inv (n + 1) I J) : MQz v n (some (.inl v')) I J := ⟨by rw [e], h⟩
/-! ===== what a hedge's tie gives ===== -/
section
variable {B : Int} {I : MI} {h : Nat} {g : HV}
theorem H_0 (H : ROK B I h g) : I h 0 = g 0 := H.2.1
theorem H_3 (H : ROK B I h g) : I h 3 = g 1 := H.2.2.1
theorem H_8 (H : ROK B I h g) : I h 8 = g 2 := H.2.2.2.1
theorem H_11 (H : ROK B I h g) : I h 11 = g 29 := H.2.2.2.2.1
theorem H_12 (H : ROK B I h g) : I h 12 = g 30 := H.2.2.2.2.2.1
theorem H_13 (H : ROK B I h g) : I h 13 = g 31 := H.2.2.2.2.2.2.1
theorem H_1 (H : ROK B I h g) (hs : g 0 = 1) : I h 1 = g 3 := (H.2.2.2.2.2.2.2.1 hs).1
theorem H_b (H : ROK B I h g) (hs : g 0 = 1) {k : Int} (h0 : 0 ≤ k) (h1 : k < 4) : I (h + 1) k = g (4 + k) := (H.2.2.2.2.2.2.2.1 hs).2 k h0 h1
theorem H_w (H : ROK B I h g) {w : Int} (h0 : 0 ≤ w) (h1 : w < g 1) : I (h + 2) w = g (8 + w) ∧ I (h + 3) w = g (16 + w) ∧ I (h + 4) w = encN (g (32 + w)) ∧ I (h + 5) w = g (40 + w) := H.2.2.2.2.2.2.2.2.1 w h0 h1
theorem H_t (H : ROK B I h g) {t : Int} (h0 : 0 ≤ t) (h1 : t < g 2) : I (h + 6) t = g (24 + t) ∧ I (h + 7) t = encN (g (48 + t)) := H.2.2.2.2.2.2.2.2.2 t h0 h1
theorem B_0 (H : MOK B g) : g 0 = 0 ∨ g 0 = 1 := H.1.1
theorem B_1 (H : MOK B g) : 0 ≤ g 1 ∧ g 1 ≤ 8 := ⟨H.1.2.1, H.1.2.2.1⟩
theorem B_2 (H : MOK B g) : 0 ≤ g 2 ∧ g 2 ≤ 5 := ⟨H.1.2.2.2.1, H.1.2.2.2.2.1⟩
theorem B_n (H : MOK B g) (hs : g 0 = 0) : g 1 = 0 ∧ g 2 = 0 := H.1.2.2.2.2.2.1 hs
theorem B_3 (H : MOK B g) (hs : g 0 = 1) : 1 ≤ g 3 ∧ g 3 ≤ 24 := ⟨(H.1.2.2.2.2.2.2.1 hs).1, (H.1.2.2.2.2.2.2.1 hs).2.1⟩
theorem B_b (H : MOK B g) (hs : g 0 = 1) {k : Int} (h0 : 0 ≤ k) (h1 : k < 4) : 0 ≤ g (4 + k) ∧ g (4 + k) ≤ 15 := (H.1.2.2.2.2.2.2.1 hs).2.2 k h0 h1
theorem B_w (H : MOK B g) {w : Int} (h0 : 0 ≤ w) (h1 : w < g 1) : 1 ≤ g (8 + w) ∧ g (8 + w) ≤ 5 ∧ 0 ≤ g (16 + w) ∧ g (16 + w) ≤ 3 := H.1.2.2.2.2.2.2.2.1 w h0 h1
theorem B_t (H : MOK B g) {t : Int} (h0 : 0 ≤ t) (h1 : t < g 2) : 1 ≤ g (24 + t) ∧ g (24 + t) < 2 ^ (g 1).toNat := H.1.2.2.2.2.2.2.2.2 t h0 h1
theorem p28 : ∀ n : Nat, n ≤ 8 → (2 : Int) ^ n ≤ 256 := by decide
theorem B_t2 (H : MOK B g) {t : Int} (h0 : 0 ≤ t) (h1 : t < g 2) : 1 ≤ g (24 + t) ∧ g (24 + t) < 256 := by
  have h2 := B_t H h0 h1
  have h3 := B_1 H
  have h4 := p28 (g 1).toNat (by omega)
  omega
theorem B_29 (H : MOK B g) : 0 ≤ g 29 ∧ g 29 ≤ 100000 := by
  have h1 := H.2.1.1
  have h2 := H.2.1.2.1
  have h3 := H.2.2
  omega
theorem B_30 (H : MOK B g) : -1 ≤ g 30 ∧ g 30 ≤ 3 := ⟨H.2.1.2.2.1, H.2.1.2.2.2.1⟩
theorem nPas_le (g : HV) : ∀ n : Nat, 0 ≤ nPas g n ∧ nPas g n ≤ n
  | 0 => ⟨Int.le_refl 0, Int.le_refl 0⟩
  | n + 1 => by
    have ih := nPas_le g n
    unfold nPas
    split <;> omega
theorem B_31 (H : MOK B g) : 0 ≤ g 31 ∧ g 31 ≤ 5 := by
  have h1 := H.2.1.2.2.2.2.1
  have h2 := H.2.1.2.2.2.2.2.1
  have h3 := nPas_le g (g 2).toNat
  have h4 := B_2 H
  omega
theorem B_a (H : MOK B g) {w : Int} (h0 : 0 ≤ w) (h1 : w < g 1) : -1 ≤ g (32 + w) ∧ g (32 + w) ≤ B ∧ 0 ≤ g (40 + w) ∧ g (40 + w) ≤ B := H.2.1.2.2.2.2.2.2.1 w h0 h1
theorem B_p (H : MOK B g) {t : Int} (h0 : 0 ≤ t) (h1 : t < g 2) : -1 ≤ g (48 + t) ∧ g (48 + t) ≤ 8 := H.2.1.2.2.2.2.2.2.2 t h0 h1
theorem B_s (H : MOK B g) {w : Int} (h0 : 0 ≤ w) (h1 : w < g 1) : g 0 = 1 := by
  rcases B_0 H with h2 | h2
  · have h3 := B_n H h2
    omega
  · exact h2
theorem B_st (H : MOK B g) {w : Int} (h0 : 0 ≤ w) (h1 : w < g 2) : g 0 = 1 := by
  rcases B_0 H with h2 | h2
  · have h3 := B_n H h2
    omega
  · exact h2
theorem R_0 (H : MOK B g) : inR (g 0) = True := by
  have h1 := B_0 H
  exact eq_true ⟨by omega, by omega⟩
theorem R_1 (H : MOK B g) : inR (g 1) = True := by
  have h1 := B_1 H
  exact eq_true ⟨by omega, by omega⟩
theorem R_2 (H : MOK B g) : inR (g 2) = True := by
  have h1 := B_2 H
  exact eq_true ⟨by omega, by omega⟩
theorem R_29 (H : MOK B g) : inR (g 29) = True := by
  have h1 := B_29 H
  exact eq_true ⟨by omega, by omega⟩
theorem R_30 (H : MOK B g) : inR (g 30) = True := by
  have h1 := B_30 H
  exact eq_true ⟨by omega, by omega⟩
theorem R_31 (H : MOK B g) : inR (g 31) = True := by
  have h1 := B_31 H
  exact eq_true ⟨by omega, by omega⟩
theorem enc_R {v : Int} (h1 : v ≤ 100000) : inR (encN v) := by
  unfold encN
  split
  · exact ⟨by decide, by decide⟩
  · exact ⟨by omega, by omega⟩
theorem enc_no {v : Int} (h1 : -1 ≤ v) : (encN v = -1000000) = (v < 0) := by
  unfold encN
  apply propext
  split <;> omega
end
/-! ===== the rules of the gate ===== -/
/-- worn in the hour h, wh: when each was asked (below 0: never) -/
def wornB (g : HV) (wh : Int → Int) (h w : Int) : Bool := decide (g (8 + w) < 4) && decide (0 ≤ wh w) && decide (h - wh w < g 3)
/-- may come behind the case l (below 0: none) -/
def comesB (g : HV) (w l : Int) : Bool := decide (l < 0) || (tb (g (4 + l)) (g (16 + w)) && (!decide (g (8 + w) = 3) || !decide (g (16 + w) = l)))
def mayB (g : HV) (wh : Int → Int) (h l w : Int) : Bool := !wornB g wh h w && comesB g w l
def passB (g : HV) (t : Int) : Bool := decide (0 ≤ g (48 + t))
def openN (g : HV) (wh : Int → Int) (h l : Int) : Nat → Int
  | 0 => 0
  | n + 1 => if mayB g wh h l n = true then orI (openN g wh h l n) (shlI 1 n) else openN g wh h l n
def kindB (k v : Int) : Bool := decide (v = 0) || decide (v = k) || (decide (v = 1) && decide (k < 4)) || (decide (v = 4) && decide (k = 5))
