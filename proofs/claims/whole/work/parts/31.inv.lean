/-! ===== what ties the class's cells to the model's ===== -/
def encN (v : Int) : Int := if v < 0 then -1000000 else v
/-- rows -/
def RR1 (I : MI) (n : Nat) : Prop := (I (60 + 2 * n) 1 = 0 ∧ I 99 n = 0) ∨
  (I (60 + 2 * n) 1 = 1 ∧ 0 ≤ I (60 + 2 * n) 2 ∧ I (60 + 2 * n) 2 ≤ 2 ∧ I 99 n = I (60 + 2 * n) 2 + 1 ∧ I 100 n = I (60 + 2 * n) 3 ∧ 0 ≤ I 100 n ∧ I 100 n ≤ 40 ∧ ∀ k : Int, 0 ≤ k → k < 40 → I (61 + 2 * n) k = I 101 (40 * n + k) ∧ inR (I (61 + 2 * n) k))
def RRs (I : MI) : Prop := ∀ n : Nat, n < 8 → RR1 I n
/-- the tape, the latest fault -/
def RTp (I : MI) : Prop := I 19 3 = I 92 1 ∧ 0 ≤ I 92 1 ∧ I 92 1 ≤ 120 ∧ (∀ k : Int, 0 ≤ k → k < I 92 1 → I 20 k = I 93 k ∧ 0 ≤ I 93 k ∧ I 93 k ≤ 255) ∧ I 19 4 = I 92 14 ∧ inR (I 92 14)
/-- status -/
def RSt (I : MI) : Prop := I 0 10 = I 92 13 ∧ inR (I 92 13)
abbrev HV : Type := Int → Int
/-- a hedge as the model holds it: what was told -/
def WTo (g : HV) : Prop := (g 0 = 0 ∨ g 0 = 1) ∧ 0 ≤ g 1 ∧ g 1 ≤ 8 ∧ 0 ≤ g 2 ∧ g 2 ≤ 5 ∧ (g 0 = 0 → g 1 = 0 ∧ g 2 = 0) ∧ (g 0 = 1 → 1 ≤ g 3 ∧ g 3 ≤ 24 ∧ ∀ k : Int, 0 ≤ k → k < 4 → 0 ≤ g (4 + k) ∧ g (4 + k) ≤ 15) ∧
  (∀ w : Int, 0 ≤ w → w < g 1 → 1 ≤ g (8 + w) ∧ g (8 + w) ≤ 5 ∧ 0 ≤ g (16 + w) ∧ g (16 + w) ≤ 3) ∧ ∀ t : Int, 0 ≤ t → t < g 2 → 1 ≤ g (24 + t) ∧ g (24 + t) < 2 ^ (g 1).toNat
/-- how many of the first n have passed -/
def nPas (g : HV) : Nat → Int
  | 0 => 0
  | n + 1 => nPas g n + (if g (48 + (n : Int)) < 0 then 0 else 1)
/-- what is, B a bound of hours and numbers -/
def WIs (B : Int) (g : HV) : Prop := 0 ≤ g 29 ∧ g 29 ≤ B ∧ -1 ≤ g 30 ∧ g 30 ≤ 3 ∧ 0 ≤ g 31 ∧ g 31 ≤ nPas g (g 2).toNat ∧
  (∀ w : Int, 0 ≤ w → w < g 1 → -1 ≤ g (32 + w) ∧ g (32 + w) ≤ B ∧ 0 ≤ g (40 + w) ∧ g (40 + w) ≤ B) ∧ ∀ t : Int, 0 ≤ t → t < g 2 → -1 ≤ g (48 + t) ∧ g (48 + t) ≤ 8
/-- the class's hedge at the cell h says the same -/
def RHd (I : MI) (h : Nat) (g : HV) : Prop := I h 0 = g 0 ∧ I h 3 = g 1 ∧ I h 8 = g 2 ∧ I h 11 = g 29 ∧ I h 12 = g 30 ∧ I h 13 = g 31 ∧ (g 0 = 1 → I h 1 = g 3 ∧ ∀ k : Int, 0 ≤ k → k < 4 → I (h + 1) k = g (4 + k)) ∧
  (∀ w : Int, 0 ≤ w → w < g 1 → I (h + 2) w = g (8 + w) ∧ I (h + 3) w = g (16 + w) ∧ I (h + 4) w = encN (g (32 + w)) ∧ I (h + 5) w = g (40 + w)) ∧
  ∀ t : Int, 0 ≤ t → t < g 2 → I (h + 6) t = g (24 + t) ∧ I (h + 7) t = encN (g (48 + t))
def ROK (B : Int) (I : MI) (h : Nat) (g : HV) : Prop := WTo g ∧ WIs B g ∧ RHd I h g
/-- images -/
def RIm (B : Int) (I : MI) : Prop := (I 76 0 = I 98 0 ∧ (I 98 0 = 0 ∨ (I 98 0 = 1 ∧ I 97 0 = 1 ∧ ROK B I 76 (fun i => I 97 i)))) ∧ (I 84 0 = I 98 1 ∧ (I 98 1 = 0 ∨ (I 98 1 = 1 ∧ I 97 53 = 1 ∧ ROK B I 84 (fun i => I 97 (53 + i)))))
/-- what is, with 24 numbers of a past put in place of it -/
def past (I : MI) (m : Int) : HV := fun i => if 29 ≤ i ∧ i < 53 then I 96 (24 * m + (i - 29)) else I 94 i
/-- an act of the ring takes one state back to another -/
def RAc (I : MI) (e : Nat) (g g' : HV) : Prop := g' 29 = I e 2 ∧ g' 30 = I e 3 ∧ g' 31 = I e 4 ∧
  (∀ t : Int, 0 ≤ t → t < g 2 → if t = I e 0 then g' (48 + t) < 0 ∧ encN (g' (48 + t)) = -1000000 else g' (48 + t) = g (48 + t)) ∧
  (∀ w : Int, 0 ≤ w → w < g 1 → if w = I e 1 then encN (g' (32 + w)) = I e 5 ∧ g' (40 + w) = g (40 + w) - 1 else g' (32 + w) = g (32 + w) ∧ g' (40 + w) = g (40 + w))
/-- the place in the ring of the act that lies k behind the latest -/
def ringAt (next : Int) (k : Nat) : Nat := ((next - 1 - k + 48) % 24).toNat
def RAs (B : Int) (I : MI) : Prop := I 21 2 = I 92 5 ∧ 0 ≤ I 92 5 ∧ I 92 5 ≤ 24 ∧ 0 ≤ I 21 1 ∧ I 21 1 < 24 ∧ (I 94 0 = 0 → I 92 5 = 0) ∧
  ∀ k : Nat, (k : Int) < I 92 5 → WIs B (past I (I 92 5 - 1 - k)) ∧ RAc I (23 + ringAt (I 21 1) k) (if k = 0 then (fun i => I 94 i) else past I (I 92 5 - k)) (past I (I 92 5 - 1 - k))
/-- the trace -/
def RTr (I : MI) : Prop := I 58 1 = I 92 12 ∧ 0 ≤ I 92 12 ∧ I 92 12 ≤ 16 ∧ ∀ k : Int, 0 ≤ k → k < I 92 12 → I 59 k = I 102 k ∧ inR (I 59 k)
/-- what plans remember -/
def RPl (n : Nat) (J : MJ) : Prop := ∃ m : Nat, m ≤ n ∧ J 47 4 = Int64.ofNat m ∧ ∀ j : Int, 0 ≤ j → j < 1024 → ∃ k : Nat, k < (m + 1) * 2 ^ 47 ∧ J 51 j = Int64.ofNat k
/-- n calls have been made -/
def Inv (n : Nat) (I : MI) (J : MJ) : Prop := RRs I ∧ RTp I ∧ RSt I ∧ ROK (1000 + 2 * n) I 2 (fun i => I 94 i) ∧ RIm (1000 + 2 * n) I ∧ RAs (1000 + 2 * n) I ∧ RTr I ∧ RPl n J
/-- both answer alike, and the tie holds behind them -/
def Pair (x : RO) (d jx jm : Nat) (as : List AV) (n : Nat) (I : MI) (J : MJ) : Prop :=
  EX x d jx (.inr (.inr (.inl 0)) :: as) I J (fun r1 I1 J1 => ∃ v, inR v ∧ r1 = some (.inl v) ∧ EX x d jm (.inr (.inr (.inl 92)) :: as) I1 J1 (fun r2 I2 J2 => r2 = some (.inl v) ∧ Inv (n + 1) I2 J2))
