/-! ===== the little machine: numbers are mathematical, cells have numbers, nothing is made ===== -/
abbrev AV : Type := Int ⊕ (Int64 ⊕ (Nat ⊕ Nat))
abbrev MI : Type := Nat → Int → Int
abbrev MJ : Type := Nat → Int → Int64
abbrev LsT : Type := List (Option AV)
/-- an object's fields: a number (false: int, true: long) or a reference -/
abbrev FV : Type := Bool ⊕ Option Nat
/-- a cell: an object of a class; an array of numbers (0 int, 1 long, 2 boolean) of a length; an array of references (3 Row, 4 Hedge, 5 Act) -/
abbrev Sh : Type := (Nat × List FV) ⊕ ((Nat × Nat) ⊕ (Nat × List (Option Nat)))
def up (I : MI) (c : Nat) (j v : Int) : MI := fun c' j' => if c' = c ∧ j' = j then v else I c' j'
def upL (J : MJ) (c : Nat) (j : Int) (v : Int64) : MJ := fun c' j' => if c' = c ∧ j' = j then v else J c' j'
def inR (x : Int) : Prop := -2147483648 ≤ x ∧ x < 2147483648
def wr (x : Int32) : Int := x.toInt
def andI (a b : Int) : Int := (Int32.ofInt a &&& Int32.ofInt b).toInt
def orI (a b : Int) : Int := (Int32.ofInt a ||| Int32.ofInt b).toInt
def xorI (a b : Int) : Int := (Int32.ofInt a ^^^ Int32.ofInt b).toInt
def shlI (a b : Int) : Int := (Int32.ofInt a <<< (Int32.ofInt b &&& 31)).toInt
def shrI (a b : Int) : Int := (Int32.ofInt a >>> (Int32.ofInt b &&& 31)).toInt
def ushrI (a b : Int) : Int := ((Int32.ofInt a).toUInt32 >>> ((Int32.ofInt b).toUInt32 &&& Int32.toUInt32 31)).toInt32.toInt
def divI (a b : Int) : Int := (Int32.ofInt a / Int32.ofInt b).toInt
def remI (a b : Int) : Int := (Int32.ofInt a - Int32.ofInt a / Int32.ofInt b * Int32.ofInt b).toInt
def b8 (a : Int) : Int := (Int32.ofInt a).toInt8.toInt32.toInt
def b16 (a : Int) : Int := (Int32.ofInt a).toInt16.toInt32.toInt
def catS : List AV → Nat
  | [] => 0
  | (.inr (.inl _)) :: r => catS r + 2
  | _ :: r => catS r + 1
/-- a place of the locals that is no half of a long -/
def nlO : Option (Option AV) → Bool
  | some (some (.inr (.inl _))) => false
  | _ => true
def nl (ls : LsT) (i : Nat) : Bool := match i with
  | 0 => true
  | k + 1 => nlO (ls[k]?)
/-- class of a cell: of an object its class, of an array 20 and its kind -/
def clS (σ : List Sh) (r : Nat) : Nat := match σ[r]? with
  | some (.inl (c, _)) => c
  | some (.inr (.inl (t, _))) => 20 + t
  | some (.inr (.inr (t, _))) => 20 + t
  | none => 99
def lnS (σ : List Sh) (r : Nat) : Nat := match σ[r]? with
  | some (.inr (.inl (_, n))) => n
  | some (.inr (.inr (_, l))) => l.length
  | _ => 0
/-- a reference in a field -/
def rfS (σ : List Sh) (r j : Nat) : Option Nat := match σ[r]? with
  | some (.inl (_, fs)) => (match fs[j]? with
    | some (.inr x) => x
    | _ => none)
  | _ => none
def elS (σ : List Sh) (r : Nat) (j : Nat) : Option Nat := match σ[r]? with
  | some (.inr (.inr (_, l))) => l.getD j none
  | _ => none
/-- arrays that nobody writes: the script, and the three of the class -/
abbrev RO : Type := Nat × (Nat → Int)
def roA (x : RO) (t : Nat) : RO := match t with
  | 0 => x
  | 1 => (6, fun j => ([-1, 0, 1, 1, 0, 4] : List Int).getD j 0)
  | 2 => (6, fun j => ([10, 11, 12, 0, 13, 14] : List Int).getD j 0)
  | _ => (6, fun j => ([20, 21, 24, 22, 23, 0] : List Int).getD j 0)
def cmpI (b : Nat) (x y : Int) : Prop := match b with
  | 0 => x = y
  | 1 => ¬ x = y
  | 2 => x < y
  | 3 => y ≤ x
  | 4 => y < x
  | _ => x ≤ y
abbrev QT : Type := Option AV → MI → MJ → Prop
abbrev KT : Type := Nat → LsT → List AV → MI → MJ → Prop
abbrev ET : Type := Nat → List AV → MI → MJ → QT → Prop
def ret01 (x : Int) : Prop := x = 0 ∨ x = 1
/-- what one instruction asks for, so that k holds behind it -/
def wp1 (E : ET) (σ : List Sh) (x : RO) (a : AIns) (pc : Nat) (ls : LsT) (st : List AV) (I : MI) (J : MJ) (k : KT) (Q : QT) : Prop :=
  match a with
  | (0, nx, _, _, c) => k nx ls (.inl c :: st) I J
  | (1, nx, i, _, _) => (match ls[i]? with
    | some (some (.inl v)) => k nx ls (.inl v :: st) I J
    | _ => False)
  | (2, nx, i, _, _) => (match ls[i]? with
    | some (some (.inr (.inr v))) => k nx ls (.inr (.inr v) :: st) I J
    | _ => False)
  | (3, nx, i, _, _) => (match ls[i]? with
    | some (some (.inr (.inl v))) => k nx ls (.inr (.inl v) :: st) I J
    | _ => False)
  | (4, nx, i, _, _) => (match st with
    | .inl v :: r => nl ls i = true ∧ i < ls.length ∧ k nx (ls.set i (some (.inl v))) r I J
    | _ => False)
  | (5, nx, i, _, _) => (match st with
    | .inr (.inr v) :: r => nl ls i = true ∧ i < ls.length ∧ k nx (ls.set i (some (.inr (.inr v)))) r I J
    | _ => False)
  | (6, nx, i, _, _) => (match st with
    | .inr (.inl v) :: r => nl ls i = true ∧ i + 1 < ls.length ∧ k nx ((ls.set i (some (.inr (.inl v)))).set (i + 1) none) r I J
    | _ => False)
  | (7, nx, i, _, c) => (match ls[i]? with
    | some (some (.inl v)) => nl ls i = true ∧ k nx (ls.set i (some (.inl (v + c)))) st I J
    | _ => False)
  | (8, nx, _, _, _) => (match st with
    | .inl b :: .inl a :: r => k nx ls (.inl (a + b) :: r) I J
    | _ => False)
  | (9, nx, _, _, _) => (match st with
    | .inl b :: .inl a :: r => k nx ls (.inl (a - b) :: r) I J
    | _ => False)
  | (10, nx, _, _, _) => (match st with
    | .inl b :: .inl a :: r => k nx ls (.inl (a * b) :: r) I J
    | _ => False)
  | (11, nx, _, _, _) => (match st with
    | .inl b :: .inl a :: r => k nx ls (.inl (andI a b) :: r) I J
    | _ => False)
  | (12, nx, _, _, _) => (match st with
    | .inl b :: .inl a :: r => k nx ls (.inl (orI a b) :: r) I J
    | _ => False)
  | (13, nx, _, _, _) => (match st with
    | .inl b :: .inl a :: r => k nx ls (.inl (xorI a b) :: r) I J
    | _ => False)
  | (14, nx, _, _, _) => (match st with
    | .inl b :: .inl a :: r => k nx ls (.inl (shlI a b) :: r) I J
    | _ => False)
  | (15, nx, _, _, _) => (match st with
    | .inl b :: .inl a :: r => k nx ls (.inl (shrI a b) :: r) I J
    | _ => False)
  | (16, nx, _, _, _) => (match st with
    | .inl b :: .inl a :: r => k nx ls (.inl (ushrI a b) :: r) I J
    | _ => False)
  | (17, nx, _, _, _) => (match st with
    | .inl b :: .inl a :: r => inR b ∧ ¬ b = 0 ∧ k nx ls (.inl (divI a b) :: r) I J
    | _ => False)
  | (18, nx, _, _, _) => (match st with
    | .inl b :: .inl a :: r => inR b ∧ ¬ b = 0 ∧ k nx ls (.inl (remI a b) :: r) I J
    | _ => False)
  | (19, nx, _, _, _) => (match st with
    | .inl a :: r => k nx ls (.inl (-a) :: r) I J
    | _ => False)
  | (20, nx, _, _, _) => (match st with
    | .inl a :: r => k nx ls (.inl (b8 a) :: r) I J
    | _ => False)
  | (21, nx, _, _, _) => (match st with
    | .inl a :: r => k nx ls (.inl (b16 a) :: r) I J
    | _ => False)
  | (22, nx, _, _, _) => (match st with
    | .inl a :: r => k nx ls (.inr (.inl (Int32.ofInt a).toInt64) :: r) I J
    | _ => False)
  | (23, nx, _, _, _) => (match st with
    | .inr (.inl a) :: r => k nx ls (.inl a.toInt32.toInt :: r) I J
    | _ => False)
  | (24, nx, _, _, c) => k nx ls (.inr (.inl (Int64.ofInt c)) :: st) I J
  | (25, nx, _, _, _) => (match st with
    | .inr (.inl b) :: .inr (.inl a) :: r => k nx ls (.inr (.inl (a + b)) :: r) I J
    | _ => False)
  | (26, nx, _, _, _) => (match st with
    | .inr (.inl b) :: .inr (.inl a) :: r => k nx ls (.inr (.inl (a * b)) :: r) I J
    | _ => False)
  | (27, nx, _, _, _) => (match st with
    | .inr (.inl b) :: .inr (.inl a) :: r => k nx ls (.inr (.inl (a ||| b)) :: r) I J
    | _ => False)
  | (28, nx, _, _, _) => (match st with
    | .inl b :: .inr (.inl a) :: r => k nx ls (.inr (.inl (a <<< ((Int32.ofInt b).toInt64 &&& 63))) :: r) I J
    | _ => False)
  | (29, nx, _, _, _) => (match st with
    | .inl b :: .inr (.inl a) :: r => k nx ls (.inr (.inl (a.toUInt64 >>> ((Int32.ofInt b).toInt64.toUInt64 &&& Int64.toUInt64 63)).toInt64) :: r) I J
    | _ => False)
  | (30, nx, _, _, _) => (match st with
    | .inr (.inl b) :: .inr (.inl a) :: r => k nx ls (.inl (lg_cmp a b).toInt :: r) I J
    | _ => False)
  | (31, nx, _, _, _) => (match st with
    | .inl a :: r => k nx ls (.inl a :: .inl a :: r) I J
    | .inr (.inr a) :: r => k nx ls (.inr (.inr a) :: .inr (.inr a) :: r) I J
    | _ => False)
  | (32, nx, _, _, _) => (match st with
    | .inl b :: .inr (.inr a) :: r => k nx ls (.inl b :: .inr (.inr a) :: .inl b :: .inr (.inr a) :: r) I J
    | _ => False)
  | (33, nx, tg, b, _) => (match st with
    | .inl a :: r => inR a ∧ (cmpI b a 0 → k tg ls r I J) ∧ (¬ cmpI b a 0 → k nx ls r I J)
    | _ => False)
  | (34, nx, tg, b, _) => (match st with
    | .inl y :: .inl a :: r => inR a ∧ inR y ∧ (cmpI b a y → k tg ls r I J) ∧ (¬ cmpI b a y → k nx ls r I J)
    | _ => False)
  | (35, _, tg, _, _) => k tg ls st I J
  | (36, _, w, _, _) => (match st, SWL[w]? with
    | .inl a :: r, some (lo, ts, d) => inR a ∧ ((a < lo ∨ lo + ts.length ≤ a) → k d ls r I J) ∧ ∀ (i t : Nat), ts[i]? = some t → a = lo + i → k t ls r I J
    | _, _ => False)
  | (37, nx, ci, j, _) => (match st with
    | .inr (.inr (.inl r)) :: t => clS σ r = ci ∧ k nx ls (.inl (I r j) :: t) I J
    | _ => False)
  | (38, nx, ci, j, _) => (match st with
    | .inr (.inr (.inl r)) :: t => clS σ r = ci ∧ k nx ls (.inr (.inl (J r j)) :: t) I J
    | _ => False)
  | (39, nx, ci, j, _) => (match st with
    | .inr (.inr (.inl r)) :: t => clS σ r = ci ∧ ∃ q, rfS σ r j = some q ∧ k nx ls (.inr (.inr (.inl q)) :: t) I J
    | _ => False)
  | (40, nx, ci, j, _) => (match st with
    | .inl v :: .inr (.inr (.inl r)) :: t => clS σ r = ci ∧ k nx ls t (up I r j v) J
    | _ => False)
  | (41, nx, ci, j, _) => (match st with
    | .inl v :: .inr (.inr (.inl r)) :: t => clS σ r = ci ∧ ret01 v ∧ k nx ls t (up I r j v) J
    | _ => False)
  | (42, nx, ci, j, _) => (match st with
    | .inr (.inl v) :: .inr (.inr (.inl r)) :: t => clS σ r = ci ∧ k nx ls t I (upL J r j v)
    | _ => False)
  | (43, nx, t, _, _) => k nx ls (.inr (.inr (.inr t)) :: st) I J
  | (44, nx, _, _, _) => (match st with
    | .inl i :: .inr (.inr (.inl r)) :: t => clS σ r = 20 ∧ 0 ≤ i ∧ i < lnS σ r ∧ k nx ls (.inl (I r i) :: t) I J
    | .inl i :: .inr (.inr (.inr w)) :: t => w < 4 ∧ 0 ≤ i ∧ i < (roA x w).1 ∧ k nx ls (.inl ((roA x w).2 i.toNat) :: t) I J
    | _ => False)
  | (45, nx, _, _, _) => (match st with
    | .inl v :: .inl i :: .inr (.inr (.inl r)) :: t => clS σ r = 20 ∧ 0 ≤ i ∧ i < lnS σ r ∧ k nx ls t (up I r i v) J
    | _ => False)
  | (46, nx, _, _, _) => (match st with
    | .inl i :: .inr (.inr (.inl r)) :: t => clS σ r = 22 ∧ 0 ≤ i ∧ i < lnS σ r ∧ k nx ls (.inl (I r i) :: t) I J
    | _ => False)
  | (47, nx, _, _, _) => (match st with
    | .inl v :: .inl i :: .inr (.inr (.inl r)) :: t => clS σ r = 22 ∧ 0 ≤ i ∧ i < lnS σ r ∧ ret01 v ∧ k nx ls t (up I r i v) J
    | _ => False)
  | (48, nx, _, _, _) => (match st with
    | .inl i :: .inr (.inr (.inl r)) :: t => clS σ r = 21 ∧ 0 ≤ i ∧ i < lnS σ r ∧ k nx ls (.inr (.inl (J r i)) :: t) I J
    | _ => False)
  | (49, nx, _, _, _) => (match st with
    | .inr (.inl v) :: .inl i :: .inr (.inr (.inl r)) :: t => clS σ r = 21 ∧ 0 ≤ i ∧ i < lnS σ r ∧ k nx ls t I (upL J r i v)
    | _ => False)
  | (50, nx, _, _, _) => (match st with
    | .inl i :: .inr (.inr (.inl r)) :: t => 23 ≤ clS σ r ∧ clS σ r ≤ 25 ∧ 0 ≤ i ∧ i < lnS σ r ∧ ∃ q, elS σ r i.toNat = some q ∧ k nx ls (.inr (.inr (.inl q)) :: t) I J
    | _ => False)
  | (51, nx, _, _, _) => (match st with
    | .inr (.inr (.inl r)) :: t => 20 ≤ clS σ r ∧ clS σ r ≤ 25 ∧ lnS σ r < 2147483648 ∧ k nx ls (.inl (lnS σ r) :: t) I J
    | .inr (.inr (.inr w)) :: t => w < 4 ∧ k nx ls (.inl (roA x w).1 :: t) I J
    | _ => False)
  | (52, nx, j, n, _) => catS (st.drop n) ≤ 8 ∧ n ≤ st.length ∧ E j (st.take n).reverse I J (fun r I' J' => k nx ls (r.toList ++ st.drop n) I' J')
  | (53, nx, j, n, _) => catS (st.drop (n + 1)) ≤ 8 ∧ (match st[n]? with
    | some (.inr (.inr (.inl r))) => clS σ r = (MR j).2.2.2.2.1 ∧ E j (.inr (.inr (.inl r)) :: (st.take n).reverse) I J (fun r I' J' => k nx ls (r.toList ++ st.drop (n + 1)) I' J')
    | _ => False)
  | (54, nx, _, _, _) => (match st with
    | .inl n :: .inl dp :: .inr (.inr (.inl d)) :: .inl sp :: .inr (.inr (.inl s)) :: t => catS t ≤ 8 ∧ clS σ s = 20 ∧ clS σ d = 20 ∧ 0 ≤ n ∧ 0 ≤ sp ∧ 0 ≤ dp ∧ sp + n ≤ lnS σ s ∧ dp + n ≤ lnS σ d ∧
        k nx ls t (fun c j => if c = d ∧ dp ≤ j ∧ j < dp + n then I s (sp + (j - dp)) else I c j) J
    | _ => False)
  | (55, _, _, _, _) => (match st with
    | [.inl v] => Q (some (.inl v)) I J
    | _ => False)
  | (56, _, _, _, _) => (match st with
    | [.inl v] => ret01 v ∧ Q (some (.inl v)) I J
    | _ => False)
  | (57, _, _, _, _) => (match st with
    | [] => Q none I J
    | _ => False)
  | (65, nx, _, _, _) => (match st with
    | .inl y :: .inl a :: r => catS r ≤ 8 ∧ inR a ∧ inR y ∧ k nx ls (.inl (if a < y then y else a) :: r) I J
    | _ => False)
  | (66, nx, _, _, _) => (match st with
    | .inl y :: .inl a :: r => catS r ≤ 8 ∧ inR a ∧ inR y ∧ k nx ls (.inl (if y < a then y else a) :: r) I J
    | _ => False)
  | _ => False
def cod (M pc : Nat) : Option AIns := ((PG M).find? (fun r => r.1 == pc)).map (fun r => r.2.1)
/-- from here the method comes to its end with Q: the least such predicate -/
def GoE (E : ET) (σ : List Sh) (x : RO) (M : Nat) (Q : QT) : KT := fun pc ls st I J =>
  ∀ P : KT, (∀ pc ls st I J a (k : KT), cod M pc = some a → (∀ pc ls st I J, k pc ls st I J → P pc ls st I J) → wp1 E σ x a pc ls st I J k Q → P pc ls st I J) → P pc ls st I J
def isC1 : AV → Bool
  | .inr (.inl _) => false
  | _ => true
def lsOf (n : Nat) (args : List AV) : LsT := args.map some ++ List.replicate (n - args.length) none
def Ex (σ : List Sh) (x : RO) : Nat → ET
  | 0 => fun _ _ _ _ _ => False
  | d + 1 => fun j args I J Q => j + 1 < nM ∧ args.all isC1 = true ∧ args.length ≤ (MR j).2.2.1 ∧ GoE (Ex σ x d) σ x j Q 0 (lsOf (MR j).2.2.1 args) [] I J
