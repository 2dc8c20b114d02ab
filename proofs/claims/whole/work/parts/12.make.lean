/-! ===== the machine that makes cells: for the constructors alone, and it is run ===== -/
abbrev FS : Type := Nat × LsT × List AV × List Sh × MI × MJ
abbrev EvT : Type := Nat → List AV → List Sh → MI → MJ → Option (Option AV × List Sh × MI × MJ)
def dflF (t : FieldType) : FV := match isTy t with
  | 2 => .inl true
  | 3 => .inr none
  | _ => .inl false
def dflO (ci : Nat) : List FV := (List.range (CL.getD ci ("", T_0, 0)).2.2).map (fun j => dflF (TYF ci j))
def szC : Sh → Nat
  | .inl (_, fs) => fs.length
  | .inr (.inl (_, n)) => n
  | .inr (.inr (_, l)) => l.length
def sz (σ : List Sh) : Nat := (σ.map szC).sum
def zI (I : MI) (r : Nat) : MI := fun c j => if c = r then 0 else I c j
def zJ (J : MJ) (r : Nat) : MJ := fun c j => if c = r then 0 else J c j
def cmpB (b : Nat) (x y : Int) : Bool := match b with
  | 0 => decide (x = y)
  | 1 => decide (¬ x = y)
  | 2 => decide (x < y)
  | 3 => decide (y ≤ x)
  | 4 => decide (y < x)
  | _ => decide (x ≤ y)
theorem cmpB_iff (b : Nat) (x y : Int) : cmpB b x y = true ↔ cmpI b x y := by
  unfold cmpB cmpI
  split <;> simp
def inRb (x : Int) : Bool := decide (-2147483648 ≤ x ∧ x < 2147483648)
theorem inRb_iff {x : Int} : inRb x = true ↔ inR x := by unfold inRb inR; simp
/-- the class of what an array of references holds -/
def elC : Nat → Nat
  | 3 => 5
  | 4 => 3
  | _ => 0
def ev1 (E : EvT) (a : AIns) (S : FS) : Option FS := match S with
  | (_, ls, st, σ, I, J) => match a with
  | (0, nx, _, _, c) => some (nx, ls, .inl c :: st, σ, I, J)
  | (1, nx, i, _, _) => (match ls[i]? with
    | some (some (.inl v)) => some (nx, ls, .inl v :: st, σ, I, J)
    | _ => none)
  | (2, nx, i, _, _) => (match ls[i]? with
    | some (some (.inr (.inr v))) => some (nx, ls, .inr (.inr v) :: st, σ, I, J)
    | _ => none)
  | (4, nx, i, _, _) => (match st with
    | .inl v :: r => if nl ls i = true ∧ i < ls.length then some (nx, ls.set i (some (.inl v)), r, σ, I, J) else none
    | _ => none)
  | (5, nx, i, _, _) => (match st with
    | .inr (.inr v) :: r => if nl ls i = true ∧ i < ls.length then some (nx, ls.set i (some (.inr (.inr v))), r, σ, I, J) else none
    | _ => none)
  | (7, nx, i, _, c) => (match ls[i]? with
    | some (some (.inl v)) => if nl ls i = true then some (nx, ls.set i (some (.inl (v + c))), st, σ, I, J) else none
    | _ => none)
  | (24, nx, _, _, c) => some (nx, ls, .inr (.inl (Int64.ofInt c)) :: st, σ, I, J)
  | (31, nx, _, _, _) => (match st with
    | .inr (.inr a) :: r => some (nx, ls, .inr (.inr a) :: .inr (.inr a) :: r, σ, I, J)
    | _ => none)
  | (33, nx, tg, b, _) => (match st with
    | .inl a :: r => if inRb a = true then (if cmpB b a 0 = true then some (tg, ls, r, σ, I, J) else some (nx, ls, r, σ, I, J)) else none
    | _ => none)
  | (34, nx, tg, b, _) => (match st with
    | .inl y :: .inl a :: r => if inRb a = true ∧ inRb y = true then (if cmpB b a y = true then some (tg, ls, r, σ, I, J) else some (nx, ls, r, σ, I, J)) else none
    | _ => none)
  | (35, _, tg, _, _) => some (tg, ls, st, σ, I, J)
  | (39, nx, ci, j, _) => (match st with
    | .inr (.inr (.inl r)) :: t => if clS σ r = ci then (match rfS σ r j with
      | some q => some (nx, ls, .inr (.inr (.inl q)) :: t, σ, I, J)
      | none => none) else none
    | _ => none)
  | (40, nx, ci, j, _) => (match st with
    | .inl v :: .inr (.inr (.inl r)) :: t => if clS σ r = ci then some (nx, ls, t, σ, up I r j v, J) else none
    | _ => none)
  | (41, nx, ci, j, _) => (match st with
    | .inl v :: .inr (.inr (.inl r)) :: t => if clS σ r = ci ∧ (v = 0 ∨ v = 1) then some (nx, ls, t, σ, up I r j v, J) else none
    | _ => none)
  | (42, nx, ci, j, _) => (match st with
    | .inr (.inl v) :: .inr (.inr (.inl r)) :: t => if clS σ r = ci then some (nx, ls, t, σ, I, upL J r j v) else none
    | _ => none)
  | (44, nx, _, _, _) => (match st with
    | .inl i :: .inr (.inr (.inl r)) :: t => if clS σ r = 20 ∧ 0 ≤ i ∧ i < lnS σ r then some (nx, ls, .inl (I r i) :: t, σ, I, J) else none
    | _ => none)
  | (45, nx, _, _, _) => (match st with
    | .inl v :: .inl i :: .inr (.inr (.inl r)) :: t => if clS σ r = 20 ∧ 0 ≤ i ∧ i < lnS σ r then some (nx, ls, t, σ, up I r i v, J) else none
    | _ => none)
  | (52, nx, j, n, _) => if catS (st.drop n) ≤ 8 ∧ n ≤ st.length then (match E j (st.take n).reverse σ I J with
    | some (r, σ', I', J') => some (nx, ls, r.toList ++ st.drop n, σ', I', J')
    | none => none) else none
  | (53, nx, j, n, _) => (match st[n]? with
    | some (.inr (.inr (.inl r))) => if catS (st.drop (n + 1)) ≤ 8 ∧ clS σ r = (MR j).2.2.2.2.1 then (match E j (.inr (.inr (.inl r)) :: (st.take n).reverse) σ I J with
      | some (q, σ', I', J') => some (nx, ls, q.toList ++ st.drop (n + 1), σ', I', J')
      | none => none) else none
    | _ => none)
  | (58, nx, ci, _, _) => if ci < 11 then some (nx, ls, .inr (.inr (.inl σ.length)) :: st, σ ++ [.inl (ci, dflO ci)], zI I σ.length, zJ J σ.length) else none
  | (59, nx, t, _, _) => (match st with
    | .inl n :: r => if 0 ≤ n ∧ n < 100000 ∧ t < 3 then some (nx, ls, .inr (.inr (.inl σ.length)) :: r, σ ++ [.inr (.inl (t, n.toNat))], zI I σ.length, zJ J σ.length) else none
    | _ => none)
  | (60, nx, t, _, _) => (match st with
    | .inl n :: r => if 0 ≤ n ∧ n < 100000 ∧ 3 ≤ t ∧ t < 6 then some (nx, ls, .inr (.inr (.inl σ.length)) :: r, σ ++ [.inr (.inr (t, List.replicate n.toNat none))], zI I σ.length, zJ J σ.length) else none
    | _ => none)
  | (61, nx, ci, j, _) => (match st with
    | .inr (.inr (.inl q)) :: .inr (.inr (.inl r)) :: t => (match σ[r]? with
      | some (.inl (c, fs)) => if c = ci then some (nx, ls, t, σ.set r (.inl (c, fs.set j (.inr (some q)))), I, J) else none
      | _ => none)
    | _ => none)
  | (62, nx, _, _, _) => (match st with
    | .inr (.inr (.inl q)) :: .inl i :: .inr (.inr (.inl r)) :: t => (match σ[r]? with
      | some (.inr (.inr (y, l))) => if 0 ≤ i ∧ i < l.length ∧ clS σ q = elC y then some (nx, ls, t, σ.set r (.inr (.inr (y, l.set i.toNat (some q)))), I, J) else none
      | _ => none)
    | _ => none)
  | (63, nx, j, n, _) => (match st[n]? with
    | some (.inr (.inr (.inl r))) => if catS (st.drop (n + 1)) ≤ 8 then (match E j (.inr (.inr (.inl r)) :: (st.take n).reverse) σ I J with
      | some (none, σ', I', J') => some (nx, ls, st.drop (n + 1), σ', I', J')
      | _ => none) else none
    | _ => none)
  | (64, nx, _, _, _) => (match st with
    | .inr (.inr (.inl _)) :: t => if catS t ≤ 8 then some (nx, ls, t, σ, I, J) else none
    | _ => none)
  | _ => none
def lawN : Nat := nM - 1
def stopB (M : Nat) (a : AIns) (pc : Nat) : Bool := decide (a.1 = 55 ∨ a.1 = 56 ∨ a.1 = 57) || (decide (M = lawN) && decide (pc = 18))
def evS (E : EvT) (M : Nat) : Nat → FS → Option FS
  | 0, _ => none
  | n + 1, S => match cod M S.1 with
    | none => none
    | some a => if stopB M a S.1 = true then some S else (match ev1 E a S with
      | some S1 => evS E M n S1
      | none => none)
def endM (M : Nat) (S : FS) : Option (Option AV × List Sh × MI × MJ) := match S with
  | (pc, _, st, σ, I, J) => match cod M pc with
    | some (57, _, _, _, _) => (match st with
      | [] => some (none, σ, I, J)
      | _ => none)
    | some (56, _, _, _, _) => (match st with
      | [.inl v] => if v = 0 ∨ v = 1 then some (some (.inl v), σ, I, J) else none
      | _ => none)
    | _ => none
def evM (N : Nat) : Nat → EvT
  | 0 => fun _ _ _ _ _ => none
  | d + 1 => fun j as σ I J => if j + 1 < nM ∧ as.all isC1 = true ∧ as.length ≤ (MR j).2.2.1 then (match evS (evM N d) j N (0, lsOf (MR j).2.2.1 as, [], σ, I, J) with
    | some S => endM j S
    | none => none) else none
/-- the whole beginning of the law, up to its loop -/
def evL (N : Nat) : Option FS := evS (evM N 8) lawN N (0, lsOf 4 [.inr (.inr (.inr 0))], [], [], fun _ _ => 0, fun _ _ => 0)
