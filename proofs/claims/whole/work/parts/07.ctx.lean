/-! ===== the frame that a step stands in ===== -/
def RoW (B : Nat) (ro : Nat → Nat) (x : RO) (U : State) (H : Heap) : Prop :=
  (∀ t : Nat, t < 4 → va_T .int (ro t) (roA x t).1 (fun j => .int (Int32.ofInt ((roA x t).2 j))) (fun q => B ≤ q) U H) ∧
  ∀ t : Nat, 0 < t → t < 4 → va_Z "HedgeGate" (sNm t) "[I" (.ref (ro t)) (fun q => B ≤ q) U H
theorem RoW.moved {B : Nat} {ro : Nat → Nat} {x : RO} {u U : State} {H : Heap} (hvm : u.vm.Alike U.vm) (h : RoW B ro x u H) : RoW B ro x U H :=
  ⟨fun t ht => (h.1 t ht).moved hvm, fun t h0 ht => (h.2 t h0 ht).moved hvm⟩
theorem RoW.kept {B : Nat} {ro : Nat → Nat} {x : RO} {U : State} {H H1 : Heap} (h : RoW B ro x U H) (hq : ∀ a : Nat, a < H.size → ¬ B ≤ a → H1[a]? = H[a]?) : RoW B ro x U H1 :=
  ⟨fun t ht => (h.1 t ht).kept hq, fun t h0 ht => (h.2 t h0 ht).kept hq⟩
def lw_gd : List Cond := lw_tbl.filter goodWord
theorem mem_gd {w : Cond} (h : w ∈ lw_tbl) (g : goodWord w = true) : w ∈ lw_gd := List.mem_filter.mpr ⟨h, g⟩
def isNw : Cond → Bool
  | .methodLinkNest _ _ _ _ => true
  | .fieldLinkNest _ _ _ _ _ _ => true
  | _ => false
def NwW (U : State) : Prop := (∀ w ∈ lw_tbl, isNw w = true → va_Nw w U) ∧ va_AO "HedgeGate$Row" U ∧ va_AO "HedgeGate$Hedge" U ∧ va_AO "HedgeGate$Act" U
theorem NwW.warm {s U : State} (hW : s.WarmedH U.vm) (h : NwW s) : NwW U := by
  refine ⟨fun w hw hn => ?_, h.2.1.moved hW.alike, h.2.2.1.moved hW.alike, h.2.2.2.moved hW.alike⟩
  have hz := h.1 w hw hn
  cases w <;> first | exact va_Nw.warmM hW hz | exact va_Nw.warmF hW hz | cases hn
theorem NwW.same {s U : State} (hv : s.vm = U.vm) (h : NwW s) : NwW U := by
  have ha : s.vm.Alike U.vm := by rw [hv]; exact Vm.Alike.refl _
  refine ⟨fun w hw hn => ?_, h.2.1.moved ha, h.2.2.1.moved ha, h.2.2.2.moved ha⟩
  have hz := h.1 w hw hn
  cases w <;> first | exact va_Nw.same rfl hv hz | cases hn
def Cx (B : Nat) (ro : Nat → Nat) (cA dC : Nat → ClassId) (dI : Nat → Nat → Nat) (x : RO) (d M : Nat) (p : Program) (R : Room) (s : State) (m : MethodId) (args : Array Value) (meth : Method) (c : Code) (cells slots : Nat) : Prop :=
  p.tables.exec = Jvm.exec ∧ c.code = (MR M).2.1 ∧ meth.sig.returnType = (MR M).2.2.2.1 ∧ c.maxLocals = (MR M).2.2.1 ∧ s.vm.findClass (RR (MR M).2.2.2.2.1) = some m.cls ∧ (∀ w ∈ lw_gd, w.before args s = true) ∧ meth.locks = false ∧
  d + 1 ≤ R.frames ∧ 40 * (d + 1) ≤ R.locals ∧ cells ≤ R.cells ∧ slots ≤ R.slots ∧ va_K (dC, dI) CL (tysL cA) s ∧ RoW B ro x s s.heap ∧ NwW s
def Wd (B : Nat) (cA dC : Nat → ClassId) (dI : Nat → Nat → Nat) (σ : List Sh) (I : MI) (J : MJ) (s : State) (H : Heap) (locs : List Loc) : Prop :=
  va_P (dC, dI) CL (wsW B cA σ I J) H ∧ va_S (fun q => B ≤ q) s.heap H locs
/-- the method's ends -/
def Rt (l : Launch) (B : Nat) (cA dC : Nat → ClassId) (dI : Nat → Nat → Nat) (σ : List Sh) (M : Nat) (Q : QT) (p : Program) (e : Env) (R : Room) (s : State) (m : MethodId) (args : Array Value) (below : List Frame) (meth : Method) (c : Code) (cells slots : Nat) (Z : State → Prop) : Prop :=
  ∀ (pc : Nat) (lsr : Array Slot) (I : MI) (J : MJ) (H : Heap) (locs : List Loc), Wd B cA dC dI σ I J s H locs →
    (∀ v : Int, (MR M).2.2.2.1 = some .int → Q (some (.inl v)) I J → decode (MR M).2.1 pc = .ok (.ireturn, 1) → W p l e R s m args below meth c H locs cells slots Z (F0 m pc lsr [.int (Int32.ofInt v)])) ∧
    (∀ v : Int, (MR M).2.2.2.1 = some .boolean → ret01 v → Q (some (.inl v)) I J → decode (MR M).2.1 pc = .ok (.ireturn, 1) → W p l e R s m args below meth c H locs cells slots Z (F0 m pc lsr [.int (Int32.ofInt v)])) ∧
    ((MR M).2.2.2.1 = none → Q none I J → decode (MR M).2.1 pc = .ok (.return_, 1) → W p l e R s m args below meth c H locs cells slots Z (F0 m pc lsr []))
def Sem (l : Launch) (B : Nat) (ro : Nat → Nat) (cA dC : Nat → ClassId) (dI : Nat → Nat → Nat) (σ : List Sh) (x : RO) (d M : Nat) (Q : QT) : KT := fun pc ls st I J =>
  ∀ (p : Program) (e : Env) (R : Room) (s : State) (m : MethodId) (args : Array Value) (below : List Frame) (meth : Method) (c : Code) (H : Heap) (locs : List Loc) (cells slots : Nat) (Z : State → Prop) (lsr : Array Slot),
    Cx B ro cA dC dI x d M p R s m args meth c cells slots → LoR B ro lsr (MR M).2.2.1 ls → Wd B cA dC dI σ I J s H locs →
    Rt l B cA dC dI σ M Q p e R s m args below meth c cells slots Z →
    W p l e R s m args below meth c H locs cells slots Z (F0 m pc lsr (st.map (cv B ro)))
/-! numbers -/
theorem ofI_add (a b : Int) : Int32.ofInt a + Int32.ofInt b = Int32.ofInt (a + b) := (Int32.ofInt_add a b).symm
theorem ofI_toI (v : Int32) : Int32.ofInt v.toInt = v := Int32.ofInt_toInt v
theorem toI_ofI {a : Int} (h : inR a) : (Int32.ofInt a).toInt = a := Int32.toInt_ofInt_of_le h.1 h.2
theorem ofI_eq {a b : Int} (ha : inR a) (hb : inR b) : Int32.ofInt a = Int32.ofInt b ↔ a = b := by
  rw [← Int32.toInt_inj, toI_ofI ha, toI_ofI hb]
theorem ofI_lt {a b : Int} (ha : inR a) (hb : inR b) : Int32.ofInt a < Int32.ofInt b ↔ a < b := by
  rw [Int32.lt_iff_toInt_lt, toI_ofI ha, toI_ofI hb]
theorem ofI_le {a b : Int} (ha : inR a) (hb : inR b) : Int32.ofInt a ≤ Int32.ofInt b ↔ a ≤ b := by
  rw [Int32.le_iff_toInt_le, toI_ofI ha, toI_ofI hb]
theorem inR_0 : inR 0 := ⟨by decide, by decide⟩
theorem ofI_clamp {a : Int} (h0 : 0 ≤ a) (h : a < 2147483648) : (Int32.ofInt a).toNatClampNeg = a.toNat := by
  show (Int32.ofInt a).toInt.toNat = a.toNat
  rw [toI_ofI ⟨by omega, h⟩]
theorem vp_ofI {a : Int} {n : Nat} (hn : n ≤ 2147483648) (h0 : 0 ≤ a) (h : a < n) : vp_in (Int32.ofInt a) n := by
  rw [vp_in_iff, toI_ofI ⟨by omega, by omega⟩]
  exact ⟨h0, h⟩
