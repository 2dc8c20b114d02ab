/-! ===== what the little machine's state says of the great one's ===== -/
def cv (B : Nat) (ro : Nat → Nat) : AV → Value
  | .inl x => .int (Int32.ofInt x)
  | .inr (.inl v) => .long v
  | .inr (.inr (.inl r)) => .ref (B + r)
  | .inr (.inr (.inr t)) => .ref (ro t)
def fvV (B : Nat) (I : MI) (J : MJ) (k j : Nat) : FV → Value
  | .inl false => .int (Int32.ofInt (I k j))
  | .inl true => .long (J k j)
  | .inr none => .null
  | .inr (some r) => .ref (B + r)
def fvL (B : Nat) (I : MI) (J : MJ) (k : Nat) (fs : List FV) : List Value := fs.mapIdx (fun j f => fvV B I J k j f)
def arN (I : MI) (J : MJ) (k t : Nat) : (Nat → Int32) ⊕ (Nat → Int64) ⊕ (Nat → UInt32) ⊕ (Nat → UInt64) ⊕ (Nat → Option Nat) :=
  if t = 1 then .inr (.inl (fun j => J k j)) else .inl (fun j => Int32.ofInt (I k j))
def arR (B : Nat) (l : List (Option Nat)) : Nat → Option Nat := fun j => (l.getD j none).map (fun r => B + r)
def ceE (B : Nat) (cA : Nat → ClassId) (I : MI) (J : MJ) (k : Nat) : Sh → va_E
  | .inl (c, fs) => .inr (c, fvL B I J k fs)
  | .inr (.inl (t, n)) => .inl (cA t, n, arN I J k t)
  | .inr (.inr (t, l)) => .inl (cA t, l.length, .inr (.inr (.inr (.inr (arR B l)))))
def wsW (B : Nat) (cA : Nat → ClassId) (σ : List Sh) (I : MI) (J : MJ) : va_W := σ.mapIdx (fun k s => (B + k, ceE B cA I J k s))
def tysL (cA : Nat → ClassId) : List (ClassId × FieldType) := [(cA 0, tyA 0), (cA 1, tyA 1), (cA 2, tyA 2), (cA 3, tyA 3), (cA 4, tyA 4), (cA 5, tyA 5)]
theorem wsW_at {B : Nat} {cA : Nat → ClassId} {σ : List Sh} {I : MI} {J : MJ} {k : Nat} {s : Sh} (h : σ[k]? = some s) : (wsW B cA σ I J)[k]? = some (B + k, ceE B cA I J k s) := by
  unfold wsW
  rw [List.getElem?_mapIdx, h]
  rfl
theorem wsW_get {B : Nat} {cA : Nat → ClassId} {σ : List Sh} {I : MI} {J : MJ} {k : Nat} {q : Nat × va_E} (h : (wsW B cA σ I J)[k]? = some q) : ∃ s, σ[k]? = some s ∧ q = (B + k, ceE B cA I J k s) := by
  unfold wsW at h
  rw [List.getElem?_mapIdx] at h
  cases hs : σ[k]? with
  | none => rw [hs] at h; cases h
  | some s => rw [hs] at h; exact ⟨s, rfl, (Option.some.inj h).symm⟩
theorem wsW_D {B : Nat} {cA : Nat → ClassId} {σ : List Sh} {I : MI} {J : MJ} : va_D (fun q => B ≤ q) (wsW B cA σ I J) := by
  refine ⟨fun i j p q hi hj h => ?_, fun k q hk => ?_⟩
  · obtain ⟨s, -, rfl⟩ := wsW_get hi
    obtain ⟨t, -, rfl⟩ := wsW_get hj
    exact Nat.add_left_cancel h
  · obtain ⟨s, -, rfl⟩ := wsW_get hk
    exact Nat.le_add_right _ _
theorem ceE_cong {B : Nat} {cA : Nat → ClassId} {I I' : MI} {J J' : MJ} {k : Nat} {s : Sh} (h : I k = I' k) (h2 : J k = J' k) : ceE B cA I J k s = ceE B cA I' J' k s := by
  have hf : ∀ j f, fvV B I J k j f = fvV B I' J' k j f := by
    intro j f
    rcases f with (_ | _) | (_ | _) <;> simp [fvV, h, h2]
  rcases s with ⟨c, fs⟩ | ⟨t, n⟩ | ⟨t, l⟩
  · simp only [ceE, fvL, hf]
  · simp only [ceE, arN, h, h2]
  · rfl
theorem wsW_set {B : Nat} {cA : Nat → ClassId} {σ : List Sh} {I I' : MI} {J J' : MJ} {k : Nat} {s : Sh} {E : va_E} (h : σ[k]? = some s) (hI : ∀ c, c ≠ k → I' c = I c) (hJ : ∀ c, c ≠ k → J' c = J c) (hE : E = ceE B cA I' J' k s) : (wsW B cA σ I J).set k (B + k, E) = wsW B cA σ I' J' := by
  apply List.ext_getElem?
  intro i
  by_cases hi : k = i
  · subst hi
    have hl : k < (wsW B cA σ I J).length := by
      unfold wsW
      rw [List.length_mapIdx]
      exact (List.getElem?_eq_some_iff.mp h).1
    rw [List.getElem?_set_self hl, wsW_at h, hE]
  · rw [List.getElem?_set_ne hi]
    unfold wsW
    rw [List.getElem?_mapIdx, List.getElem?_mapIdx]
    cases σ[i]? with
    | none => rfl
    | some t => simp only [Option.map_some]; rw [ceE_cong (hI i (Ne.symm hi)).symm (hJ i (Ne.symm hi)).symm]
/-- locals -/
def LoR (B : Nat) (ro : Nat → Nat) (lsr : Array Slot) (n : Nat) (ls : LsT) : Prop := lsr.size = n ∧ ls.length = n ∧ lv_wf lsr ∧ ∀ (i : Nat) (v : AV), ls[i]? = some (some v) → lsr[i]? = some (Slot.val (cv B ro v))
def LoP (B : Nat) (ro : Nat → Nat) (ls : LsT) : List (Nat × Value) := (ls.mapIdx (fun i o => o.map (fun v => (i, cv B ro v)))).filterMap id
theorem LoP_mem {B : Nat} {ro : Nat → Nat} {ls : LsT} {q : Nat × Value} : q ∈ LoP B ro ls ↔ ∃ i v, ls[i]? = some (some v) ∧ q = (i, cv B ro v) := by
  unfold LoP
  rw [List.mem_filterMap]
  constructor
  · rintro ⟨o, h1, h2⟩
    simp only [id] at h2
    subst h2
    obtain ⟨i, hi⟩ := List.getElem?_of_mem h1
    rw [List.getElem?_mapIdx] at hi
    cases hl : ls[i]? with
    | none => rw [hl] at hi; cases hi
    | some w =>
      rw [hl] at hi
      cases w with
      | none => simp at hi
      | some v => simp at hi; exact ⟨i, v, hl, hi.symm⟩
  · rintro ⟨i, v, h1, rfl⟩
    refine ⟨some (i, cv B ro v), ?_, rfl⟩
    apply List.mem_of_getElem? (i := i)
    rw [List.getElem?_mapIdx, h1]
    rfl
theorem LR_has {B : Nat} {ro : Nat → Nat} {lsr : Array Slot} {n : Nat} {ls : LsT} (h : LoR B ro lsr n ls) : lv_has lsr n (LoP B ro ls) := by
  obtain ⟨h1, h2, h3, h4⟩ := h
  refine ⟨h1, h3, fun q hq => ?_⟩
  obtain ⟨i, v, e, rfl⟩ := LoP_mem.mp hq
  exact h4 i v e
theorem cv_cat {B : Nat} {ro : Nat → Nat} {v : AV} : (cv B ro v).category = 2 → ∃ w, v = .inr (.inl w) := by
  rcases v with _ | _ | _ | _ <;> simp [cv, Value.category]
theorem nl_ok {ls : LsT} {i j : Nat} {v : Int64} (h : nl ls i = true) (hj : j + 1 = i) : ¬ ls[j]? = some (some (.inr (.inl v))) := by
  subst hj
  intro e
  unfold nl at h
  simp only [e] at h
  cases h
theorem LR_set {B : Nat} {ro : Nat → Nat} {lsr' : Array Slot} {n i : Nat} {ls : LsT} {v : AV} (hlen : ls.length = n) (hn : nl ls i = true) (h : lv_has lsr' n ((i, cv B ro v) :: (LoP B ro ls).filter (fun q => !(q.1 == i) && !(q.1 + 1 == i && q.2.category == 2)))) : LoR B ro lsr' n (ls.set i (some v)) := by
  obtain ⟨h1, h2, h3⟩ := h
  refine ⟨h1, by rw [List.length_set]; exact hlen, h2, fun j w hj => ?_⟩
  by_cases hij : i = j
  · subst hij
    have hl : i < ls.length := by
      have := (List.getElem?_eq_some_iff.mp hj).1
      rwa [List.length_set] at this
    rw [List.getElem?_set_self hl] at hj
    cases hj
    exact h3 _ List.mem_cons_self
  · rw [List.getElem?_set_ne hij] at hj
    refine h3 (j, cv B ro w) (List.mem_cons_of_mem _ (List.mem_filter.mpr ⟨LoP_mem.mpr ⟨j, w, hj, rfl⟩, ?_⟩))
    have e1 : (j == i) = false := by simp; exact fun q => hij q.symm
    have e2 : (j + 1 == i && (cv B ro w).category == 2) = false := by
      rw [Bool.and_eq_false_iff]
      by_cases hq : j + 1 = i
      · right
        simp only [beq_eq_false_iff_ne, ne_eq]
        intro hc
        obtain ⟨u, rfl⟩ := cv_cat hc
        exact nl_ok hn hq hj
      · left; simp [hq]
    simp only [e1, e2]
    rfl
theorem LR_set2 {B : Nat} {ro : Nat → Nat} {lsr' : Array Slot} {n i : Nat} {ls : LsT} {v : AV} (hlen : ls.length = n) (hn : nl ls i = true) (h : lv_has lsr' n ((i, cv B ro v) :: (LoP B ro ls).filter (fun q => !(q.1 == i) && (!(q.1 == i + 1) && !(q.1 + 1 == i && q.2.category == 2))))) : LoR B ro lsr' n ((ls.set i (some v)).set (i + 1) none) := by
  obtain ⟨h1, h2, h3⟩ := h
  refine ⟨h1, by rw [List.length_set, List.length_set]; exact hlen, h2, fun j w hj => ?_⟩
  by_cases hij2 : i + 1 = j
  · subst hij2
    have hl : i + 1 < (ls.set i (some v)).length := by
      have := (List.getElem?_eq_some_iff.mp hj).1
      rwa [List.length_set] at this
    rw [List.getElem?_set_self hl] at hj
    cases hj
  rw [List.getElem?_set_ne hij2] at hj
  by_cases hij : i = j
  · subst hij
    have hl : i < ls.length := by
      have := (List.getElem?_eq_some_iff.mp hj).1
      rwa [List.length_set] at this
    rw [List.getElem?_set_self hl] at hj
    cases hj
    exact h3 _ List.mem_cons_self
  · rw [List.getElem?_set_ne hij] at hj
    refine h3 (j, cv B ro w) (List.mem_cons_of_mem _ (List.mem_filter.mpr ⟨LoP_mem.mpr ⟨j, w, hj, rfl⟩, ?_⟩))
    have e1 : (j == i) = false := by simp; exact fun q => hij q.symm
    have e0 : (j == i + 1) = false := by simp; exact fun q => hij2 q.symm
    have e2 : (j + 1 == i && (cv B ro w).category == 2) = false := by
      rw [Bool.and_eq_false_iff]
      by_cases hq : j + 1 = i
      · right
        simp only [beq_eq_false_iff_ne, ne_eq]
        intro hc
        obtain ⟨u, rfl⟩ := cv_cat hc
        exact nl_ok hn hq hj
      · left; simp [hq]
    simp only [e0, e1, e2]
    rfl
theorem catS_cv {B : Nat} {ro : Nat → Nat} : ∀ st : List AV, ((st.map (cv B ro)).map fun v => v.category).sum = catS st
  | [] => rfl
  | v :: r => by
    have ih := catS_cv (B := B) (ro := ro) r
    have hc : catS (v :: r) = (cv B ro v).category + catS r := by
      rcases v with _ | _ | _ | _ <;> simp only [catS, cv, Value.category] <;> omega
    rw [List.map_cons, List.map_cons, List.sum_cons, ih, hc]
