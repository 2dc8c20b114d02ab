/-! ===== what the making machine says of the great one ===== -/
def tyGood (t : FieldType) : Bool := match t with
  | .int => true
  | .boolean => true
  | .long => true
  | .object _ => true
  | .array _ => true
  | _ => false
set_option maxRecDepth 100000 in
theorem cls_more : ∀ ci, ci < 11 → ∀ k, k < (CL.getD ci ("", T_0, 0)).2.2 → tyGood (TYF ci k) = true ∧ ((CL.getD ci ("", T_0, 0)).2.1 k).1 = RR ci := by decide +kernel
set_option maxRecDepth 100000 in
theorem cls_inst : ∀ ci, ci < 11 → (Cond.instantiable (RR ci) (CL.getD ci ("", T_0, 0)).2.2 ∈ lw_tbl ∧ Cond.initialized (RR ci) ∈ lw_tbl) ∧ (CL.getD ci ("", T_0, 0)).1 = RR ci := by
  intro ci h
  have hc : ci = 0 ∨ ci = 1 ∨ ci = 2 ∨ ci = 3 ∨ ci = 4 ∨ ci = 5 ∨ ci = 6 ∨ ci = 7 ∨ ci = 8 ∨ ci = 9 ∨ ci = 10 := by omega
  rcases hc with rfl | rfl | rfl | rfl | rfl | rfl | rfl | rfl | rfl | rfl | rfl
  · exact ⟨⟨List.mem_of_getElem? (i := 212) (by decide +kernel), List.mem_of_getElem? (i := 63) (by decide +kernel)⟩, by decide +kernel⟩
  · exact ⟨⟨List.mem_of_getElem? (i := 205) (by decide +kernel), List.mem_of_getElem? (i := 62) (by decide +kernel)⟩, by decide +kernel⟩
  · exact ⟨⟨List.mem_of_getElem? (i := 314) (by decide +kernel), List.mem_of_getElem? (i := 67) (by decide +kernel)⟩, by decide +kernel⟩
  · exact ⟨⟨List.mem_of_getElem? (i := 85) (by decide +kernel), List.mem_of_getElem? (i := 60) (by decide +kernel)⟩, by decide +kernel⟩
  · exact ⟨⟨List.mem_of_getElem? (i := 248) (by decide +kernel), List.mem_of_getElem? (i := 64) (by decide +kernel)⟩, by decide +kernel⟩
  · exact ⟨⟨List.mem_of_getElem? (i := 326) (by decide +kernel), List.mem_of_getElem? (i := 68) (by decide +kernel)⟩, by decide +kernel⟩
  · exact ⟨⟨List.mem_of_getElem? (i := 281) (by decide +kernel), List.mem_of_getElem? (i := 65) (by decide +kernel)⟩, by decide +kernel⟩
  · exact ⟨⟨List.mem_of_getElem? (i := 177) (by decide +kernel), List.mem_of_getElem? (i := 61) (by decide +kernel)⟩, by decide +kernel⟩
  · exact ⟨⟨List.mem_of_getElem? (i := 298) (by decide +kernel), List.mem_of_getElem? (i := 66) (by decide +kernel)⟩, by decide +kernel⟩
  · exact ⟨⟨List.mem_of_getElem? (i := 75) (by decide +kernel), List.mem_of_getElem? (i := 59) (by decide +kernel)⟩, by decide +kernel⟩
  · exact ⟨⟨List.mem_of_getElem? (i := 835) (by decide +kernel), List.mem_of_getElem? (i := 69) (by decide +kernel)⟩, by decide +kernel⟩
theorem arr_w : ∀ t, t < 3 → Cond.arrayClass (tyA t) ∈ lw_gd := by
  intro t h
  have hc : t = 0 ∨ t = 1 ∨ t = 2 := by omega
  rcases hc with rfl | rfl | rfl
  · exact mem_gd (List.mem_of_getElem? (i := 174) (by decide +kernel)) rfl
  · exact mem_gd (List.mem_of_getElem? (i := 279) (by decide +kernel)) rfl
  · exact mem_gd (List.mem_of_getElem? (i := 932) (by decide +kernel)) rfl
theorem dfl_ok {B : Nat} {I : MI} {J : MJ} {h k : Nat} {t : FieldType} (ht : tyGood t = true) (hI : I h k = 0) (hJ : J h k = 0) : defaultValue t = fvV B I J h k (dflF t) := by
  cases t <;> first | (cases ht; done) | (simp only [dflF, isTy, fvV, hI, hJ]; rfl)
theorem dflO_len (ci : Nat) : (dflO ci).length = (CL.getD ci ("", T_0, 0)).2.2 := by unfold dflO; simp
theorem dflO_at {ci j : Nat} (h : j < (CL.getD ci ("", T_0, 0)).2.2) : (dflO ci)[j]? = some (dflF (TYF ci j)) := by
  unfold dflO
  rw [List.getElem?_map, List.getElem?_range h]
  rfl
theorem sz_app (σ : List Sh) (s : Sh) : sz (σ ++ [s]) = sz σ + szC s := by unfold sz; simp
theorem sz_set {σ : List Sh} {r : Nat} {s s' : Sh} (h : σ[r]? = some s) (hs : szC s' = szC s) : sz (σ.set r s') = sz σ := by
  unfold sz
  have e : σ[r]? = some s := h
  rw [List.map_set, hs]
  congr 1
  apply List.ext_getElem?
  intro i
  by_cases hi : r = i
  · subst hi
    have hl : r < (σ.map szC).length := by rw [List.length_map]; exact (List.getElem?_eq_some_iff.mp e).1
    rw [List.getElem?_set_self hl, List.getElem?_map, e]
    rfl
  · rw [List.getElem?_set_ne hi]
theorem wf_app {σ : List Sh} {s : Sh} (w : WfS σ) (ws : WfS [s]) : WfS (σ ++ [s]) := by
  intro r t h
  by_cases hr : r < σ.length
  · rw [List.getElem?_append_left hr] at h
    exact w r t h
  · rw [List.getElem?_append_right (by omega)] at h
    have : r - σ.length < 1 := (List.getElem?_eq_some_iff.mp h).1
    rw [show r - σ.length = 0 by omega] at h
    exact ws 0 t h
theorem wf_set {σ : List Sh} {s : Sh} {r : Nat} (w : WfS σ) (ws : WfS [s]) : WfS (σ.set r s) := by
  intro i t h
  by_cases hi : r = i
  · subst hi
    by_cases hl : r < σ.length
    · rw [List.getElem?_set_self hl] at h
      cases h
      exact ws 0 s rfl
    · rw [List.set_eq_of_length_le (by omega)] at h
      exact w r t h
  · rw [List.getElem?_set_ne hi] at h
    exact w i t h
theorem wf_one {s : Sh} (h : match s with
  | .inl (ci, fs) => ci < 11 ∧ fs.length = (CL.getD ci ("", T_0, 0)).2.2 ∧ ∀ (j : Nat) (f : FV), fs[j]? = some f → (match f with
    | .inl false => isTy (TYF ci j) < 2
    | .inl true => isTy (TYF ci j) = 2
    | .inr _ => isTy (TYF ci j) = 3)
  | .inr (.inl (t, n)) => t < 3 ∧ n < 2147483648
  | .inr (.inr (t, rs)) => 3 ≤ t ∧ t < 6 ∧ rs.length < 2147483648) : WfS [s] := by
  intro r t ht
  have : r < 1 := (List.getElem?_eq_some_iff.mp ht).1
  rw [show r = 0 by omega] at ht
  cases ht
  exact h
theorem wf_obj1 {ci : Nat} (h : ci < 11) : WfS [(.inl (ci, dflO ci) : Sh)] := by
  refine wf_one ⟨h, dflO_len ci, fun j f hf => ?_⟩
  have hj : j < (CL.getD ci ("", T_0, 0)).2.2 := by rw [← dflO_len ci]; exact (List.getElem?_eq_some_iff.mp hf).1
  rw [dflO_at hj] at hf
  cases hf
  have hg := (cls_more ci h j hj).1
  cases ht : TYF ci j <;> rw [ht] at hg <;> first | (cases hg; done) | (simp only [dflF, isTy]; done) | (simp only [dflF, isTy]; decide)
/-- what a step of the making machine does to the list of cells -/
def GrS (σ σ' : List Sh) : Prop := WfS σ → WfS σ' ∧ σ.length ≤ σ'.length ∧ sz σ ≤ sz σ'
theorem GrS.rf (σ : List Sh) : GrS σ σ := fun w => ⟨w, Nat.le_refl _, Nat.le_refl _⟩
theorem GrS.tr {a b c : List Sh} (h1 : GrS a b) (h2 : GrS b c) : GrS a c := fun w => by
  obtain ⟨w1, p1, q1⟩ := h1 w
  obtain ⟨w2, p2, q2⟩ := h2 w1
  exact ⟨w2, Nat.le_trans p1 p2, Nat.le_trans q1 q2⟩
