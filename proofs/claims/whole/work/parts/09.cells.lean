/-! the classes' facts -/
def clsOk (ci : Nat) : Prop := (∀ k, k < (CL.getD ci ("", T_0, 0)).2.2 → lw_tbl[(FPL.getD ci []).getD k 0]? = some (u_lay (CL.getD ci ("", T_0, 0)).1 (CL.getD ci ("", T_0, 0)).2.1 k)) ∧
  (∀ k, k < (CL.getD ci ("", T_0, 0)).2.2 → parseFieldDescriptor ((CL.getD ci ("", T_0, 0)).2.1 k).2.2.1 = some (TYF ci k)) ∧
  (∀ a, a < (CL.getD ci ("", T_0, 0)).2.2 → ∀ b, b < (CL.getD ci ("", T_0, 0)).2.2 → a ≠ b → ((CL.getD ci ("", T_0, 0)).2.1 a).2.1 ≠ ((CL.getD ci ("", T_0, 0)).2.1 b).2.1)
set_option maxRecDepth 100000 in
theorem cls_0 : clsOk 0 := ⟨by decide +kernel, by decide +kernel, by decide +kernel⟩
set_option maxRecDepth 100000 in
theorem cls_1 : clsOk 1 := ⟨by decide +kernel, by decide +kernel, by decide +kernel⟩
set_option maxRecDepth 100000 in
theorem cls_2 : clsOk 2 := ⟨by decide +kernel, by decide +kernel, by decide +kernel⟩
set_option maxRecDepth 100000 in
theorem cls_3 : clsOk 3 := ⟨by decide +kernel, by decide +kernel, by decide +kernel⟩
set_option maxRecDepth 100000 in
theorem cls_4 : clsOk 4 := ⟨by decide +kernel, by decide +kernel, by decide +kernel⟩
set_option maxRecDepth 100000 in
theorem cls_5 : clsOk 5 := ⟨by decide +kernel, by decide +kernel, by decide +kernel⟩
set_option maxRecDepth 100000 in
theorem cls_6 : clsOk 6 := ⟨by decide +kernel, by decide +kernel, by decide +kernel⟩
set_option maxRecDepth 100000 in
theorem cls_7 : clsOk 7 := ⟨by decide +kernel, by decide +kernel, by decide +kernel⟩
set_option maxRecDepth 100000 in
theorem cls_8 : clsOk 8 := ⟨by decide +kernel, by decide +kernel, by decide +kernel⟩
set_option maxRecDepth 100000 in
theorem cls_9 : clsOk 9 := ⟨by decide +kernel, by decide +kernel, by decide +kernel⟩
set_option maxRecDepth 100000 in
theorem cls_10 : clsOk 10 := ⟨by decide +kernel, by decide +kernel, by decide +kernel⟩
theorem cls_all {ci : Nat} (h : ci < 11) : ∃ (C : String) (T : u_T) (N : Nat), CL[ci]? = some (C, T, N) ∧ CL.getD ci ("", T_0, 0) = (C, T, N) ∧ (∀ w ∈ u_ws C T N, w ∈ lw_gd) ∧ (∀ k, k < N → parseFieldDescriptor (T k).2.2.1 = some (TYF ci k)) ∧
    ∀ a, a < N → ∀ b, b < N → a ≠ b → (T a).2.1 ≠ (T b).2.1 := by
  have hl : ci < CL.length := h
  have e1 : CL[ci]? = some CL[ci] := List.getElem?_eq_getElem hl
  have e2 : CL.getD ci ("", T_0, 0) = CL[ci] := by rw [List.getD_eq_getElem?_getD, e1]; rfl
  have hk : clsOk ci := by
    have : ci = 0 ∨ ci = 1 ∨ ci = 2 ∨ ci = 3 ∨ ci = 4 ∨ ci = 5 ∨ ci = 6 ∨ ci = 7 ∨ ci = 8 ∨ ci = 9 ∨ ci = 10 := by omega
    rcases this with rfl | rfl | rfl | rfl | rfl | rfl | rfl | rfl | rfl | rfl | rfl
    · exact cls_0
    · exact cls_1
    · exact cls_2
    · exact cls_3
    · exact cls_4
    · exact cls_5
    · exact cls_6
    · exact cls_7
    · exact cls_8
    · exact cls_9
    · exact cls_10
  unfold clsOk at hk
  rw [e2] at hk
  refine ⟨CL[ci].1, CL[ci].2.1, CL[ci].2.2, e1, e2, fun w hw => ?_, hk.2.1, hk.2.2⟩
  obtain ⟨k, hk1, rfl⟩ := List.mem_map.mp hw
  exact mem_gd (List.mem_of_getElem? (hk.1 k (List.mem_range.mp hk1))) (by unfold u_lay; split <;> rfl)
/-- cells are as their classes tell -/
def WfS (σ : List Sh) : Prop := ∀ (r : Nat) (s : Sh), σ[r]? = some s → match s with
  | .inl (ci, fs) => ci < 11 ∧ fs.length = (CL.getD ci ("", T_0, 0)).2.2 ∧ ∀ (j : Nat) (f : FV), fs[j]? = some f → (match f with
    | .inl false => isTy (TYF ci j) < 2
    | .inl true => isTy (TYF ci j) = 2
    | .inr _ => isTy (TYF ci j) = 3)
  | .inr (.inl (t, n)) => t < 3 ∧ n < 2147483648
  | .inr (.inr (t, rs)) => 3 ≤ t ∧ t < 6 ∧ rs.length < 2147483648
theorem wf_obj {σ : List Sh} (w : WfS σ) {r ci : Nat} (h : clS σ r = ci) (hc : ci < 11) : ∃ fs, σ[r]? = some (.inl (ci, fs)) ∧ fs.length = (CL.getD ci ("", T_0, 0)).2.2 ∧ ∀ (j : Nat) (f : FV), fs[j]? = some f → (match f with
    | .inl false => isTy (TYF ci j) < 2
    | .inl true => isTy (TYF ci j) = 2
    | .inr _ => isTy (TYF ci j) = 3) := by
  unfold clS at h
  split at h
  · rename_i c fs e
    subst h
    obtain ⟨-, h2, h3⟩ := w r _ e
    exact ⟨fs, e, h2, h3⟩
  · omega
  · omega
  · omega
theorem wf_num {σ : List Sh} (w : WfS σ) {r t : Nat} (h : clS σ r = 20 + t) (ht : t < 3) : ∃ n, σ[r]? = some (.inr (.inl (t, n))) ∧ n < 2147483648 ∧ lnS σ r = n := by
  unfold clS at h
  split at h
  · rename_i c fs e
    have := (w r _ e).1
    omega
  · rename_i t2 n e
    have : t2 = t := by omega
    subst this
    exact ⟨n, e, (w r _ e).2, by unfold lnS; rw [e]⟩
  · rename_i t2 n e
    have := (w r _ e).1
    omega
  · omega
theorem wf_ref {σ : List Sh} (w : WfS σ) {r t : Nat} (h : clS σ r = 20 + t) (h3 : 3 ≤ t) (ht : t < 6) : ∃ rs, σ[r]? = some (.inr (.inr (t, rs))) ∧ rs.length < 2147483648 ∧ lnS σ r = rs.length := by
  unfold clS at h
  split at h
  · rename_i c fs e
    have := (w r _ e).1
    omega
  · rename_i t2 n e
    have := (w r _ e).1
    omega
  · rename_i t2 n e
    have : t2 = t := by omega
    subst this
    exact ⟨n, e, (w r _ e).2.2, by unfold lnS; rw [e]⟩
  · omega
theorem fvL_at {B : Nat} {I : MI} {J : MJ} {k j : Nat} {fs : List FV} {f : FV} (h : fs[j]? = some f) : (fvL B I J k fs)[j]? = some (fvV B I J k j f) := by
  unfold fvL
  rw [List.getElem?_mapIdx, h]
  rfl
theorem fvL_set {B : Nat} {I I' : MI} {J J' : MJ} {k j : Nat} {fs : List FV} {f : FV} {v : Value} (h : fs[j]? = some f) (hv : v = fvV B I' J' k j f) (hI : ∀ q : Nat, q ≠ j → I' k q = I k q) (hJ : ∀ q : Nat, q ≠ j → J' k q = J k q) : (fvL B I J k fs).set j v = fvL B I' J' k fs := by
  apply List.ext_getElem?
  intro i
  by_cases hi : j = i
  · subst hi
    have hl : j < (fvL B I J k fs).length := by
      unfold fvL
      rw [List.length_mapIdx]
      exact (List.getElem?_eq_some_iff.mp h).1
    rw [List.getElem?_set_self hl, fvL_at h, hv]
  · rw [List.getElem?_set_ne hi]
    unfold fvL
    rw [List.getElem?_mapIdx, List.getElem?_mapIdx]
    cases fs[i]? with
    | none => rfl
    | some g =>
      have a1 := hI i (Ne.symm hi)
      have a2 := hJ i (Ne.symm hi)
      simp only [Option.map_some]
      rcases g with (_ | _) | (_ | _) <;> simp only [fvV, a1, a2]
theorem fOk_of {o ps ci j idx : Nat} (h : fOk o ps ci j idx = true) : ∃ (C : String) (T : u_T) (N : Nat), ci < 11 ∧ CL[ci]? = some (C, T, N) ∧ CL.getD ci ("", T_0, 0) = (C, T, N) ∧ (∀ w ∈ u_ws C T N, w ∈ lw_gd) ∧ (∀ k, k < N → parseFieldDescriptor (T k).2.2.1 = some (TYF ci k)) ∧
    (∀ a, a < N → ∀ b, b < N → a ≠ b → (T a).2.1 ≠ (T b).2.1) ∧ j < N ∧ Cond.fieldLink (RR o) idx (T j).1 (T j).2.1 (T j).2.2.1 ∈ lw_gd ∧ fName ci j = T j := by
  unfold fOk at h
  simp only [Bool.and_eq_true, decide_eq_true_eq] at h
  obtain ⟨⟨h1, h2⟩, h3⟩ := h
  obtain ⟨C, T, N, e1, e2, e3, e4, e5⟩ := cls_all h1
  unfold fName at h3
  rw [e2] at h2 h3
  exact ⟨C, T, N, h1, e1, e2, e3, e4, e5, h2, mem_gd (List.mem_of_getElem? h3) rfl, by unfold fName; rw [e2]⟩
theorem ofI_eq0 {a : Int} (ha : inR a) : Int32.ofInt a = 0 ↔ a = 0 := ofI_eq ha inR_0
theorem ofI_lt0 {a : Int} (ha : inR a) : Int32.ofInt a < 0 ↔ a < 0 := ofI_lt ha inR_0
theorem ofI_0lt {a : Int} (ha : inR a) : 0 < Int32.ofInt a ↔ 0 < a := ofI_lt inR_0 ha
theorem ofI_le0 {a : Int} (ha : inR a) : Int32.ofInt a ≤ 0 ↔ a ≤ 0 := ofI_le ha inR_0
theorem ofI_0le {a : Int} (ha : inR a) : 0 ≤ Int32.ofInt a ↔ 0 ≤ a := ofI_le inR_0 ha
theorem arN_0 (I : MI) (J : MJ) (k : Nat) : arN I J k 0 = .inl (fun j => Int32.ofInt (I k j)) := rfl
theorem arN_2 (I : MI) (J : MJ) (k : Nat) : arN I J k 2 = .inl (fun j => Int32.ofInt (I k j)) := rfl
theorem arN_1 (I : MI) (J : MJ) (k : Nat) : arN I J k 1 = .inr (.inl (fun j => J k j)) := rfl
theorem up_ne {I : MI} {c : Nat} {j v : Int} {c' : Nat} (h : c' ≠ c) : up I c j v c' = I c' := by
  funext q
  unfold up
  rw [if_neg (fun z => h z.1)]
theorem upL_ne {J : MJ} {c : Nat} {j : Int} {v : Int64} {c' : Nat} (h : c' ≠ c) : upL J c j v c' = J c' := by
  funext q
  unfold upL
  rw [if_neg (fun z => h z.1)]
theorem up_row {I : MI} {c : Nat} {i v : Int} (h0 : 0 ≤ i) : upd (fun j : Nat => Int32.ofInt (I c j)) i.toNat (Int32.ofInt v) = fun j : Nat => Int32.ofInt (up I c i v c j) := by
  funext j
  unfold upd up
  by_cases h : j = i.toNat
  · rw [if_pos h, if_pos ⟨rfl, by omega⟩]
  · rw [if_neg h, if_neg (fun z => h (by omega))]
theorem upL_row {J : MJ} {c : Nat} {i : Int} {v : Int64} (h0 : 0 ≤ i) : vp_updL (fun j : Nat => J c j) i.toNat v = fun j : Nat => upL J c i v c j := by
  funext j
  unfold vp_updL upL
  by_cases h : j = i.toNat
  · rw [if_pos h, if_pos ⟨rfl, by omega⟩]
  · rw [if_neg h, if_neg (fun z => h (by omega))]
