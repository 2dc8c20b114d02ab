theorem chk_slice {α : Type} {l : List α} {f : α → Bool} (n : Nat) (h1 : (l.take n).all f = true) (h2 : (l.drop n).all f = true) : l.all f = true := by
  rw [← List.take_append_drop n l, List.all_append, h1, h2]; rfl
theorem chk_law : chkM 184 = true := by
  unfold chkM
  have e : ∀ a : Nat, ((PG 184).drop a).drop 110 = (PG 184).drop (a + 110) := fun a => by rw [List.drop_drop]
  have h660 : ((PG 184).drop 660).all (chkR 184) = true := by
    have : (PG 184).length ≤ 660 := by decide +kernel
    rw [List.drop_eq_nil_of_le this]; rfl
  have h550 : ((PG 184).drop 550).all (chkR 184) = true := chk_slice 110 chk_l550 (by rw [e]; exact h660)
  have h440 : ((PG 184).drop 440).all (chkR 184) = true := chk_slice 110 chk_l440 (by rw [e]; exact h550)
  have h330 : ((PG 184).drop 330).all (chkR 184) = true := chk_slice 110 chk_l330 (by rw [e]; exact h440)
  have h220 : ((PG 184).drop 220).all (chkR 184) = true := chk_slice 110 chk_l220 (by rw [e]; exact h330)
  have h110 : ((PG 184).drop 110).all (chkR 184) = true := chk_slice 110 chk_l110 (by rw [e]; exact h220)
  have h0 : ((PG 184).drop 0).all (chkR 184) = true := chk_slice 110 chk_l0 (by rw [e]; exact h110)
  exact h0
theorem chk_all {M : Nat} (h : M < nM) : chkM M = true := by
  have key : ∀ k n, (((List.range n).map (fun i => i + k)).all chkM = true) → ∀ M, k ≤ M → M < k + n → chkM M = true := by
    intro k n hk M h1 h2
    exact List.all_eq_true.mp hk M (List.mem_map.mpr ⟨M - k, List.mem_range.mpr (by omega), by omega⟩)
  have h : M < 185 := h
  by_cases h0 : M < 21
  · exact key 0 21 chk_r0 M (by omega) (by omega)
  by_cases h1 : M < 41
  · exact key 21 20 chk_r1 M (by omega) (by omega)
  by_cases h2 : M < 64
  · exact key 41 23 chk_r2 M (by omega) (by omega)
  by_cases h3 : M < 87
  · exact key 64 23 chk_r3 M (by omega) (by omega)
  by_cases h4 : M < 115
  · exact key 87 28 chk_r4 M (by omega) (by omega)
  by_cases h5 : M < 130
  · exact key 115 15 chk_r5 M (by omega) (by omega)
  by_cases h6 : M < 151
  · exact key 130 21 chk_r6 M (by omega) (by omega)
  by_cases h7 : M < 160
  · exact key 151 9 chk_r7 M (by omega) (by omega)
  by_cases h8 : M < 173
  · exact key 160 13 chk_r8 M (by omega) (by omega)
  by_cases h9 : M < 184
  · exact key 173 11 chk_r9 M (by omega) (by omega)
  have : M = 184 := by omega
  subst this
  exact chk_law
