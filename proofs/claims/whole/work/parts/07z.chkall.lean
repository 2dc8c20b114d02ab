theorem chk_all {M : Nat} (h : M < nM) : chkM M = true := by
  have key : ∀ k n, (((List.range n).map (fun i => i + k)).all chkM = true) → ∀ M, k ≤ M → M < k + n → chkM M = true := by
    intro k n hk M h1 h2
    exact List.all_eq_true.mp hk M (List.mem_map.mpr ⟨M - k, List.mem_range.mpr (by omega), by omega⟩)
  have h : M < 187 := h
  by_cases h0 : M < 21
  · exact key 0 21 chk_r0 M (by omega) (by omega)
  by_cases h1 : M < 41
  · exact key 21 20 chk_r1 M (by omega) (by omega)
  by_cases h2 : M < 64
  · exact key 41 23 chk_r2 M (by omega) (by omega)
  by_cases h3 : M < 87
  · exact key 64 23 chk_r3 M (by omega) (by omega)
  by_cases h4 : M < 115
  · exact key 87 28 chk_r4 M (by omega) (by omega)
  by_cases h5 : M < 130
  · exact key 115 15 chk_r5 M (by omega) (by omega)
  by_cases h6 : M < 151
  · exact key 130 21 chk_r6 M (by omega) (by omega)
  by_cases h7 : M < 160
  · exact key 151 9 chk_r7 M (by omega) (by omega)
  by_cases h8 : M < 173
  · exact key 160 13 chk_r8 M (by omega) (by omega)
  by_cases h9 : M < 186
  · exact key 173 13 chk_r9 M (by omega) (by omega)
  by_cases h10 : M < 187
  · exact key 186 1 chk_r10 M (by omega) (by omega)
  omega
