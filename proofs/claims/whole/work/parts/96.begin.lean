/-! ===== the beginning ===== -/
section
variable {I : MI} {J : MJ}
theorem ck_I (h : chkI I J = true) : (∀ q ∈ I0L, I q.1 q.2.1 = q.2.2) ∧ J 47 4 = 0 ∧ ∀ j : Nat, j < 1024 → J 51 j = 0 := by
  unfold chkI at h
  rw [Bool.and_eq_true, Bool.and_eq_true, List.all_eq_true, List.all_eq_true, decide_eq_true_eq] at h
  exact ⟨fun q hq => of_decide_eq_true (h.1.1 q hq), h.1.2, fun j hj => of_decide_eq_true (h.2 j (List.mem_range.mpr hj))⟩
theorem inv_0 (h : chkI I J = true) : Inv 0 I J := by
  obtain ⟨ck, j1, j2⟩ := ck_I h
  have k_0_10 : I 0 10 = 0 := ck (0, 10, 0) (by decide)
  have k_2_0 : I 2 0 = 0 := ck (2, 0, 0) (by decide)
  have k_2_3 : I 2 3 = 0 := ck (2, 3, 0) (by decide)
  have k_2_8 : I 2 8 = 0 := ck (2, 8, 0) (by decide)
  have k_2_11 : I 2 11 = 0 := ck (2, 11, 0) (by decide)
  have k_2_12 : I 2 12 = -1 := ck (2, 12, -1) (by decide)
  have k_2_13 : I 2 13 = 0 := ck (2, 13, 0) (by decide)
  have k_19_3 : I 19 3 = 0 := ck (19, 3, 0) (by decide)
  have k_19_4 : I 19 4 = 0 := ck (19, 4, 0) (by decide)
  have k_21_1 : I 21 1 = 0 := ck (21, 1, 0) (by decide)
  have k_21_2 : I 21 2 = 0 := ck (21, 2, 0) (by decide)
  have k_58_1 : I 58 1 = 0 := ck (58, 1, 0) (by decide)
  have k_76_0 : I 76 0 = 0 := ck (76, 0, 0) (by decide)
  have k_84_0 : I 84 0 = 0 := ck (84, 0, 0) (by decide)
  have k_92_1 : I 92 1 = 0 := ck (92, 1, 0) (by decide)
  have k_92_5 : I 92 5 = 0 := ck (92, 5, 0) (by decide)
  have k_92_12 : I 92 12 = 0 := ck (92, 12, 0) (by decide)
  have k_92_13 : I 92 13 = 0 := ck (92, 13, 0) (by decide)
  have k_92_14 : I 92 14 = 0 := ck (92, 14, 0) (by decide)
  have k_94_0 : I 94 0 = 0 := ck (94, 0, 0) (by decide)
  have k_94_1 : I 94 1 = 0 := ck (94, 1, 0) (by decide)
  have k_94_2 : I 94 2 = 0 := ck (94, 2, 0) (by decide)
  have k_94_29 : I 94 29 = 0 := ck (94, 29, 0) (by decide)
  have k_94_30 : I 94 30 = -1 := ck (94, 30, -1) (by decide)
  have k_94_31 : I 94 31 = 0 := ck (94, 31, 0) (by decide)
  have k_98_0 : I 98 0 = 0 := ck (98, 0, 0) (by decide)
  have k_98_1 : I 98 1 = 0 := ck (98, 1, 0) (by decide)
  have MM : MOK (1000 + 2 * ((0 : Nat) : Int)) (I 94) := ⟨⟨Or.inl k_94_0, by omega, by omega, by omega, by omega, fun _ => ⟨k_94_1, k_94_2⟩, fun z => by omega, fun w a b => by omega, fun t a b => by omega⟩, ⟨by omega, by omega, by omega, by omega, by omega, by rw [k_94_31]; exact (nPas_le _ _).1, fun w a b => by omega, fun t a b => by omega⟩, by omega⟩
  refine ⟨fun q hq => Or.inl ?_, ⟨by omega, by omega, by omega, fun k a b => by omega, by omega, ?_⟩, ⟨by omega, ?_⟩, ⟨MM, ⟨by omega, by omega, by omega, by omega, by omega, by omega, fun z => by omega, fun w a b => by omega, fun t a b => by omega⟩⟩, ⟨⟨by omega, Or.inl k_98_0⟩, by omega, Or.inl k_98_1⟩, ⟨by omega, by omega, by omega, by omega, by omega, fun k hk => by omega⟩, ⟨by omega, by omega, by omega, fun k a b => by omega⟩, fun c hc w a b => ?_, ⟨0, Nat.le_refl 0, by rw [j1]; rfl, fun j a b => ⟨0, by decide, ?_⟩⟩⟩
  · exact n8 (P := fun q => I (60 + 2 * q) 1 = 0 ∧ I 99 q = 0) ⟨ck (60, 1, 0) (by decide), ck (99, 0, 0) (by decide)⟩ ⟨ck (62, 1, 0) (by decide), ck (99, 1, 0) (by decide)⟩ ⟨ck (64, 1, 0) (by decide), ck (99, 2, 0) (by decide)⟩ ⟨ck (66, 1, 0) (by decide), ck (99, 3, 0) (by decide)⟩ ⟨ck (68, 1, 0) (by decide), ck (99, 4, 0) (by decide)⟩ ⟨ck (70, 1, 0) (by decide), ck (99, 5, 0) (by decide)⟩ ⟨ck (72, 1, 0) (by decide), ck (99, 6, 0) (by decide)⟩ ⟨ck (74, 1, 0) (by decide), ck (99, 7, 0) (by decide)⟩ hq
  · rw [k_92_14]; exact inR_0
  · rw [k_92_13]; exact inR_0
  · have hw : w = 0 ∨ w = 1 ∨ w = 2 ∨ w = 3 ∨ w = 4 ∨ w = 5 ∨ w = 6 ∨ w = 7 := by omega
    have z : I c w = 0 := by
      rcases hc with rfl | rfl | rfl | rfl
      · rcases hw with rfl | rfl | rfl | rfl | rfl | rfl | rfl | rfl
        · exact ck (6, 0, 0) (by decide)
        · exact ck (6, 1, 0) (by decide)
        · exact ck (6, 2, 0) (by decide)
        · exact ck (6, 3, 0) (by decide)
        · exact ck (6, 4, 0) (by decide)
        · exact ck (6, 5, 0) (by decide)
        · exact ck (6, 6, 0) (by decide)
        · exact ck (6, 7, 0) (by decide)
      · rcases hw with rfl | rfl | rfl | rfl | rfl | rfl | rfl | rfl
        · exact ck (14, 0, 0) (by decide)
        · exact ck (14, 1, 0) (by decide)
        · exact ck (14, 2, 0) (by decide)
        · exact ck (14, 3, 0) (by decide)
        · exact ck (14, 4, 0) (by decide)
        · exact ck (14, 5, 0) (by decide)
        · exact ck (14, 6, 0) (by decide)
        · exact ck (14, 7, 0) (by decide)
      · rcases hw with rfl | rfl | rfl | rfl | rfl | rfl | rfl | rfl
        · exact ck (80, 0, 0) (by decide)
        · exact ck (80, 1, 0) (by decide)
        · exact ck (80, 2, 0) (by decide)
        · exact ck (80, 3, 0) (by decide)
        · exact ck (80, 4, 0) (by decide)
        · exact ck (80, 5, 0) (by decide)
        · exact ck (80, 6, 0) (by decide)
        · exact ck (80, 7, 0) (by decide)
      · rcases hw with rfl | rfl | rfl | rfl | rfl | rfl | rfl | rfl
        · exact ck (88, 0, 0) (by decide)
        · exact ck (88, 1, 0) (by decide)
        · exact ck (88, 2, 0) (by decide)
        · exact ck (88, 3, 0) (by decide)
        · exact ck (88, 4, 0) (by decide)
        · exact ck (88, 5, 0) (by decide)
        · exact ck (88, 6, 0) (by decide)
        · exact ck (88, 7, 0) (by decide)
    rw [z]
    omega
  · obtain ⟨k, rfl⟩ : ∃ k : Nat, j = k := ⟨j.toNat, by omega⟩
    rw [j2 k (by omega)]
    rfl
end
