/-! ===== small rows ===== -/
theorem ii_1 {p : Prop} {hd : Decidable p} : ((if p then (1 : Int) else 0) = 1) = p := by
  by_cases hp : p <;> simp [hp]
theorem ii_0 {p : Prop} {hd : Decidable p} : ((if p then (1 : Int) else 0) = 0) = ¬ p := by
  by_cases hp : p <;> simp [hp]
theorem ii_R {p : Prop} {hd : Decidable p} : inR (if p then (1 : Int) else 0) = True := by
  apply eq_true
  split
  · exact ⟨by decide, by decide⟩
  · exact ⟨by decide, by decide⟩
theorem ij_1 {p : Prop} {hd : Decidable p} : ((if p then (0 : Int) else 1) = 1) = ¬ p := by
  by_cases hp : p <;> simp [hp]
theorem ij_0 {p : Prop} {hd : Decidable p} : ((if p then (0 : Int) else 1) = 0) = p := by
  by_cases hp : p <;> simp [hp]
theorem ij_R {p : Prop} {hd : Decidable p} : inR (if p then (0 : Int) else 1) = True := by
  apply eq_true
  split
  · exact ⟨by decide, by decide⟩
  · exact ⟨by decide, by decide⟩
theorem one_e1 : ((1 : Int) = 1) = True := eq_true rfl
theorem qif {Q : QT} {I : MI} {J : MJ} {p : Prop} {hd : Decidable p} : (if p then Q (some (.inl 1)) I J else Q (some (.inl 0)) I J) = Q (some (.inl (if p then 1 else 0))) I J := by
  by_cases hp : p <;> simp [hp]
theorem qfi {Q : QT} {I : MI} {J : MJ} {p : Prop} {hd : Decidable p} : (if p then Q (some (.inl 0)) I J else Q (some (.inl 1)) I J) = Q (some (.inl (if p then 0 else 1))) I J := by
  by_cases hp : p <;> simp [hp]
/-! ===== rows for simp with omega behind it ===== -/
theorem o_R {a : Int} (h0 : -2147483648 ≤ a ∧ a < 2147483648) : inR a = True := eq_true h0
theorem o_le {a b : Int} (h : a ≤ b) : (a ≤ b) = True := eq_true h
theorem o_lt {a b : Int} (h : a < b) : (a < b) = True := eq_true h
theorem o_nlt {a b : Int} (h : b ≤ a) : (a < b) = False := eq_false (by omega)
theorem o_nle {a b : Int} (h : b < a) : (a ≤ b) = False := eq_false (by omega)
theorem o_eq {a b : Int} (h : a = b) : (a = b) = True := eq_true h
theorem o_ne {a b : Int} (h : a < b ∨ b < a) : (a = b) = False := eq_false (by omega)
/-! ===== memory ===== -/
theorem mi_ext {I I' : MI} (h : ∀ c j, I c j = I' c j) : I = I' := funext fun c => funext fun j => h c j
theorem up_same {I : MI} {c : Nat} {j v : Int} : up I c j v c j = v := by unfold up; rw [if_pos ⟨rfl, rfl⟩]
theorem up_nc {I : MI} {c c' : Nat} {j j' v : Int} (h : c' ≠ c) : up I c j v c' j' = I c' j' := by unfold up; rw [if_neg (fun z => h z.1)]
theorem up_nj {I : MI} {c c' : Nat} {j j' v : Int} (h : j' ≠ j) : up I c j v c' j' = I c' j' := by unfold up; rw [if_neg (fun z => h z.2)]
/-- places i .. n - 1 of a cell are v -/
def flI (I : MI) (c : Nat) (i n v : Int) : MI := fun c' j => if c' = c ∧ i ≤ j ∧ j < n then v else I c' j
theorem flI_0 {I : MI} {c : Nat} {n v : Int} : flI I c n n v = I := mi_ext fun c' j => by unfold flI; rw [if_neg (by omega)]
theorem flI_up {I : MI} {c : Nat} {i n v : Int} (h : i < n) : flI (up I c i v) c (i + 1) n v = flI I c i n v := mi_ext fun c' j => by
  unfold flI up
  by_cases h1 : c' = c ∧ i + 1 ≤ j ∧ j < n
  · rw [if_pos h1, if_pos ⟨h1.1, by omega, h1.2.2⟩]
  · rw [if_neg h1]
    by_cases h2 : c' = c ∧ j = i
    · rw [if_pos h2, if_pos ⟨h2.1, by omega, by omega⟩]
    · rw [if_neg h2, if_neg (fun z => by
        by_cases hj : j = i
        · exact h2 ⟨z.1, hj⟩
        · exact h1 ⟨z.1, by omega, z.2.2⟩)]
section
variable {x : RO} {d : Nat} {Q : QT} {I : MI} {J : MJ}
theorem in_R {a : Int} (h0 : -2147483648 ≤ a) (h1 : a < 2147483648) : inR a = True := eq_true ⟨h0, h1⟩
/-- Arrays.fill -/
theorem lp_fill {c : Nat} {L v : Int} (h1 : okA c 20) (h2 : lnN c = L) (hL : L < 1000000) : ∀ (m : Nat) (i : Int) (I : MI), 0 ≤ i → i ≤ L → (L - i).toNat = m → Q none (flI I c i L v) J → GO x d 183 Q 5 [some (.inr (.inr (.inl c))), some (.inl v), some (.inl i), some (.inl L)] [] I J := by
  intro m
  induction m with
  | zero =>
    intro i I h0 hi hm hq
    have e : i = L := by omega
    subst e
    rw [flI_0] at hq
    rw [@g_183_5]
    simp only [@g_183_0, @g_183_1, @g_183_2, @g_183_3, @h_183_3, @g_183_4, @g_183_6, @g_183_7, @g_183_10, @g_183_11, @g_183_12, @g_183_13, @g_183_14, @g_183_17, @g_183_20, @e_183, nlO_n, nlO_i, nlO_r, ret01_0, ret01_1, ret01_if, ret01_fi, true_and, Option.toList_some, Option.toList_none, List.cons_append, List.nil_append, ii_1, ii_0, ii_R, ij_1, ij_0, ij_R, ite_not, if_true, if_false, Int.one_ne_zero, one_e1, not_true_eq_false, not_false_eq_true, and_true, and_false, false_and, or_false, false_or, or_true, true_or, and_self, or_self, inr_n1000100, inr_n1000010, inr_n1000003, inr_n1000002, inr_n1000001, inr_n1000000, inr_n1, inr_0, inr_1, inr_2, inr_3, inr_4, inr_5, inr_6, inr_7, inr_8, inr_10, inr_11, inr_12, inr_13, inr_14, inr_15, inr_16, inr_20, inr_21, inr_22, inr_23, inr_24, inr_29, inr_30, inr_31, inr_32, inr_39, inr_40, inr_44, inr_48, inr_53, inr_54, inr_57, inr_59, inr_63, inr_97, inr_100, inr_101, inr_102, inr_104, inr_105, inr_106, inr_110, inr_112, inr_116, inr_120, inr_122, inr_144, inr_255, inr_256, inr_320, inr_552, inr_576, inr_999, inr_1000, inr_1023, inr_1024, inr_2048, inr_1000000, inr_252645135, inr_858993459, inr_1431655765, in_R (a := i) (by omega) (by omega), if_neg (Int.lt_irrefl i)]
    exact hq
  | succ m ih =>
    intro i I h0 hi hm hq
    have e : i < L := by omega
    rw [@g_183_5]
    simp only [@g_183_0, @g_183_1, @g_183_2, @g_183_3, @h_183_3, @g_183_4, @g_183_6, @g_183_7, @g_183_10, @g_183_11, @g_183_12, @g_183_13, @g_183_14, @g_183_17, @g_183_20, @e_183, nlO_n, nlO_i, nlO_r, ret01_0, ret01_1, ret01_if, ret01_fi, true_and, Option.toList_some, Option.toList_none, List.cons_append, List.nil_append, ii_1, ii_0, ii_R, ij_1, ij_0, ij_R, ite_not, if_true, if_false, Int.one_ne_zero, one_e1, not_true_eq_false, not_false_eq_true, and_true, and_false, false_and, or_false, false_or, or_true, true_or, and_self, or_self, inr_n1000100, inr_n1000010, inr_n1000003, inr_n1000002, inr_n1000001, inr_n1000000, inr_n1, inr_0, inr_1, inr_2, inr_3, inr_4, inr_5, inr_6, inr_7, inr_8, inr_10, inr_11, inr_12, inr_13, inr_14, inr_15, inr_16, inr_20, inr_21, inr_22, inr_23, inr_24, inr_29, inr_30, inr_31, inr_32, inr_39, inr_40, inr_44, inr_48, inr_53, inr_54, inr_57, inr_59, inr_63, inr_97, inr_100, inr_101, inr_102, inr_104, inr_105, inr_106, inr_110, inr_112, inr_116, inr_120, inr_122, inr_144, inr_255, inr_256, inr_320, inr_552, inr_576, inr_999, inr_1000, inr_1023, inr_1024, inr_2048, inr_1000000, inr_252645135, inr_858993459, inr_1431655765, in_R (a := i) (by omega) (by omega), in_R (a := L) (by omega) (by omega), if_pos e, h2]
    refine ⟨h1, h0, e, ?_⟩
    exact ih (i + 1) (up I c i v) (by omega) (by omega) (by omega) (by rw [flI_up e]; exact hq)
theorem sp_fill {c : Nat} {L v : Int} (h1 : okA c 20) (h2 : lnN c = L) (h0 : 0 ≤ L) (hL : L < 1000000) (h3 : okL c) (hq : Q none (flI I c 0 L v) J) : EX x (d + 1) 183 [.inr (.inr (.inl c)), .inl v] I J Q := by
  simp only [@g_183_0, @g_183_1, @g_183_2, @g_183_3, @h_183_3, @g_183_4, @g_183_6, @g_183_7, @g_183_10, @g_183_11, @g_183_12, @g_183_13, @g_183_14, @g_183_17, @g_183_20, @e_183, nlO_n, nlO_i, nlO_r, ret01_0, ret01_1, ret01_if, ret01_fi, true_and, Option.toList_some, Option.toList_none, List.cons_append, List.nil_append, ii_1, ii_0, ii_R, ij_1, ij_0, ij_R, ite_not, if_true, if_false, Int.one_ne_zero, one_e1, not_true_eq_false, not_false_eq_true, and_true, and_false, false_and, or_false, false_or, or_true, true_or, and_self, or_self, inr_n1000100, inr_n1000010, inr_n1000003, inr_n1000002, inr_n1000001, inr_n1000000, inr_n1, inr_0, inr_1, inr_2, inr_3, inr_4, inr_5, inr_6, inr_7, inr_8, inr_10, inr_11, inr_12, inr_13, inr_14, inr_15, inr_16, inr_20, inr_21, inr_22, inr_23, inr_24, inr_29, inr_30, inr_31, inr_32, inr_39, inr_40, inr_44, inr_48, inr_53, inr_54, inr_57, inr_59, inr_63, inr_97, inr_100, inr_101, inr_102, inr_104, inr_105, inr_106, inr_110, inr_112, inr_116, inr_120, inr_122, inr_144, inr_255, inr_256, inr_320, inr_552, inr_576, inr_999, inr_1000, inr_1023, inr_1024, inr_2048, inr_1000000, inr_252645135, inr_858993459, inr_1431655765, h2]
  exact ⟨h3, lp_fill h1 h2 hL _ 0 I (by omega) h0 rfl hq⟩
end
