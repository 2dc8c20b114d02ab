/-! ===== the little machine over the cells S0, as equations ===== -/
def GO (x : RO) (d M : Nat) (Q : QT) (pc : Nat) (ls : LsT) (st : List AV) (I : MI) (J : MJ) : Prop := GoE (Ex S0 x d) S0 x M Q pc ls st I J
def EX (x : RO) (d j : Nat) (as : List AV) (I : MI) (J : MJ) (Q : QT) : Prop := Ex S0 x d j as I J Q
/-- the numbers of fields and arrays -/
def rfN (r j : Nat) : Nat := (rfS S0 r j).getD 999
def okO (r ci : Nat) : Prop := clS S0 r = ci
def okF (r ci j : Nat) : Prop := clS S0 r = ci ∧ (rfS S0 r j).isSome = true
def okA (r t : Nat) : Prop := clS S0 r = t
def lnN (r : Nat) : Int := (lnS S0 r : Int)
def elN (r : Nat) (i : Int) : Nat := (elS S0 r i.toNat).getD 999
def okQ (r : Nat) : Prop := (23 ≤ clS S0 r ∧ clS S0 r ≤ 25) ∧ ∀ i, i < lnS S0 r → (elS S0 r i).isSome = true
def okL (r : Nat) : Prop := 20 ≤ clS S0 r ∧ clS S0 r ≤ 25 ∧ lnS S0 r < 2147483648
def cpI (I : MI) (q : Nat) (b e : Int) (r : Nat) (a : Int) : MI := fun c j => if c = q ∧ b ≤ j ∧ j < b + e then I r (a + (j - b)) else I c j
def tswF (lo : Int) (ts : List Nat) (dd : Nat) (a : Int) (f : Nat → Prop) : Prop := match ts with
  | [] => f dd
  | t :: r => if a = lo then f t else tswF (lo + 1) r dd a f
theorem tswF_of {f : Nat → Prop} {dd : Nat} {a : Int} : ∀ (ts : List Nat) (lo : Int), (((a < lo ∨ lo + ts.length ≤ a) → f dd) ∧ ∀ (i t : Nat), ts[i]? = some t → a = lo + i → f t) ↔ tswF lo ts dd a f
  | [], lo => by
    simp only [tswF]
    constructor
    · rintro ⟨h, -⟩
      exact h (by simp only [List.length_nil]; omega)
    · intro h
      exact ⟨fun _ => h, fun i t ht => by simp at ht⟩
  | t :: r, lo => by
    have ih := tswF_of (f := f) (dd := dd) (a := a) r (lo + 1)
    simp only [tswF]
    by_cases ha : a = lo
    · rw [if_pos ha]
      constructor
      · rintro ⟨-, h⟩
        exact h 0 t rfl (by omega)
      · intro h
        refine ⟨fun q => ?_, fun i t2 ht e => ?_⟩
        · simp only [List.length_cons] at q
          omega
        · have : i = 0 := by omega
          subst this
          cases ht
          exact h
    · rw [if_neg ha, ← ih]
      constructor
      · rintro ⟨h1, h2⟩
        refine ⟨fun q => h1 (by simp only [List.length_cons]; omega), fun i t2 ht e => h2 (i + 1) t2 ht (by omega)⟩
      · rintro ⟨h1, h2⟩
        refine ⟨fun q => h1 (by simp only [List.length_cons] at q; omega), fun i t2 ht e => ?_⟩
        cases i with
        | zero => omega
        | succ i => exact h2 i t2 ht (by omega)
section GEN
variable {x : RO} {d M : Nat} {Q : QT} {pc nx i j b tg n : Nat} {c : Int} {ls : LsT} {st : List AV} {I : MI} {J : MJ} {a y : Int} {r : Nat} {w : Nat ⊕ Nat} {u v : Int64}
theorem ge {A : AIns} (h : cod M pc = some A) : GO x d M Q pc ls st I J = wp1 (Ex S0 x d) S0 x A pc ls st I J (GO x d M Q) Q := go_eq h
theorem gst {P : Prop} (h : i < ls.length) (hn : Prop) : (hn ∧ i < ls.length ∧ P) = (hn ∧ P) := propext ⟨fun q => ⟨q.1, q.2.2⟩, fun q => ⟨q.1, h, q.2⟩⟩
theorem gif {A B C : Prop} {p : Prop} (hd : Decidable p) : (A ∧ (p → B) ∧ (¬ p → C)) = (A ∧ if p then B else C) := by
  by_cases hp : p
  · simp [hp]
  · simp [hp]
theorem gifn {A B C : Prop} {p : Prop} (hd : Decidable p) : (A ∧ (¬ p → B) ∧ (¬ ¬ p → C)) = (A ∧ if p then C else B) := by
  by_cases hp : p
  · simp [hp]
  · simp [hp]
theorem gic {A A2 B C : Prop} {p : Prop} (hd : Decidable p) : (A ∧ A2 ∧ (p → B) ∧ (¬ p → C)) = (A ∧ A2 ∧ if p then B else C) := by
  by_cases hp : p
  · simp [hp]
  · simp [hp]
theorem gicn {A A2 B C : Prop} {p : Prop} (hd : Decidable p) : (A ∧ A2 ∧ (¬ p → B) ∧ (¬ ¬ p → C)) = (A ∧ A2 ∧ if p then C else B) := by
  by_cases hp : p
  · simp [hp]
  · simp [hp]
theorem gge {A B C : Prop} {x y : Int} : (A ∧ (y ≤ x → B) ∧ (¬ y ≤ x → C)) = (A ∧ if x < y then C else B) := by
  by_cases hp : x < y
  · have h : ¬ y ≤ x := by omega
    simp [hp, h]
  · have h : y ≤ x := by omega
    simp [hp, h]
theorem ggec {A A2 B C : Prop} {x y : Int} : (A ∧ A2 ∧ (y ≤ x → B) ∧ (¬ y ≤ x → C)) = (A ∧ A2 ∧ if x < y then C else B) := by
  by_cases hp : x < y
  · have h : ¬ y ≤ x := by omega
    simp [hp, h]
  · have h : y ≤ x := by omega
    simp [hp, h]
theorem gref {j : Nat} {ci : Nat} {f : Nat → Prop} : (clS S0 r = ci ∧ ∃ q, rfS S0 r j = some q ∧ f q) = (okF r ci j ∧ f (rfN r j)) := by
  apply propext
  unfold okF rfN
  constructor
  · rintro ⟨h1, q, h2, h3⟩
    rw [h2]
    exact ⟨⟨h1, rfl⟩, h3⟩
  · rintro ⟨⟨h1, h2⟩, h3⟩
    obtain ⟨q, hq⟩ := Option.isSome_iff_exists.mp h2
    rw [hq] at h3
    exact ⟨h1, q, hq, h3⟩
theorem gel {f : Nat → Prop} : (okQ r ∧ 0 ≤ a ∧ a < lnN r ∧ f (elN r a)) → (23 ≤ clS S0 r ∧ clS S0 r ≤ 25 ∧ 0 ≤ a ∧ a < lnS S0 r ∧ ∃ q, elS S0 r a.toNat = some q ∧ f q) := by
  rintro ⟨⟨⟨h1, h2⟩, h3⟩, h4, h5, h6⟩
  unfold lnN at h5
  obtain ⟨q, hq⟩ := Option.isSome_iff_exists.mp (h3 a.toNat (by omega))
  unfold elN at h6
  rw [hq] at h6
  exact ⟨h1, h2, h4, h5, q, hq, h6⟩
theorem gel2 {f : Nat → Prop} : (23 ≤ clS S0 r ∧ clS S0 r ≤ 25 ∧ 0 ≤ a ∧ a < lnS S0 r ∧ ∃ q, elS S0 r a.toNat = some q ∧ f q) = ((23 ≤ clS S0 r ∧ clS S0 r ≤ 25 ∧ (elS S0 r a.toNat).isSome = true) ∧ 0 ≤ a ∧ a < lnN r ∧ f (elN r a)) := by
  apply propext
  constructor
  · rintro ⟨h1, h2, h3, h4, q, h5, h6⟩
    refine ⟨⟨h1, h2, by rw [h5]; rfl⟩, h3, h4, ?_⟩
    unfold elN
    rw [h5]
    exact h6
  · rintro ⟨⟨h1, h2, h0⟩, h3, h4, h6⟩
    obtain ⟨q, hq⟩ := Option.isSome_iff_exists.mp h0
    unfold elN at h6
    rw [hq] at h6
    exact ⟨h1, h2, h3, h4, q, hq, h6⟩
theorem glen {P : Prop} : (20 ≤ clS S0 r ∧ clS S0 r ≤ 25 ∧ lnS S0 r < 2147483648 ∧ P) = (okL r ∧ P) := propext ⟨fun h => ⟨⟨h.1, h.2.1, h.2.2.1⟩, h.2.2.2⟩, fun h => ⟨h.1.1, h.1.2.1, h.1.2.2, h.2⟩⟩
theorem gtrue {A P : Prop} (h : A) : (A ∧ P) = P := propext ⟨fun q => q.2, fun q => ⟨h, q⟩⟩
theorem gtrue2 {A B P : Prop} (h : A) (h2 : B) : (A ∧ B ∧ P) = P := propext ⟨fun q => q.2.2, fun q => ⟨h, h2, q⟩⟩
theorem ex_eq {as : List AV} (h1 : j + 1 < nM) (h2 : as.all isC1 = true) (h3 : as.length ≤ (MR j).2.2.1) {l : LsT} (h4 : lsOf (MR j).2.2.1 as = l) : EX x (d + 1) j as I J Q = GO x d j Q 0 l [] I J := by
  subst h4
  exact propext ⟨fun q => q.2.2.2, fun q => ⟨h1, h2, h3, q⟩⟩
theorem ret01_0 : ret01 0 = True := eq_true (Or.inl rfl)
theorem ret01_1 : ret01 1 = True := eq_true (Or.inr rfl)
theorem ret01_if {p : Prop} {hd : Decidable p} : ret01 (if p then 1 else 0) = True := eq_true (by by_cases h : p <;> simp [h, ret01])
theorem ret01_fi {p : Prop} {hd : Decidable p} : ret01 (if p then 0 else 1) = True := eq_true (by by_cases h : p <;> simp [h, ret01])
theorem nlO_n : (nlO (some none) = true) = True := eq_true rfl
theorem nlO_i {a : Int} : (nlO (some (some (.inl a))) = true) = True := eq_true rfl
theorem nlO_r {w : Nat ⊕ Nat} : (nlO (some (some (.inr (.inr w)))) = true) = True := eq_true rfl
end GEN
theorem okO_0 : okO 0 9 = True := eq_true (by unfold okO; rfl)
theorem okF_0_0 : okF 0 9 0 = True := eq_true (by unfold okF; exact ⟨rfl, rfl⟩)
theorem rfN_0_0 : rfN 0 0 = 1 := rfl
theorem okF_0_1 : okF 0 9 1 = True := eq_true (by unfold okF; exact ⟨rfl, rfl⟩)
theorem rfN_0_1 : rfN 0 1 = 2 := rfl
theorem okF_0_2 : okF 0 9 2 = True := eq_true (by unfold okF; exact ⟨rfl, rfl⟩)
theorem rfN_0_2 : rfN 0 2 = 10 := rfl
theorem okF_0_3 : okF 0 9 3 = True := eq_true (by unfold okF; exact ⟨rfl, rfl⟩)
theorem rfN_0_3 : rfN 0 3 = 18 := rfl
theorem okF_0_4 : okF 0 9 4 = True := eq_true (by unfold okF; exact ⟨rfl, rfl⟩)
theorem rfN_0_4 : rfN 0 4 = 19 := rfl
theorem okF_0_5 : okF 0 9 5 = True := eq_true (by unfold okF; exact ⟨rfl, rfl⟩)
theorem rfN_0_5 : rfN 0 5 = 21 := rfl
theorem okF_0_6 : okF 0 9 6 = True := eq_true (by unfold okF; exact ⟨rfl, rfl⟩)
theorem rfN_0_6 : rfN 0 6 = 47 := rfl
theorem okF_0_7 : okF 0 9 7 = True := eq_true (by unfold okF; exact ⟨rfl, rfl⟩)
theorem rfN_0_7 : rfN 0 7 = 52 := rfl
theorem okF_0_8 : okF 0 9 8 = True := eq_true (by unfold okF; exact ⟨rfl, rfl⟩)
theorem rfN_0_8 : rfN 0 8 = 55 := rfl
theorem okF_0_9 : okF 0 9 9 = True := eq_true (by unfold okF; exact ⟨rfl, rfl⟩)
theorem rfN_0_9 : rfN 0 9 = 58 := rfl
theorem lnN_1 : lnN 1 = 8 := rfl
theorem okO_2 : okO 2 3 = True := eq_true (by unfold okO; rfl)
theorem okF_2_2 : okF 2 3 2 = True := eq_true (by unfold okF; exact ⟨rfl, rfl⟩)
theorem rfN_2_2 : rfN 2 2 = 3 := rfl
theorem okF_2_4 : okF 2 3 4 = True := eq_true (by unfold okF; exact ⟨rfl, rfl⟩)
theorem rfN_2_4 : rfN 2 4 = 4 := rfl
theorem okF_2_5 : okF 2 3 5 = True := eq_true (by unfold okF; exact ⟨rfl, rfl⟩)
theorem rfN_2_5 : rfN 2 5 = 5 := rfl
theorem okF_2_6 : okF 2 3 6 = True := eq_true (by unfold okF; exact ⟨rfl, rfl⟩)
theorem rfN_2_6 : rfN 2 6 = 6 := rfl
theorem okF_2_7 : okF 2 3 7 = True := eq_true (by unfold okF; exact ⟨rfl, rfl⟩)
theorem rfN_2_7 : rfN 2 7 = 7 := rfl
theorem okF_2_9 : okF 2 3 9 = True := eq_true (by unfold okF; exact ⟨rfl, rfl⟩)
theorem rfN_2_9 : rfN 2 9 = 8 := rfl
theorem okF_2_10 : okF 2 3 10 = True := eq_true (by unfold okF; exact ⟨rfl, rfl⟩)
theorem rfN_2_10 : rfN 2 10 = 9 := rfl
theorem okA_3 : okA 3 20 = True := eq_true (by unfold okA; rfl)
theorem lnN_3 : lnN 3 = 4 := rfl
theorem okA_4 : okA 4 20 = True := eq_true (by unfold okA; rfl)
theorem lnN_4 : lnN 4 = 8 := rfl
theorem okA_5 : okA 5 20 = True := eq_true (by unfold okA; rfl)
theorem lnN_5 : lnN 5 = 8 := rfl
theorem okA_6 : okA 6 20 = True := eq_true (by unfold okA; rfl)
theorem lnN_6 : lnN 6 = 8 := rfl
theorem okA_7 : okA 7 20 = True := eq_true (by unfold okA; rfl)
theorem lnN_7 : lnN 7 = 8 := rfl
theorem okA_8 : okA 8 20 = True := eq_true (by unfold okA; rfl)
theorem lnN_8 : lnN 8 = 5 := rfl
theorem okA_9 : okA 9 20 = True := eq_true (by unfold okA; rfl)
theorem lnN_9 : lnN 9 = 5 := rfl
theorem okO_10 : okO 10 3 = True := eq_true (by unfold okO; rfl)
theorem okF_10_2 : okF 10 3 2 = True := eq_true (by unfold okF; exact ⟨rfl, rfl⟩)
theorem rfN_10_2 : rfN 10 2 = 11 := rfl
theorem okF_10_4 : okF 10 3 4 = True := eq_true (by unfold okF; exact ⟨rfl, rfl⟩)
theorem rfN_10_4 : rfN 10 4 = 12 := rfl
theorem okF_10_5 : okF 10 3 5 = True := eq_true (by unfold okF; exact ⟨rfl, rfl⟩)
theorem rfN_10_5 : rfN 10 5 = 13 := rfl
theorem okF_10_6 : okF 10 3 6 = True := eq_true (by unfold okF; exact ⟨rfl, rfl⟩)
theorem rfN_10_6 : rfN 10 6 = 14 := rfl
theorem okF_10_7 : okF 10 3 7 = True := eq_true (by unfold okF; exact ⟨rfl, rfl⟩)
theorem rfN_10_7 : rfN 10 7 = 15 := rfl
theorem okF_10_9 : okF 10 3 9 = True := eq_true (by unfold okF; exact ⟨rfl, rfl⟩)
theorem rfN_10_9 : rfN 10 9 = 16 := rfl
theorem okF_10_10 : okF 10 3 10 = True := eq_true (by unfold okF; exact ⟨rfl, rfl⟩)
theorem rfN_10_10 : rfN 10 10 = 17 := rfl
theorem okA_11 : okA 11 20 = True := eq_true (by unfold okA; rfl)
theorem lnN_11 : lnN 11 = 4 := rfl
theorem okA_12 : okA 12 20 = True := eq_true (by unfold okA; rfl)
theorem lnN_12 : lnN 12 = 8 := rfl
theorem okA_13 : okA 13 20 = True := eq_true (by unfold okA; rfl)
theorem lnN_13 : lnN 13 = 8 := rfl
theorem okA_14 : okA 14 20 = True := eq_true (by unfold okA; rfl)
theorem lnN_14 : lnN 14 = 8 := rfl
theorem okA_15 : okA 15 20 = True := eq_true (by unfold okA; rfl)
theorem lnN_15 : lnN 15 = 8 := rfl
theorem okA_16 : okA 16 20 = True := eq_true (by unfold okA; rfl)
theorem lnN_16 : lnN 16 = 5 := rfl
theorem okA_17 : okA 17 20 = True := eq_true (by unfold okA; rfl)
theorem lnN_17 : lnN 17 = 5 := rfl
theorem lnN_18 : lnN 18 = 2 := rfl
theorem okO_19 : okO 19 7 = True := eq_true (by unfold okO; rfl)
theorem okF_19_0 : okF 19 7 0 = True := eq_true (by unfold okF; exact ⟨rfl, rfl⟩)
theorem rfN_19_0 : rfN 19 0 = 20 := rfl
theorem okA_20 : okA 20 20 = True := eq_true (by unfold okA; rfl)
theorem lnN_20 : lnN 20 = 120 := rfl
theorem okO_21 : okO 21 1 = True := eq_true (by unfold okO; rfl)
theorem okF_21_0 : okF 21 1 0 = True := eq_true (by unfold okF; exact ⟨rfl, rfl⟩)
theorem rfN_21_0 : rfN 21 0 = 22 := rfl
theorem lnN_22 : lnN 22 = 24 := rfl
theorem okO_23 : okO 23 0 = True := eq_true (by unfold okO; rfl)
theorem okO_24 : okO 24 0 = True := eq_true (by unfold okO; rfl)
theorem okO_25 : okO 25 0 = True := eq_true (by unfold okO; rfl)
theorem okO_26 : okO 26 0 = True := eq_true (by unfold okO; rfl)
theorem okO_27 : okO 27 0 = True := eq_true (by unfold okO; rfl)
theorem okO_28 : okO 28 0 = True := eq_true (by unfold okO; rfl)
theorem okO_29 : okO 29 0 = True := eq_true (by unfold okO; rfl)
theorem okO_30 : okO 30 0 = True := eq_true (by unfold okO; rfl)
theorem okO_31 : okO 31 0 = True := eq_true (by unfold okO; rfl)
theorem okO_32 : okO 32 0 = True := eq_true (by unfold okO; rfl)
theorem okO_33 : okO 33 0 = True := eq_true (by unfold okO; rfl)
theorem okO_34 : okO 34 0 = True := eq_true (by unfold okO; rfl)
theorem okO_35 : okO 35 0 = True := eq_true (by unfold okO; rfl)
theorem okO_36 : okO 36 0 = True := eq_true (by unfold okO; rfl)
theorem okO_37 : okO 37 0 = True := eq_true (by unfold okO; rfl)
theorem okO_38 : okO 38 0 = True := eq_true (by unfold okO; rfl)
theorem okO_39 : okO 39 0 = True := eq_true (by unfold okO; rfl)
theorem okO_40 : okO 40 0 = True := eq_true (by unfold okO; rfl)
theorem okO_41 : okO 41 0 = True := eq_true (by unfold okO; rfl)
theorem okO_42 : okO 42 0 = True := eq_true (by unfold okO; rfl)
theorem okO_43 : okO 43 0 = True := eq_true (by unfold okO; rfl)
theorem okO_44 : okO 44 0 = True := eq_true (by unfold okO; rfl)
theorem okO_45 : okO 45 0 = True := eq_true (by unfold okO; rfl)
theorem okO_46 : okO 46 0 = True := eq_true (by unfold okO; rfl)
theorem okO_47 : okO 47 4 = True := eq_true (by unfold okO; rfl)
theorem okF_47_0 : okF 47 4 0 = True := eq_true (by unfold okF; exact ⟨rfl, rfl⟩)
theorem rfN_47_0 : rfN 47 0 = 48 := rfl
theorem okF_47_1 : okF 47 4 1 = True := eq_true (by unfold okF; exact ⟨rfl, rfl⟩)
theorem rfN_47_1 : rfN 47 1 = 49 := rfl
theorem okF_47_2 : okF 47 4 2 = True := eq_true (by unfold okF; exact ⟨rfl, rfl⟩)
theorem rfN_47_2 : rfN 47 2 = 50 := rfl
theorem okF_47_3 : okF 47 4 3 = True := eq_true (by unfold okF; exact ⟨rfl, rfl⟩)
theorem rfN_47_3 : rfN 47 3 = 51 := rfl
theorem okA_48 : okA 48 20 = True := eq_true (by unfold okA; rfl)
theorem lnN_48 : lnN 48 = 8 := rfl
theorem okA_49 : okA 49 20 = True := eq_true (by unfold okA; rfl)
theorem lnN_49 : lnN 49 = 5 := rfl
theorem okA_50 : okA 50 20 = True := eq_true (by unfold okA; rfl)
theorem lnN_50 : lnN 50 = 5 := rfl
theorem okA_51 : okA 51 21 = True := eq_true (by unfold okA; rfl)
theorem lnN_51 : lnN 51 = 1024 := rfl
theorem okO_52 : okO 52 6 = True := eq_true (by unfold okO; rfl)
theorem okF_52_0 : okF 52 6 0 = True := eq_true (by unfold okF; exact ⟨rfl, rfl⟩)
theorem rfN_52_0 : rfN 52 0 = 53 := rfl
theorem okF_52_1 : okF 52 6 1 = True := eq_true (by unfold okF; exact ⟨rfl, rfl⟩)
theorem rfN_52_1 : rfN 52 1 = 54 := rfl
theorem okA_53 : okA 53 20 = True := eq_true (by unfold okA; rfl)
theorem lnN_53 : lnN 53 = 1024 := rfl
theorem okA_54 : okA 54 20 = True := eq_true (by unfold okA; rfl)
theorem lnN_54 : lnN 54 = 8 := rfl
theorem okO_55 : okO 55 8 = True := eq_true (by unfold okO; rfl)
theorem okF_55_0 : okF 55 8 0 = True := eq_true (by unfold okF; exact ⟨rfl, rfl⟩)
theorem rfN_55_0 : rfN 55 0 = 56 := rfl
theorem okF_55_1 : okF 55 8 1 = True := eq_true (by unfold okF; exact ⟨rfl, rfl⟩)
theorem rfN_55_1 : rfN 55 1 = 57 := rfl
theorem okA_56 : okA 56 20 = True := eq_true (by unfold okA; rfl)
theorem lnN_56 : lnN 56 = 8 := rfl
theorem okA_57 : okA 57 20 = True := eq_true (by unfold okA; rfl)
theorem lnN_57 : lnN 57 = 5 := rfl
theorem okO_58 : okO 58 2 = True := eq_true (by unfold okO; rfl)
theorem okF_58_0 : okF 58 2 0 = True := eq_true (by unfold okF; exact ⟨rfl, rfl⟩)
theorem rfN_58_0 : rfN 58 0 = 59 := rfl
theorem okA_59 : okA 59 20 = True := eq_true (by unfold okA; rfl)
theorem lnN_59 : lnN 59 = 16 := rfl
theorem okO_60 : okO 60 5 = True := eq_true (by unfold okO; rfl)
theorem okF_60_0 : okF 60 5 0 = True := eq_true (by unfold okF; exact ⟨rfl, rfl⟩)
theorem rfN_60_0 : rfN 60 0 = 61 := rfl
theorem okA_61 : okA 61 20 = True := eq_true (by unfold okA; rfl)
theorem lnN_61 : lnN 61 = 40 := rfl
theorem okO_62 : okO 62 5 = True := eq_true (by unfold okO; rfl)
theorem okF_62_0 : okF 62 5 0 = True := eq_true (by unfold okF; exact ⟨rfl, rfl⟩)
theorem rfN_62_0 : rfN 62 0 = 63 := rfl
theorem okA_63 : okA 63 20 = True := eq_true (by unfold okA; rfl)
theorem lnN_63 : lnN 63 = 40 := rfl
theorem okO_64 : okO 64 5 = True := eq_true (by unfold okO; rfl)
theorem okF_64_0 : okF 64 5 0 = True := eq_true (by unfold okF; exact ⟨rfl, rfl⟩)
theorem rfN_64_0 : rfN 64 0 = 65 := rfl
theorem okA_65 : okA 65 20 = True := eq_true (by unfold okA; rfl)
theorem lnN_65 : lnN 65 = 40 := rfl
theorem okO_66 : okO 66 5 = True := eq_true (by unfold okO; rfl)
theorem okF_66_0 : okF 66 5 0 = True := eq_true (by unfold okF; exact ⟨rfl, rfl⟩)
theorem rfN_66_0 : rfN 66 0 = 67 := rfl
theorem okA_67 : okA 67 20 = True := eq_true (by unfold okA; rfl)
theorem lnN_67 : lnN 67 = 40 := rfl
theorem okO_68 : okO 68 5 = True := eq_true (by unfold okO; rfl)
theorem okF_68_0 : okF 68 5 0 = True := eq_true (by unfold okF; exact ⟨rfl, rfl⟩)
theorem rfN_68_0 : rfN 68 0 = 69 := rfl
theorem okA_69 : okA 69 20 = True := eq_true (by unfold okA; rfl)
theorem lnN_69 : lnN 69 = 40 := rfl
theorem okO_70 : okO 70 5 = True := eq_true (by unfold okO; rfl)
theorem okF_70_0 : okF 70 5 0 = True := eq_true (by unfold okF; exact ⟨rfl, rfl⟩)
theorem rfN_70_0 : rfN 70 0 = 71 := rfl
theorem okA_71 : okA 71 20 = True := eq_true (by unfold okA; rfl)
theorem lnN_71 : lnN 71 = 40 := rfl
theorem okO_72 : okO 72 5 = True := eq_true (by unfold okO; rfl)
theorem okF_72_0 : okF 72 5 0 = True := eq_true (by unfold okF; exact ⟨rfl, rfl⟩)
theorem rfN_72_0 : rfN 72 0 = 73 := rfl
theorem okA_73 : okA 73 20 = True := eq_true (by unfold okA; rfl)
theorem lnN_73 : lnN 73 = 40 := rfl
theorem okO_74 : okO 74 5 = True := eq_true (by unfold okO; rfl)
theorem okF_74_0 : okF 74 5 0 = True := eq_true (by unfold okF; exact ⟨rfl, rfl⟩)
theorem rfN_74_0 : rfN 74 0 = 75 := rfl
theorem okA_75 : okA 75 20 = True := eq_true (by unfold okA; rfl)
theorem lnN_75 : lnN 75 = 40 := rfl
theorem okO_76 : okO 76 3 = True := eq_true (by unfold okO; rfl)
theorem okF_76_2 : okF 76 3 2 = True := eq_true (by unfold okF; exact ⟨rfl, rfl⟩)
theorem rfN_76_2 : rfN 76 2 = 77 := rfl
theorem okF_76_4 : okF 76 3 4 = True := eq_true (by unfold okF; exact ⟨rfl, rfl⟩)
theorem rfN_76_4 : rfN 76 4 = 78 := rfl
theorem okF_76_5 : okF 76 3 5 = True := eq_true (by unfold okF; exact ⟨rfl, rfl⟩)
theorem rfN_76_5 : rfN 76 5 = 79 := rfl
theorem okF_76_6 : okF 76 3 6 = True := eq_true (by unfold okF; exact ⟨rfl, rfl⟩)
theorem rfN_76_6 : rfN 76 6 = 80 := rfl
theorem okF_76_7 : okF 76 3 7 = True := eq_true (by unfold okF; exact ⟨rfl, rfl⟩)
theorem rfN_76_7 : rfN 76 7 = 81 := rfl
theorem okF_76_9 : okF 76 3 9 = True := eq_true (by unfold okF; exact ⟨rfl, rfl⟩)
theorem rfN_76_9 : rfN 76 9 = 82 := rfl
theorem okF_76_10 : okF 76 3 10 = True := eq_true (by unfold okF; exact ⟨rfl, rfl⟩)
theorem rfN_76_10 : rfN 76 10 = 83 := rfl
theorem okA_77 : okA 77 20 = True := eq_true (by unfold okA; rfl)
theorem lnN_77 : lnN 77 = 4 := rfl
theorem okA_78 : okA 78 20 = True := eq_true (by unfold okA; rfl)
theorem lnN_78 : lnN 78 = 8 := rfl
theorem okA_79 : okA 79 20 = True := eq_true (by unfold okA; rfl)
theorem lnN_79 : lnN 79 = 8 := rfl
theorem okA_80 : okA 80 20 = True := eq_true (by unfold okA; rfl)
theorem lnN_80 : lnN 80 = 8 := rfl
theorem okA_81 : okA 81 20 = True := eq_true (by unfold okA; rfl)
theorem lnN_81 : lnN 81 = 8 := rfl
theorem okA_82 : okA 82 20 = True := eq_true (by unfold okA; rfl)
theorem lnN_82 : lnN 82 = 5 := rfl
theorem okA_83 : okA 83 20 = True := eq_true (by unfold okA; rfl)
theorem lnN_83 : lnN 83 = 5 := rfl
theorem okO_84 : okO 84 3 = True := eq_true (by unfold okO; rfl)
theorem okF_84_2 : okF 84 3 2 = True := eq_true (by unfold okF; exact ⟨rfl, rfl⟩)
theorem rfN_84_2 : rfN 84 2 = 85 := rfl
theorem okF_84_4 : okF 84 3 4 = True := eq_true (by unfold okF; exact ⟨rfl, rfl⟩)
theorem rfN_84_4 : rfN 84 4 = 86 := rfl
theorem okF_84_5 : okF 84 3 5 = True := eq_true (by unfold okF; exact ⟨rfl, rfl⟩)
theorem rfN_84_5 : rfN 84 5 = 87 := rfl
theorem okF_84_6 : okF 84 3 6 = True := eq_true (by unfold okF; exact ⟨rfl, rfl⟩)
theorem rfN_84_6 : rfN 84 6 = 88 := rfl
theorem okF_84_7 : okF 84 3 7 = True := eq_true (by unfold okF; exact ⟨rfl, rfl⟩)
theorem rfN_84_7 : rfN 84 7 = 89 := rfl
theorem okF_84_9 : okF 84 3 9 = True := eq_true (by unfold okF; exact ⟨rfl, rfl⟩)
theorem rfN_84_9 : rfN 84 9 = 90 := rfl
theorem okF_84_10 : okF 84 3 10 = True := eq_true (by unfold okF; exact ⟨rfl, rfl⟩)
theorem rfN_84_10 : rfN 84 10 = 91 := rfl
theorem okA_85 : okA 85 20 = True := eq_true (by unfold okA; rfl)
theorem lnN_85 : lnN 85 = 4 := rfl
theorem okA_86 : okA 86 20 = True := eq_true (by unfold okA; rfl)
theorem lnN_86 : lnN 86 = 8 := rfl
theorem okA_87 : okA 87 20 = True := eq_true (by unfold okA; rfl)
theorem lnN_87 : lnN 87 = 8 := rfl
theorem okA_88 : okA 88 20 = True := eq_true (by unfold okA; rfl)
theorem lnN_88 : lnN 88 = 8 := rfl
theorem okA_89 : okA 89 20 = True := eq_true (by unfold okA; rfl)
theorem lnN_89 : lnN 89 = 8 := rfl
theorem okA_90 : okA 90 20 = True := eq_true (by unfold okA; rfl)
theorem lnN_90 : lnN 90 = 5 := rfl
theorem okA_91 : okA 91 20 = True := eq_true (by unfold okA; rfl)
theorem lnN_91 : lnN 91 = 5 := rfl
theorem okO_92 : okO 92 10 = True := eq_true (by unfold okO; rfl)
theorem okF_92_0 : okF 92 10 0 = True := eq_true (by unfold okF; exact ⟨rfl, rfl⟩)
theorem rfN_92_0 : rfN 92 0 = 93 := rfl
theorem okF_92_2 : okF 92 10 2 = True := eq_true (by unfold okF; exact ⟨rfl, rfl⟩)
theorem rfN_92_2 : rfN 92 2 = 94 := rfl
theorem okF_92_3 : okF 92 10 3 = True := eq_true (by unfold okF; exact ⟨rfl, rfl⟩)
theorem rfN_92_3 : rfN 92 3 = 95 := rfl
theorem okF_92_4 : okF 92 10 4 = True := eq_true (by unfold okF; exact ⟨rfl, rfl⟩)
theorem rfN_92_4 : rfN 92 4 = 96 := rfl
theorem okF_92_6 : okF 92 10 6 = True := eq_true (by unfold okF; exact ⟨rfl, rfl⟩)
theorem rfN_92_6 : rfN 92 6 = 97 := rfl
theorem okF_92_7 : okF 92 10 7 = True := eq_true (by unfold okF; exact ⟨rfl, rfl⟩)
theorem rfN_92_7 : rfN 92 7 = 98 := rfl
theorem okF_92_8 : okF 92 10 8 = True := eq_true (by unfold okF; exact ⟨rfl, rfl⟩)
theorem rfN_92_8 : rfN 92 8 = 99 := rfl
theorem okF_92_9 : okF 92 10 9 = True := eq_true (by unfold okF; exact ⟨rfl, rfl⟩)
theorem rfN_92_9 : rfN 92 9 = 100 := rfl
theorem okF_92_10 : okF 92 10 10 = True := eq_true (by unfold okF; exact ⟨rfl, rfl⟩)
theorem rfN_92_10 : rfN 92 10 = 101 := rfl
theorem okF_92_11 : okF 92 10 11 = True := eq_true (by unfold okF; exact ⟨rfl, rfl⟩)
theorem rfN_92_11 : rfN 92 11 = 102 := rfl
theorem okF_92_20 : okF 92 10 20 = True := eq_true (by unfold okF; exact ⟨rfl, rfl⟩)
theorem rfN_92_20 : rfN 92 20 = 103 := rfl
theorem okF_92_21 : okF 92 10 21 = True := eq_true (by unfold okF; exact ⟨rfl, rfl⟩)
theorem rfN_92_21 : rfN 92 21 = 104 := rfl
theorem okF_92_22 : okF 92 10 22 = True := eq_true (by unfold okF; exact ⟨rfl, rfl⟩)
theorem rfN_92_22 : rfN 92 22 = 105 := rfl
theorem okF_92_23 : okF 92 10 23 = True := eq_true (by unfold okF; exact ⟨rfl, rfl⟩)
theorem rfN_92_23 : rfN 92 23 = 106 := rfl
theorem okF_92_25 : okF 92 10 25 = True := eq_true (by unfold okF; exact ⟨rfl, rfl⟩)
theorem rfN_92_25 : rfN 92 25 = 107 := rfl
theorem okF_92_26 : okF 92 10 26 = True := eq_true (by unfold okF; exact ⟨rfl, rfl⟩)
theorem rfN_92_26 : rfN 92 26 = 108 := rfl
theorem okF_92_27 : okF 92 10 27 = True := eq_true (by unfold okF; exact ⟨rfl, rfl⟩)
theorem rfN_92_27 : rfN 92 27 = 109 := rfl
theorem okA_93 : okA 93 20 = True := eq_true (by unfold okA; rfl)
theorem lnN_93 : lnN 93 = 120 := rfl
theorem okA_94 : okA 94 20 = True := eq_true (by unfold okA; rfl)
theorem lnN_94 : lnN 94 = 53 := rfl
theorem okA_95 : okA 95 20 = True := eq_true (by unfold okA; rfl)
theorem lnN_95 : lnN 95 = 53 := rfl
theorem okA_96 : okA 96 20 = True := eq_true (by unfold okA; rfl)
theorem lnN_96 : lnN 96 = 576 := rfl
theorem okA_97 : okA 97 20 = True := eq_true (by unfold okA; rfl)
theorem lnN_97 : lnN 97 = 106 := rfl
theorem okA_98 : okA 98 22 = True := eq_true (by unfold okA; rfl)
theorem lnN_98 : lnN 98 = 2 := rfl
theorem okA_99 : okA 99 20 = True := eq_true (by unfold okA; rfl)
theorem lnN_99 : lnN 99 = 8 := rfl
theorem okA_100 : okA 100 20 = True := eq_true (by unfold okA; rfl)
theorem lnN_100 : lnN 100 = 8 := rfl
theorem okA_101 : okA 101 20 = True := eq_true (by unfold okA; rfl)
theorem lnN_101 : lnN 101 = 320 := rfl
theorem okA_102 : okA 102 20 = True := eq_true (by unfold okA; rfl)
theorem lnN_102 : lnN 102 = 16 := rfl
theorem okA_103 : okA 103 20 = True := eq_true (by unfold okA; rfl)
theorem lnN_103 : lnN 103 = 40 := rfl
theorem okA_104 : okA 104 20 = True := eq_true (by unfold okA; rfl)
theorem lnN_104 : lnN 104 = 144 := rfl
theorem okA_105 : okA 105 20 = True := eq_true (by unfold okA; rfl)
theorem lnN_105 : lnN 105 = 6 := rfl
theorem okA_106 : okA 106 20 = True := eq_true (by unfold okA; rfl)
theorem lnN_106 : lnN 106 = 5 := rfl
theorem okA_107 : okA 107 20 = True := eq_true (by unfold okA; rfl)
theorem lnN_107 : lnN 107 = 2048 := rfl
theorem okA_108 : okA 108 22 = True := eq_true (by unfold okA; rfl)
theorem lnN_108 : lnN 108 = 32 := rfl
theorem okA_109 : okA 109 20 = True := eq_true (by unfold okA; rfl)
theorem lnN_109 : lnN 109 = 24 := rfl
theorem inr_n1000100 : inR (-1000100) = True := eq_true ⟨by decide, by decide⟩
theorem inr_n1000010 : inR (-1000010) = True := eq_true ⟨by decide, by decide⟩
theorem inr_n1000003 : inR (-1000003) = True := eq_true ⟨by decide, by decide⟩
theorem inr_n1000002 : inR (-1000002) = True := eq_true ⟨by decide, by decide⟩
theorem inr_n1000001 : inR (-1000001) = True := eq_true ⟨by decide, by decide⟩
theorem inr_n1000000 : inR (-1000000) = True := eq_true ⟨by decide, by decide⟩
theorem inr_n1 : inR (-1) = True := eq_true ⟨by decide, by decide⟩
theorem inr_0 : inR (0) = True := eq_true ⟨by decide, by decide⟩
theorem inr_1 : inR (1) = True := eq_true ⟨by decide, by decide⟩
theorem inr_2 : inR (2) = True := eq_true ⟨by decide, by decide⟩
theorem inr_3 : inR (3) = True := eq_true ⟨by decide, by decide⟩
theorem inr_4 : inR (4) = True := eq_true ⟨by decide, by decide⟩
theorem inr_5 : inR (5) = True := eq_true ⟨by decide, by decide⟩
theorem inr_6 : inR (6) = True := eq_true ⟨by decide, by decide⟩
theorem inr_7 : inR (7) = True := eq_true ⟨by decide, by decide⟩
theorem inr_8 : inR (8) = True := eq_true ⟨by decide, by decide⟩
theorem inr_10 : inR (10) = True := eq_true ⟨by decide, by decide⟩
theorem inr_11 : inR (11) = True := eq_true ⟨by decide, by decide⟩
theorem inr_12 : inR (12) = True := eq_true ⟨by decide, by decide⟩
theorem inr_13 : inR (13) = True := eq_true ⟨by decide, by decide⟩
theorem inr_14 : inR (14) = True := eq_true ⟨by decide, by decide⟩
theorem inr_15 : inR (15) = True := eq_true ⟨by decide, by decide⟩
theorem inr_16 : inR (16) = True := eq_true ⟨by decide, by decide⟩
theorem inr_20 : inR (20) = True := eq_true ⟨by decide, by decide⟩
theorem inr_21 : inR (21) = True := eq_true ⟨by decide, by decide⟩
theorem inr_22 : inR (22) = True := eq_true ⟨by decide, by decide⟩
theorem inr_23 : inR (23) = True := eq_true ⟨by decide, by decide⟩
theorem inr_24 : inR (24) = True := eq_true ⟨by decide, by decide⟩
theorem inr_29 : inR (29) = True := eq_true ⟨by decide, by decide⟩
theorem inr_30 : inR (30) = True := eq_true ⟨by decide, by decide⟩
theorem inr_31 : inR (31) = True := eq_true ⟨by decide, by decide⟩
theorem inr_32 : inR (32) = True := eq_true ⟨by decide, by decide⟩
theorem inr_39 : inR (39) = True := eq_true ⟨by decide, by decide⟩
theorem inr_40 : inR (40) = True := eq_true ⟨by decide, by decide⟩
theorem inr_44 : inR (44) = True := eq_true ⟨by decide, by decide⟩
theorem inr_48 : inR (48) = True := eq_true ⟨by decide, by decide⟩
theorem inr_53 : inR (53) = True := eq_true ⟨by decide, by decide⟩
theorem inr_54 : inR (54) = True := eq_true ⟨by decide, by decide⟩
theorem inr_57 : inR (57) = True := eq_true ⟨by decide, by decide⟩
theorem inr_59 : inR (59) = True := eq_true ⟨by decide, by decide⟩
theorem inr_63 : inR (63) = True := eq_true ⟨by decide, by decide⟩
theorem inr_97 : inR (97) = True := eq_true ⟨by decide, by decide⟩
theorem inr_100 : inR (100) = True := eq_true ⟨by decide, by decide⟩
theorem inr_101 : inR (101) = True := eq_true ⟨by decide, by decide⟩
theorem inr_102 : inR (102) = True := eq_true ⟨by decide, by decide⟩
theorem inr_104 : inR (104) = True := eq_true ⟨by decide, by decide⟩
theorem inr_105 : inR (105) = True := eq_true ⟨by decide, by decide⟩
theorem inr_106 : inR (106) = True := eq_true ⟨by decide, by decide⟩
theorem inr_110 : inR (110) = True := eq_true ⟨by decide, by decide⟩
theorem inr_112 : inR (112) = True := eq_true ⟨by decide, by decide⟩
theorem inr_116 : inR (116) = True := eq_true ⟨by decide, by decide⟩
theorem inr_120 : inR (120) = True := eq_true ⟨by decide, by decide⟩
theorem inr_122 : inR (122) = True := eq_true ⟨by decide, by decide⟩
theorem inr_144 : inR (144) = True := eq_true ⟨by decide, by decide⟩
theorem inr_255 : inR (255) = True := eq_true ⟨by decide, by decide⟩
theorem inr_256 : inR (256) = True := eq_true ⟨by decide, by decide⟩
theorem inr_320 : inR (320) = True := eq_true ⟨by decide, by decide⟩
theorem inr_552 : inR (552) = True := eq_true ⟨by decide, by decide⟩
theorem inr_576 : inR (576) = True := eq_true ⟨by decide, by decide⟩
theorem inr_999 : inR (999) = True := eq_true ⟨by decide, by decide⟩
theorem inr_1000 : inR (1000) = True := eq_true ⟨by decide, by decide⟩
theorem inr_1023 : inR (1023) = True := eq_true ⟨by decide, by decide⟩
theorem inr_1024 : inR (1024) = True := eq_true ⟨by decide, by decide⟩
theorem inr_2048 : inR (2048) = True := eq_true ⟨by decide, by decide⟩
theorem inr_1000000 : inR (1000000) = True := eq_true ⟨by decide, by decide⟩
theorem inr_252645135 : inR (252645135) = True := eq_true ⟨by decide, by decide⟩
theorem inr_858993459 : inR (858993459) = True := eq_true ⟨by decide, by decide⟩
theorem inr_1431655765 : inR (1431655765) = True := eq_true ⟨by decide, by decide⟩
