section GOE
variable {σ : List Sh} {x : RO} {M : Nat} {E : ET} {Q Q' : QT} {pc : Nat} {ls : LsT} {st : List AV} {I : MI} {J : MJ} {k k' : KT} {nx i j : Nat} {c0 : Int}
def EMono (E E' : ET) : Prop := ∀ j as I J Q Q', (∀ r I J, Q r I J → Q' r I J) → E j as I J Q → E' j as I J Q'
set_option maxHeartbeats 4000000 in
theorem wp1_mono {E' : ET} (hE : EMono E E') (hk : ∀ pc ls st I J, k pc ls st I J → k' pc ls st I J) (hQ : ∀ r I J, Q r I J → Q' r I J) : ∀ op, wp1 E σ x (op, nx, i, j, c0) pc ls st I J k Q → wp1 E' σ x (op, nx, i, j, c0) pc ls st I J k' Q'
  | 0, h => by
    exact hk _ _ _ _ _ h
  | 1, h => by
    simp only [wp1] at h ⊢
    split at h
    · rename_i v hv
      try simp only [hv]
      exact hk _ _ _ _ _ h
    · exact h.elim
  | 2, h => by
    simp only [wp1] at h ⊢
    split at h
    · rename_i v hv
      try simp only [hv]
      exact hk _ _ _ _ _ h
    · exact h.elim
  | 3, h => by
    simp only [wp1] at h ⊢
    split at h
    · rename_i v hv
      try simp only [hv]
      exact hk _ _ _ _ _ h
    · exact h.elim
  | 4, h => by
    simp only [wp1] at h ⊢
    split at h
    · exact ⟨h.1, h.2.1, hk _ _ _ _ _ h.2.2⟩
    · exact h.elim
  | 5, h => by
    simp only [wp1] at h ⊢
    split at h
    · exact ⟨h.1, h.2.1, hk _ _ _ _ _ h.2.2⟩
    · exact h.elim
  | 6, h => by
    simp only [wp1] at h ⊢
    split at h
    · exact ⟨h.1, h.2.1, hk _ _ _ _ _ h.2.2⟩
    · exact h.elim
  | 7, h => by
    simp only [wp1] at h ⊢
    split at h
    · rename_i v hv
      try simp only [hv]
      exact ⟨h.1, hk _ _ _ _ _ h.2⟩
    · exact h.elim
  | 8, h => by
    simp only [wp1] at h ⊢
    split at h
    · exact hk _ _ _ _ _ h
    · exact h.elim
  | 9, h => by
    simp only [wp1] at h ⊢
    split at h
    · exact hk _ _ _ _ _ h
    · exact h.elim
  | 10, h => by
    simp only [wp1] at h ⊢
    split at h
    · exact hk _ _ _ _ _ h
    · exact h.elim
  | 11, h => by
    simp only [wp1] at h ⊢
    split at h
    · exact hk _ _ _ _ _ h
    · exact h.elim
  | 12, h => by
    simp only [wp1] at h ⊢
    split at h
    · exact hk _ _ _ _ _ h
    · exact h.elim
  | 13, h => by
    simp only [wp1] at h ⊢
    split at h
    · exact hk _ _ _ _ _ h
    · exact h.elim
  | 14, h => by
    simp only [wp1] at h ⊢
    split at h
    · exact hk _ _ _ _ _ h
    · exact h.elim
  | 15, h => by
    simp only [wp1] at h ⊢
    split at h
    · exact hk _ _ _ _ _ h
    · exact h.elim
  | 16, h => by
    simp only [wp1] at h ⊢
    split at h
    · exact hk _ _ _ _ _ h
    · exact h.elim
  | 17, h => by
    simp only [wp1] at h ⊢
    split at h
    · exact ⟨h.1, h.2.1, hk _ _ _ _ _ h.2.2⟩
    · exact h.elim
  | 18, h => by
    simp only [wp1] at h ⊢
    split at h
    · exact ⟨h.1, h.2.1, hk _ _ _ _ _ h.2.2⟩
    · exact h.elim
  | 19, h => by
    simp only [wp1] at h ⊢
    split at h
    · exact hk _ _ _ _ _ h
    · exact h.elim
  | 20, h => by
    simp only [wp1] at h ⊢
    split at h
    · exact hk _ _ _ _ _ h
    · exact h.elim
  | 21, h => by
    simp only [wp1] at h ⊢
    split at h
    · exact hk _ _ _ _ _ h
    · exact h.elim
  | 22, h => by
    simp only [wp1] at h ⊢
    split at h
    · exact hk _ _ _ _ _ h
    · exact h.elim
  | 23, h => by
    simp only [wp1] at h ⊢
    split at h
    · exact hk _ _ _ _ _ h
    · exact h.elim
  | 24, h => by
    exact hk _ _ _ _ _ h
  | 25, h => by
    simp only [wp1] at h ⊢
    split at h
    · exact hk _ _ _ _ _ h
    · exact h.elim
  | 26, h => by
    simp only [wp1] at h ⊢
    split at h
    · exact hk _ _ _ _ _ h
    · exact h.elim
  | 27, h => by
    simp only [wp1] at h ⊢
    split at h
    · exact hk _ _ _ _ _ h
    · exact h.elim
  | 28, h => by
    simp only [wp1] at h ⊢
    split at h
    · exact hk _ _ _ _ _ h
    · exact h.elim
  | 29, h => by
    simp only [wp1] at h ⊢
    split at h
    · exact hk _ _ _ _ _ h
    · exact h.elim
  | 30, h => by
    simp only [wp1] at h ⊢
    split at h
    · exact hk _ _ _ _ _ h
    · exact h.elim
  | 31, h => by
    simp only [wp1] at h ⊢
    split at h
    · exact hk _ _ _ _ _ h
    · exact hk _ _ _ _ _ h
    · exact h.elim
  | 32, h => by
    simp only [wp1] at h ⊢
    split at h
    · exact hk _ _ _ _ _ h
    · exact h.elim
  | 33, h => by
    simp only [wp1] at h ⊢
    split at h
    · exact ⟨h.1, fun q => hk _ _ _ _ _ (h.2.1 q), fun q => hk _ _ _ _ _ (h.2.2 q)⟩
    · exact h.elim
  | 34, h => by
    simp only [wp1] at h ⊢
    split at h
    · exact ⟨h.1, h.2.1, fun q => hk _ _ _ _ _ (h.2.2.1 q), fun q => hk _ _ _ _ _ (h.2.2.2 q)⟩
    · exact h.elim
  | 35, h => by
    exact hk _ _ _ _ _ h
  | 36, h => by
    simp only [wp1] at h ⊢
    split at h
    · rename_i a r lo ts dd hsw
      try simp only [hsw]
      exact ⟨h.1, fun q => hk _ _ _ _ _ (h.2.1 q), fun i t h1 h2 => hk _ _ _ _ _ (h.2.2 i t h1 h2)⟩
    · exact h.elim
  | 37, h => by
    simp only [wp1] at h ⊢
    split at h
    · exact ⟨h.1, hk _ _ _ _ _ h.2⟩
    · exact h.elim
  | 38, h => by
    simp only [wp1] at h ⊢
    split at h
    · exact ⟨h.1, hk _ _ _ _ _ h.2⟩
    · exact h.elim
  | 39, h => by
    simp only [wp1] at h ⊢
    split at h
    · obtain ⟨h1, q, h2, h3⟩ := h
      exact ⟨h1, q, h2, hk _ _ _ _ _ h3⟩
    · exact h.elim
  | 40, h => by
    simp only [wp1] at h ⊢
    split at h
    · exact ⟨h.1, hk _ _ _ _ _ h.2⟩
    · exact h.elim
  | 41, h => by
    simp only [wp1] at h ⊢
    split at h
    · exact ⟨h.1, h.2.1, hk _ _ _ _ _ h.2.2⟩
    · exact h.elim
  | 42, h => by
    simp only [wp1] at h ⊢
    split at h
    · exact ⟨h.1, hk _ _ _ _ _ h.2⟩
    · exact h.elim
  | 43, h => by
    exact hk _ _ _ _ _ h
  | 44, h => by
    simp only [wp1] at h ⊢
    split at h
    · exact ⟨h.1, h.2.1, h.2.2.1, hk _ _ _ _ _ h.2.2.2⟩
    · exact ⟨h.1, h.2.1, h.2.2.1, hk _ _ _ _ _ h.2.2.2⟩
    · exact h.elim
  | 45, h => by
    simp only [wp1] at h ⊢
    split at h
    · exact ⟨h.1, h.2.1, h.2.2.1, hk _ _ _ _ _ h.2.2.2⟩
    · exact h.elim
  | 46, h => by
    simp only [wp1] at h ⊢
    split at h
    · exact ⟨h.1, h.2.1, h.2.2.1, hk _ _ _ _ _ h.2.2.2⟩
    · exact h.elim
  | 47, h => by
    simp only [wp1] at h ⊢
    split at h
    · exact ⟨h.1, h.2.1, h.2.2.1, h.2.2.2.1, hk _ _ _ _ _ h.2.2.2.2⟩
    · exact h.elim
  | 48, h => by
    simp only [wp1] at h ⊢
    split at h
    · exact ⟨h.1, h.2.1, h.2.2.1, hk _ _ _ _ _ h.2.2.2⟩
    · exact h.elim
  | 49, h => by
    simp only [wp1] at h ⊢
    split at h
    · exact ⟨h.1, h.2.1, h.2.2.1, hk _ _ _ _ _ h.2.2.2⟩
    · exact h.elim
  | 50, h => by
    simp only [wp1] at h ⊢
    split at h
    · obtain ⟨h1, h2, h3, h4, q, h5, h6⟩ := h
      exact ⟨h1, h2, h3, h4, q, h5, hk _ _ _ _ _ h6⟩
    · exact h.elim
  | 51, h => by
    simp only [wp1] at h ⊢
    split at h
    · exact ⟨h.1, h.2.1, h.2.2.1, hk _ _ _ _ _ h.2.2.2⟩
    · exact ⟨h.1, hk _ _ _ _ _ h.2⟩
    · exact h.elim
  | 52, h => by
    simp only [wp1] at h ⊢
    exact ⟨h.1, h.2.1, hE _ _ _ _ _ _ (fun _ _ _ q => hk _ _ _ _ _ q) h.2.2⟩
  | 53, h => by
    simp only [wp1] at h ⊢
    refine ⟨h.1, ?_⟩
    have h := h.2
    split at h
    · rename_i r hr
      try simp only [hr]
      exact ⟨h.1, hE _ _ _ _ _ _ (fun _ _ _ q => hk _ _ _ _ _ q) h.2⟩
    · exact h.elim
  | 54, h => by
    simp only [wp1] at h ⊢
    split at h
    · exact ⟨h.1, h.2.1, h.2.2.1, h.2.2.2.1, h.2.2.2.2.1, h.2.2.2.2.2.1, h.2.2.2.2.2.2.1, h.2.2.2.2.2.2.2.1, hk _ _ _ _ _ h.2.2.2.2.2.2.2.2⟩
    · exact h.elim
  | 55, h => by
    simp only [wp1] at h ⊢
    split at h
    · exact hQ _ _ _ h
    · exact h.elim
  | 56, h => by
    simp only [wp1] at h ⊢
    split at h
    · exact ⟨h.1, hQ _ _ _ h.2⟩
    · exact h.elim
  | 57, h => by
    simp only [wp1] at h ⊢
    split at h
    · exact hQ _ _ _ h
    · exact h.elim
  | 58, h => by
    exact h.elim
  | 59, h => by
    exact h.elim
  | 60, h => by
    exact h.elim
  | 61, h => by
    exact h.elim
  | 62, h => by
    exact h.elim
  | 63, h => by
    exact h.elim
  | 64, h => by
    exact h.elim
  | 65, h => by
    simp only [wp1] at h ⊢
    split at h
    · exact ⟨h.1, h.2.1, h.2.2.1, hk _ _ _ _ _ h.2.2.2⟩
    · exact h.elim
  | 66, h => by
    simp only [wp1] at h ⊢
    split at h
    · exact ⟨h.1, h.2.1, h.2.2.1, hk _ _ _ _ _ h.2.2.2⟩
    · exact h.elim
  | op + 67, h => h.elim
theorem go_fold {a : AIns} (hc : cod M pc = some a) (h : wp1 E σ x a pc ls st I J (GoE E σ x M Q) Q) : GoE E σ x M Q pc ls st I J :=
  fun P hP => hP pc ls st I J a (GoE E σ x M Q) hc (fun _ _ _ _ _ hg => hg P hP) h
theorem go_mono {E' : ET} (hE : EMono E E') (hQ : ∀ r I J, Q r I J → Q' r I J) (h : GoE E σ x M Q pc ls st I J) : GoE E' σ x M Q' pc ls st I J :=
  h (GoE E' σ x M Q') (fun pc ls st I J a k hc hk hw => go_fold hc (by
    obtain ⟨op, nx, i, j, c0⟩ := a
    exact wp1_mono hE hk hQ op hw))
theorem go_unfold {a : AIns} (hE : EMono E E) (hc : cod M pc = some a) (h : GoE E σ x M Q pc ls st I J) : wp1 E σ x a pc ls st I J (GoE E σ x M Q) Q := by
  have key : ∃ a, cod M pc = some a ∧ wp1 E σ x a pc ls st I J (GoE E σ x M Q) Q :=
    h (fun pc ls st I J => ∃ a, cod M pc = some a ∧ wp1 E σ x a pc ls st I J (GoE E σ x M Q) Q) (fun pc ls st I J a k hc hk hw => ⟨a, hc, by
      obtain ⟨op, nx, i, j, c0⟩ := a
      refine wp1_mono hE (fun pc ls st I J q => ?_) (fun _ _ _ q => q) op hw
      obtain ⟨a2, h1, h2⟩ := hk _ _ _ _ _ q
      exact go_fold h1 h2⟩)
  obtain ⟨a2, h1, h2⟩ := key
  cases hc.symm.trans h1
  exact h2
theorem ex_mono : ∀ d, EMono (Ex σ x d) (Ex σ x d)
  | 0 => fun _ _ _ _ _ _ _ h => h.elim
  | d + 1 => fun _ _ _ _ _ _ hQ h => ⟨h.1, h.2.1, h.2.2.1, go_mono (ex_mono d) hQ h.2.2.2⟩
theorem ex_up : ∀ d, EMono (Ex σ x d) (Ex σ x (d + 1))
  | 0 => fun _ _ _ _ _ _ _ h => h.elim
  | d + 1 => fun _ _ _ _ _ _ hQ h => ⟨h.1, h.2.1, h.2.2.1, go_mono (ex_up d) hQ h.2.2.2⟩
theorem ex_le {d d' : Nat} (h : d ≤ d') {as : List AV} (hx : Ex σ x d j as I J Q) : Ex σ x d' j as I J Q := by
  obtain ⟨n, rfl⟩ : ∃ n, d' = d + n := ⟨d' - d, by omega⟩
  clear h
  induction n with
  | zero => exact hx
  | succ n ih => exact ex_up (d + n) _ _ _ _ _ _ (fun _ _ _ q => q) ih
/-- the method's code, an instruction a row -/
theorem go_eq {d : Nat} {a : AIns} (hc : cod M pc = some a) : GoE (Ex σ x d) σ x M Q pc ls st I J = wp1 (Ex σ x d) σ x a pc ls st I J (GoE (Ex σ x d) σ x M Q) Q :=
  propext ⟨go_unfold (ex_mono d) hc, go_fold hc⟩
end GOE

