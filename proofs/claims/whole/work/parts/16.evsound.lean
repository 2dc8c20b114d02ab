theorem oi_inst : Cond.instanceMethod objectInit ∈ lw_gd := mem_gd (List.mem_of_getElem? (i := 80) (by decide +kernel)) rfl
theorem oi_code : Cond.code objectInit ⟨#[0xb1]⟩ 1 none ∈ lw_gd := mem_gd (List.mem_of_getElem? (i := 81) (by decide +kernel)) rfl
section STQ
variable {l : Launch} {B : Nat} {ro : Nat → Nat} {cA dC : Nat → ClassId} {dI : Nat → Nat → Nat} {σ : List Sh} {x : RO} {d M : Nat} {E : EvT}
variable {pc : Nat} {ls : LsT} {st : List AV} {I : MI} {J : MJ} {nx i j : Nat} {c0 : Int} {S S' S1 : FS}

theorem v_58 (hM : M < nM) (hcod : cod M pc = some (58, nx, i, j, c0)) (h : ev1 E (58, nx, i, j, c0) (pc, ls, st, σ, I, J) = some S') : StepOk l B ro cA dC dI x d M (pc, ls, st, σ, I, J) S' := by
  obtain ⟨ps, ins, len, hd, hc⟩ := cod_of hM hcod
  simp only [chk1, Bool.and_eq_true, decide_eq_true_eq] at hc
  obtain ⟨rfl, hc⟩ := hc
  split at hc
  · rename_i q
    simp only [decide_eq_true_eq] at hc
    obtain ⟨rfl, hci, hlk⟩ := hc
    simp only [ev1] at h
    rw [if_pos hci] at h
    cases h
    have hgr : GrS σ (σ ++ [.inl (i, dflO i)]) := fun w => ⟨wf_app w (wf_obj1 hci), by rw [List.length_append]; omega, by rw [sz_app]; omega⟩
    refine ⟨hgr, fun p e R s m args below meth c n0 z0 Z C nm hs w hn hz b1 b2 k H locs lsr L D => ?_⟩
    have b1 : (σ ++ [(.inl (i, dflO i) : Sh)]).length - n0 ≤ R.cells := b1
    rw [List.length_append] at b1
    have hn : n0 ≤ σ.length := hn
    have hz : z0 ≤ sz σ := hz
    have b2 : sz (σ ++ [(.inl (i, dflO i) : Sh)]) - z0 ≤ R.slots := b2
    have b3 : sz σ - z0 ≤ R.slots := by rw [sz_app] at b2; omega
    have b1 : σ.length + 1 - n0 ≤ R.cells := b1
    have b4 : σ.length - n0 ≤ R.cells := by omega
    refine a_58 (C.cs b4 b3) hs hn hz D hci (mem_gd (List.mem_of_getElem? hlk) rfl) hd b1 b2 (fun H' D' => ?_)
    have h2 := k H' locs lsr L D'
    simp only [List.length_append] at h2
    exact h2
  · cases hc

theorem v_59 (hM : M < nM) (hcod : cod M pc = some (59, nx, i, j, c0)) (h : ev1 E (59, nx, i, j, c0) (pc, ls, st, σ, I, J) = some S') : StepOk l B ro cA dC dI x d M (pc, ls, st, σ, I, J) S' := by
  obtain ⟨ps, ins, len, hd, hc⟩ := cod_of hM hcod
  simp only [chk1, Bool.and_eq_true, decide_eq_true_eq] at hc
  obtain ⟨rfl, hc⟩ := hc
  split at hc
  · rename_i t
    simp only [decide_eq_true_eq] at hc
    obtain ⟨rfl, hi3, hty⟩ := hc
    simp only [ev1] at h
    split at h
    · rename_i n r
      split at h
      · rename_i hcond
        obtain ⟨hn0, hn1, -⟩ := hcond
        cases h
        have hgr : GrS σ (σ ++ [.inr (.inl (i, n.toNat))]) := fun w => ⟨wf_app w (wf_one ⟨hi3, by omega⟩), by rw [List.length_append]; omega, by rw [sz_app]; omega⟩
        refine ⟨hgr, fun p e R s m args below meth c n0 z0 Z C nm hs w hn hz b1 b2 k H locs lsr L D => ?_⟩
        have b1 : (σ ++ [(.inr (.inl (i, n.toNat)) : Sh)]).length - n0 ≤ R.cells := b1
        rw [List.length_append] at b1
        have hn : n0 ≤ σ.length := hn
        have hz : z0 ≤ sz σ := hz
        have b2 : sz (σ ++ [(.inr (.inl (i, n.toNat)) : Sh)]) - z0 ≤ R.slots := b2
        have b3 : sz σ - z0 ≤ R.slots := by rw [sz_app] at b2; omega
        have b1 : σ.length + 1 - n0 ≤ R.cells := b1
        have hnn : n = (n.toNat : Int) := by omega
        have hgoal := a_59 (n := n.toNat) (st := r) (e := e) (l := l) (below := below) (Z := Z) (lsr := lsr) (C.cs (by omega) b3) hs hn hz D hi3 (by omega) hty hd b1 b2 (fun H' D' => by
          have h2 := k H' locs lsr L D'
          simp only [List.length_append] at h2
          exact h2)
        rw [← hnn] at hgoal
        exact hgoal
      · cases h
    · cases h
  · cases hc

theorem v_60 (hM : M < nM) (hcod : cod M pc = some (60, nx, i, j, c0)) (h : ev1 E (60, nx, i, j, c0) (pc, ls, st, σ, I, J) = some S') : StepOk l B ro cA dC dI x d M (pc, ls, st, σ, I, J) S' := by
  obtain ⟨ps, ins, len, hd, hc⟩ := cod_of hM hcod
  simp only [chk1, Bool.and_eq_true, decide_eq_true_eq] at hc
  obtain ⟨rfl, hc⟩ := hc
  split at hc
  · rename_i q
    simp only [decide_eq_true_eq] at hc
    obtain ⟨rfl, hi3, hi6, hty⟩ := hc
    split at hty
    · rename_i o q2 nn hw
      split at hty
      · rename_i hoq
        obtain ⟨rfl, rfl⟩ := hoq
        have hty := Option.some.inj hty
        simp only [ev1] at h
        split at h
        · rename_i n r
          split at h
          · rename_i hcond
            obtain ⟨hn0, hn1, -⟩ := hcond
            cases h
            have hgr : GrS σ (σ ++ [.inr (.inr (i, List.replicate n.toNat none))]) := fun w => ⟨wf_app w (wf_one ⟨hi3, hi6, by rw [List.length_replicate]; omega⟩), by rw [List.length_append]; omega, by rw [sz_app]; omega⟩
            refine ⟨hgr, fun p e R s m args below meth c n0 z0 Z C nm hs w hn hz b1 b2 k H locs lsr L D => ?_⟩
            have b1 : (σ ++ [(.inr (.inr (i, List.replicate n.toNat none)) : Sh)]).length - n0 ≤ R.cells := b1
            rw [List.length_append] at b1
            have hn : n0 ≤ σ.length := hn
            have hz : z0 ≤ sz σ := hz
            have b2 : sz (σ ++ [(.inr (.inr (i, List.replicate n.toNat none)) : Sh)]) - z0 ≤ R.slots := b2
            have b3 : sz σ - z0 ≤ R.slots := by rw [sz_app] at b2; omega
            have b1 : σ.length + 1 - n0 ≤ R.cells := b1
            have hnn : n = (n.toNat : Int) := by omega
            have hgoal := a_60 (n := n.toNat) (st := r) (e := e) (l := l) (below := below) (Z := Z) (lsr := lsr) (C.cs (by omega) b3) hs hn hz D hi3 hi6 (by omega) hty (mem_gd (List.mem_of_getElem? hw) rfl) hd b1 b2 (fun H' D' => by
              have h2 := k H' locs lsr L D'
              simp only [List.length_append] at h2
              exact h2)
            rw [← hnn] at hgoal
            exact hgoal
          · cases h
        · cases h
      · cases hty
    · cases hty
  · cases hc

theorem v_61 (hM : M < nM) (hcod : cod M pc = some (61, nx, i, j, c0)) (h : ev1 E (61, nx, i, j, c0) (pc, ls, st, σ, I, J) = some S') : StepOk l B ro cA dC dI x d M (pc, ls, st, σ, I, J) S' := by
  obtain ⟨ps, ins, len, hd, hc⟩ := cod_of hM hcod
  simp only [chk1, Bool.and_eq_true, decide_eq_true_eq] at hc
  obtain ⟨rfl, hc⟩ := hc
  split at hc
  · rename_i q
    simp only [Bool.and_eq_true, decide_eq_true_eq] at hc
    obtain ⟨⟨⟨⟨⟨rfl, hf⟩, hty⟩, hfin⟩, hnm0⟩, hown⟩ := hc
    simp only [ev1] at h
    split at h
    · rename_i qv r t
      split at h
      · rename_i ci fs hs0
        split at h
        · rename_i hci
          subst hci
          cases h
          have hgr : GrS σ (σ.set r (.inl (ci, fs.set j (.inr (some qv))))) := fun w => by
            obtain ⟨w1, w2, w3⟩ := w r _ hs0
            refine ⟨wf_set w (wf_one ⟨w1, by rw [List.length_set]; exact w2, fun j2 f2 hf2 => ?_⟩), by rw [List.length_set]; exact Nat.le_refl _, by rw [sz_set hs0 (by show (fs.set j _).length = fs.length; rw [List.length_set])]; exact Nat.le_refl _⟩
            by_cases hj : j = j2
            · subst hj
              have hl : j < fs.length := by have := (List.getElem?_eq_some_iff.mp hf2).1; rwa [List.length_set] at this
              rw [List.getElem?_set_self hl] at hf2
              cases hf2
              exact hty
            · rw [List.getElem?_set_ne hj] at hf2
              exact w3 j2 f2 hf2
          refine ⟨hgr, fun p e R s m args below meth c n0 z0 Z C nm hs w hn hz b1 b2 k H locs lsr L D => ?_⟩
          have e1 : (σ.set r (.inl (ci, fs.set j (.inr (some qv))))).length = σ.length := List.length_set
          have e2 : sz (σ.set r (.inl (ci, fs.set j (.inr (some qv))))) = sz σ := sz_set hs0 (by show (fs.set j _).length = fs.length; rw [List.length_set])
          have b1 : (σ.set r (.inl (ci, fs.set j (.inr (some qv))))).length - n0 ≤ R.cells := b1
          have b2 : sz (σ.set r (.inl (ci, fs.set j (.inr (some qv))))) - z0 ≤ R.slots := b2
          rw [e1] at b1
          rw [e2] at b2
          refine a_61 (C.cs b1 b2) D w hs0 hf hty hfin (nm hnm0) hown hd (fun H' locs' D' => ?_)
          have h2 := k H' locs' lsr L D'
          simp only [e1, e2] at h2
          exact h2
        · cases h
      · cases h
    · cases h
  · cases hc

theorem v_62 (hM : M < nM) (hcod : cod M pc = some (62, nx, i, j, c0)) (h : ev1 E (62, nx, i, j, c0) (pc, ls, st, σ, I, J) = some S') : StepOk l B ro cA dC dI x d M (pc, ls, st, σ, I, J) S' := by
  obtain ⟨ps, ins, len, hd, hc⟩ := cod_of hM hcod
  simp only [chk1, Bool.and_eq_true, decide_eq_true_eq] at hc
  obtain ⟨rfl, hc⟩ := hc
  obtain ⟨rfl, rfl⟩ := hc
  simp only [ev1] at h
  split at h
  · rename_i qv ix r t
    split at h
    · rename_i y rs hs0
      split at h
      · rename_i hcond
        obtain ⟨h0, hlt, hq⟩ := hcond
        cases h
        have hgr : GrS σ (σ.set r (.inr (.inr (y, rs.set ix.toNat (some qv))))) := fun w => by
          obtain ⟨w1, w2, w3⟩ := w r _ hs0
          exact ⟨wf_set w (wf_one ⟨w1, w2, by rw [List.length_set]; exact w3⟩), by rw [List.length_set]; exact Nat.le_refl _, by rw [sz_set hs0 (by show (rs.set _ _).length = rs.length; rw [List.length_set])]; exact Nat.le_refl _⟩
        refine ⟨hgr, fun p e R s m args below meth c n0 z0 Z C nm hs w hn hz b1 b2 k H locs lsr L D => ?_⟩
        have e1 : (σ.set r (.inr (.inr (y, rs.set ix.toNat (some qv))))).length = σ.length := List.length_set
        have e2 : sz (σ.set r (.inr (.inr (y, rs.set ix.toNat (some qv))))) = sz σ := sz_set hs0 (by show (rs.set _ _).length = rs.length; rw [List.length_set])
        have b1 : (σ.set r (.inr (.inr (y, rs.set ix.toNat (some qv))))).length - n0 ≤ R.cells := b1
        have b2 : sz (σ.set r (.inr (.inr (y, rs.set ix.toNat (some qv))))) - z0 ≤ R.slots := b2
        rw [e1] at b1
        rw [e2] at b2
        refine a_62 (C.cs b1 b2) D w hs0 h0 hlt hq hd (fun H' locs' D' => ?_)
        have h2 := k H' locs' lsr L D'
        simp only [e1, e2] at h2
        exact h2
      · cases h
    · cases h
  · cases h

theorem v_64 (hM : M < nM) (hcod : cod M pc = some (64, nx, i, j, c0)) (h : ev1 E (64, nx, i, j, c0) (pc, ls, st, σ, I, J) = some S') : StepOk l B ro cA dC dI x d M (pc, ls, st, σ, I, J) S' := by
  obtain ⟨ps, ins, len, hd, hc⟩ := cod_of hM hcod
  simp only [chk1, Bool.and_eq_true, decide_eq_true_eq] at hc
  obtain ⟨rfl, hc⟩ := hc
  split at hc
  · rename_i q
    simp only [Bool.and_eq_true, decide_eq_true_eq] at hc
    obtain ⟨rfl, hlk⟩ := hc
    simp only [ev1] at h
    split at h
    · rename_i r t
      split at h
      · rename_i hcat
        cases h
        have hgr : GrS σ σ := GrS.rf σ
        refine ⟨hgr, fun p e R s m args below meth c n0 z0 Z C nm hs w hn hz b1 b2 k H locs lsr L D => ?_⟩
        have C := C.cs b1 b2
        have hR := C.2.2.2.2.2.2.2.2.1
        refine W.objInit C.1 C.2.1 C.2.2.2.2.1 (C.2.2.2.2.2.1 _ (mem_gd (List.mem_of_getElem? hlk) rfl)) (C.2.2.2.2.2.1 _ oi_inst) (C.2.2.2.2.2.1 _ oi_code) rfl (L.1.trans C.2.2.2.1.symm) (a := B + r) (rest := t.map (cv B ro)) rfl hd (by have := C.2.2.2.2.2.2.2.1; omega) ?_ (k H locs lsr L D)
        have h9 : 2 * (F0 m pc lsr (List.map (cv B ro) (Sum.inr (Sum.inr (Sum.inl r)) :: t))).monitorRoom + ((t.map (cv B ro)).map fun v => v.category).sum ≤ 8 := lv_room (by rw [catS_cv]; exact hcat)
        show 2 * (F0 m pc lsr (List.map (cv B ro) (Sum.inr (Sum.inr (Sum.inl r)) :: t))).monitorRoom + ((t.map (cv B ro)).map fun v => v.category).sum + 12 ≤ R.locals
        omega
      · cases h
    · cases h
  · cases hc

set_option maxHeartbeats 4000000 in
theorem step_ok (he : HE l B ro cA dC dI x d E) (hro : ∀ t, t < 4 → ∀ z : Int, z < (roA x t).1 → z < 2147483648) (hM : M < nM) : ∀ op, cod M pc = some (op, nx, i, j, c0) → ev1 E (op, nx, i, j, c0) (pc, ls, st, σ, I, J) = some S' → StepOk l B ro cA dC dI x d M (pc, ls, st, σ, I, J) S'
  | 0, hcod, h => by
    simp only [ev1] at h
    cases h
    exact stepI hro hM hcod ⟨rfl, rfl, rfl, rfl, rfl⟩
  | 1, hcod, h => by
    simp only [ev1] at h
    split at h
    · rename_i v hv
      cases h
      exact stepI hro hM hcod (by simp only [wp1, hv]; exact ⟨trivial, trivial, trivial, trivial, trivial⟩)
    · cases h
  | 2, hcod, h => by
    simp only [ev1] at h
    split at h
    · rename_i v hv
      cases h
      exact stepI hro hM hcod (by simp only [wp1, hv]; exact ⟨trivial, trivial, trivial, trivial, trivial⟩)
    · cases h
  | 3, _, h => by simp only [ev1] at h; cases h
  | 4, hcod, h => by
    simp only [ev1] at h
    split at h
    · split at h
      · rename_i hc
        cases h
        exact stepI hro hM hcod ⟨hc.1, hc.2, rfl, rfl, rfl, rfl, rfl⟩
      · cases h
    · cases h
  | 5, hcod, h => by
    simp only [ev1] at h
    split at h
    · split at h
      · rename_i hc
        cases h
        exact stepI hro hM hcod ⟨hc.1, hc.2, rfl, rfl, rfl, rfl, rfl⟩
      · cases h
    · cases h
  | 6, _, h => by simp only [ev1] at h; cases h
  | 7, hcod, h => by
    simp only [ev1] at h
    split at h
    · rename_i v hv
      split at h
      · rename_i hc
        cases h
        exact stepI hro hM hcod (by simp only [wp1, hv]; exact ⟨hc, trivial, trivial, trivial, trivial, trivial⟩)
      · cases h
    · cases h
  | 8, _, h => by simp only [ev1] at h; cases h
  | 9, _, h => by simp only [ev1] at h; cases h
  | 10, _, h => by simp only [ev1] at h; cases h
  | 11, _, h => by simp only [ev1] at h; cases h
  | 12, _, h => by simp only [ev1] at h; cases h
  | 13, _, h => by simp only [ev1] at h; cases h
  | 14, _, h => by simp only [ev1] at h; cases h
  | 15, _, h => by simp only [ev1] at h; cases h
  | 16, _, h => by simp only [ev1] at h; cases h
  | 17, _, h => by simp only [ev1] at h; cases h
  | 18, _, h => by simp only [ev1] at h; cases h
  | 19, _, h => by simp only [ev1] at h; cases h
  | 20, _, h => by simp only [ev1] at h; cases h
  | 21, _, h => by simp only [ev1] at h; cases h
  | 22, _, h => by simp only [ev1] at h; cases h
  | 23, _, h => by simp only [ev1] at h; cases h
  | 24, hcod, h => by
    simp only [ev1] at h
    cases h
    exact stepI hro hM hcod ⟨rfl, rfl, rfl, rfl, rfl⟩
  | 25, _, h => by simp only [ev1] at h; cases h
  | 26, _, h => by simp only [ev1] at h; cases h
  | 27, _, h => by simp only [ev1] at h; cases h
  | 28, _, h => by simp only [ev1] at h; cases h
  | 29, _, h => by simp only [ev1] at h; cases h
  | 30, _, h => by simp only [ev1] at h; cases h
  | 31, hcod, h => by
    simp only [ev1] at h
    split at h
    · cases h
      exact stepI hro hM hcod ⟨rfl, rfl, rfl, rfl, rfl⟩
    · cases h
  | 32, _, h => by simp only [ev1] at h; cases h
  | 33, hcod, h => by
    simp only [ev1] at h
    split at h
    · split at h
      · rename_i hr
        split at h
        · rename_i hc
          cases h
          exact stepI hro hM hcod ⟨inRb_iff.mp hr, fun _ => ⟨rfl, rfl, rfl, rfl, rfl⟩, fun q => absurd ((cmpB_iff _ _ _).mp hc) q⟩
        · rename_i hc
          cases h
          exact stepI hro hM hcod ⟨inRb_iff.mp hr, fun q => absurd ((cmpB_iff _ _ _).mpr q) hc, fun _ => ⟨rfl, rfl, rfl, rfl, rfl⟩⟩
      · cases h
    · cases h
  | 34, hcod, h => by
    simp only [ev1] at h
    split at h
    · split at h
      · rename_i hr
        split at h
        · rename_i hc
          cases h
          exact stepI hro hM hcod ⟨inRb_iff.mp hr.1, inRb_iff.mp hr.2, fun _ => ⟨rfl, rfl, rfl, rfl, rfl⟩, fun q => absurd ((cmpB_iff _ _ _).mp hc) q⟩
        · rename_i hc
          cases h
          exact stepI hro hM hcod ⟨inRb_iff.mp hr.1, inRb_iff.mp hr.2, fun q => absurd ((cmpB_iff _ _ _).mpr q) hc, fun _ => ⟨rfl, rfl, rfl, rfl, rfl⟩⟩
      · cases h
    · cases h
  | 35, hcod, h => by
    simp only [ev1] at h
    cases h
    exact stepI hro hM hcod ⟨rfl, rfl, rfl, rfl, rfl⟩
  | 36, _, h => by simp only [ev1] at h; cases h
  | 37, _, h => by simp only [ev1] at h; cases h
  | 38, _, h => by simp only [ev1] at h; cases h
  | 39, hcod, h => by
    simp only [ev1] at h
    split at h
    · split at h
      · rename_i hc
        split at h
        · rename_i q hq
          cases h
          exact stepI hro hM hcod ⟨hc, q, hq, rfl, rfl, rfl, rfl, rfl⟩
        · cases h
      · cases h
    · cases h
  | 40, hcod, h => by
    simp only [ev1] at h
    split at h
    · split at h
      · rename_i hc
        cases h
        exact stepI hro hM hcod ⟨hc, rfl, rfl, rfl, rfl, rfl⟩
      · cases h
    · cases h
  | 41, hcod, h => by
    simp only [ev1] at h
    split at h
    · split at h
      · rename_i hc
        cases h
        exact stepI hro hM hcod ⟨hc.1, hc.2, rfl, rfl, rfl, rfl, rfl⟩
      · cases h
    · cases h
  | 42, hcod, h => by
    simp only [ev1] at h
    split at h
    · split at h
      · rename_i hc
        cases h
        exact stepI hro hM hcod ⟨hc, rfl, rfl, rfl, rfl, rfl⟩
      · cases h
    · cases h
  | 43, _, h => by simp only [ev1] at h; cases h
  | 44, hcod, h => by
    simp only [ev1] at h
    split at h
    · split at h
      · rename_i hc
        cases h
        exact stepI hro hM hcod ⟨hc.1, hc.2.1, hc.2.2, rfl, rfl, rfl, rfl, rfl⟩
      · cases h
    · cases h
  | 45, hcod, h => by
    simp only [ev1] at h
    split at h
    · split at h
      · rename_i hc
        cases h
        exact stepI hro hM hcod ⟨hc.1, hc.2.1, hc.2.2, rfl, rfl, rfl, rfl, rfl⟩
      · cases h
    · cases h
  | 46, _, h => by simp only [ev1] at h; cases h
  | 47, _, h => by simp only [ev1] at h; cases h
  | 48, _, h => by simp only [ev1] at h; cases h
  | 49, _, h => by simp only [ev1] at h; cases h
  | 50, _, h => by simp only [ev1] at h; cases h
  | 51, _, h => by simp only [ev1] at h; cases h
  | 52, hcod, h => v_52 he hM hcod h
  | 53, hcod, h => v_53 he hM hcod h
  | 54, _, h => by simp only [ev1] at h; cases h
  | 55, _, h => by simp only [ev1] at h; cases h
  | 56, _, h => by simp only [ev1] at h; cases h
  | 57, _, h => by simp only [ev1] at h; cases h
  | 58, hcod, h => v_58 hM hcod h
  | 59, hcod, h => v_59 hM hcod h
  | 60, hcod, h => v_60 hM hcod h
  | 61, hcod, h => v_61 hM hcod h
  | 62, hcod, h => v_62 hM hcod h
  | 63, hcod, h => v_63 he hM hcod h
  | 64, hcod, h => v_64 hM hcod h
  | op + 65, _, h => by simp only [ev1] at h; cases h
theorem evS_ok (he : HE l B ro cA dC dI x d E) (hro : ∀ t, t < 4 → ∀ z : Int, z < (roA x t).1 → z < 2147483648) (hM : M < nM) : ∀ (n : Nat) (S S' : FS), evS E M n S = some S' → StepOk l B ro cA dC dI x d M S S' ∧ ∃ a, cod M S'.1 = some a ∧ stopB M a S'.1 = true
  | 0, S, S', h => by simp [evS] at h
  | n + 1, S, S', h => by
    unfold evS at h
    split at h
    · cases h
    · rename_i a hcod
      split at h
      · rename_i hst
        cases h
        exact ⟨StepOk.rf, a, hcod, hst⟩
      · split at h
        · rename_i S1 hev
          obtain ⟨h1, h2⟩ := evS_ok he hro hM n S1 S' h
          obtain ⟨pc, ls, st, σ, I, J⟩ := S
          obtain ⟨op, nx, i, j, c0⟩ := a
          exact ⟨(step_ok he hro hM op hcod hev).tr h1, h2⟩
        · cases h
theorem evM_ok (N : Nat) (hro : ∀ t, t < 4 → ∀ z : Int, z < (roA x t).1 → z < 2147483648) : ∀ d, HE l B ro cA dC dI x d (evM N d)
  | 0 => fun j as σ I J r σ' I' J' h => by simp [evM] at h
  | d + 1 => fun j as σ I J r σ' I' J' h => by
    unfold evM at h
    split at h
    · rename_i hcond
      obtain ⟨hj, hc1, hlen⟩ := hcond
      split at h
      · rename_i S hev
        have hjM : j < nM := Nat.lt_of_succ_lt hj
        obtain ⟨⟨hgr, hst⟩, -⟩ := evS_ok (M := j) (evM_ok N hro d) hro hjM N _ S hev
        obtain ⟨pcE, lsE, stE, σE, IE, JE⟩ := S
        have hend : σE = σ' ∧ IE = I' ∧ JE = J' ∧ stE = r.toList ∧ ∃ nx i jj c0, (cod j pcE = some (57, nx, i, jj, c0) ∧ r = none) ∨ (cod j pcE = some (56, nx, i, jj, c0) ∧ ∃ v, r = some (.inl v) ∧ ret01 v) := by
          unfold endM at h
          simp only at h
          split at h
          · rename_i hcod
            split at h
            · cases h
              exact ⟨rfl, rfl, rfl, rfl, _, _, _, _, Or.inl ⟨hcod, rfl⟩⟩
            · cases h
          · rename_i hcod
            split at h
            · rename_i v
              split at h
              · rename_i h01
                cases h
                exact ⟨rfl, rfl, rfl, rfl, _, _, _, _, Or.inr ⟨hcod, v, rfl, h01⟩⟩
              · cases h
            · cases h
          · cases h
        obtain ⟨rfl, rfl, rfl, rfl, nx, i0, jj, c0, hlast⟩ := hend
        refine ⟨hgr, fun w => ?_⟩
        obtain ⟨w', p1, p2⟩ := hgr w
        have p1 : σ.length ≤ σE.length := p1
        have p2 : sz σ ≤ sz σE := p2
        obtain ⟨m1, m2, m3, m4, m5, m6, m7, -, -, -⟩ := mth_of hj
        refine Met.ofW (cc := (MR j).2.1) (maxL := (MR j).2.2.1) (ret := (MR j).2.2.2.1) m3 rfl ?_
        intro p e s m args below meth c s₁ Bd hml hv
        obtain ⟨⟨rfl, hK, hR, hNw, hP⟩, hhs⟩ := hv
        have hts := atoms_spec (ws := wsM j) Bd.pre
        have hown : s.vm.findClass (RR (MR j).2.2.2.2.1) = some m.cls := by rw [← m6]; exact findClass_of_methodNamed Bd.named
        have hnm : (Y j).name = "<init>" → meth.name = "<init>" := fun q => (name_of_methodNamed Bd.named Bd.method).1.trans q
        rw [lg_entry_eq]
        have hl := lv_entry (as.map (cv B ro)) (n := (MR j).2.2.1) (by rw [sl_len as hc1]; exact hlen)
        have hL : LoR B ro ((lg_sl (as.map (cv B ro)) ++ List.replicate ((MR j).2.2.1 - (lg_sl (as.map (cv B ro))).length) Slot.unset).toArray) (MR j).2.2.1 (lsOf (MR j).2.2.1 as) := by
          refine ⟨hl.1, ?_, hl.2.1, fun i v hi => ?_⟩
          · unfold lsOf
            rw [List.length_append, List.length_map, List.length_replicate]; omega
          · unfold lsOf at hi
            by_cases hlt : i < as.length
            · rw [List.getElem?_append_left (by rw [List.length_map]; exact hlt), List.getElem?_map] at hi
              cases ha : as[i]? with
              | none => rw [ha] at hi; cases hi
              | some u =>
                rw [ha] at hi
                simp only [Option.map_some, Option.some.injEq] at hi
                subst hi
                have := args_in (B := B) (ro := ro) as 0 i u hc1 ha
                rw [Nat.zero_add] at this
                exact hl.2.2 _ this
            · rw [List.getElem?_append_right (by rw [List.length_map]; omega)] at hi
              have := List.mem_of_getElem? hi
              rw [List.mem_replicate] at this
              cases this.2
        have hC : Cx B ro cA dC dI x d j p (headSpec (wsM j) (rmA (d + 1) (σE.length - σ.length) (sz σE - sz σ))).room s m (List.map (cv B ro) as).toArray meth c 0 0 := ⟨Bd.exec, Bd.bytes, Bd.returns, hml, hown, fun w hw => hts w (List.mem_cons_of_mem _ hw), Bd.notSynchronized, Nat.le_refl _, Nat.le_refl _, Nat.zero_le _, Nat.zero_le _, hK, hR, hNw⟩
        have hwa := hst p e (headSpec (wsM j) (rmA (d + 1) (σE.length - σ.length) (sz σE - sz σ))).room s m (List.map (cv B ro) as).toArray below meth c σ.length (sz σ) (MQ below (QcA B ro cA dC dI r σE IE JE) (List.map (cv B ro) as).toArray s (σE.length - σ.length) (sz σE - sz σ) (fun q => B ≤ q)) hC hnm hhs w (Nat.le_refl _) (Nat.le_refl _) (Nat.le_refl _) (Nat.le_refl _) ?_ s.heap [] _ hL ⟨hP, va_S.rf⟩
        · have hwa2 : W p l e (headSpec (wsM j) (rmA (d + 1) (σE.length - σ.length) (sz σE - sz σ))).room s m (List.map (cv B ro) as).toArray below meth c s.heap [] (σ.length - σ.length) (sz σ - sz σ) _ _ := hwa
          rw [Nat.sub_self, Nat.sub_self] at hwa2
          exact hwa2
        · intro H' locs' lsr' L' D'
          rcases hlast with ⟨hcod, rfl⟩ | ⟨hcod, v, rfl, h01⟩
          · obtain ⟨ps, ins, len, hdd, hcc⟩ := cod_of hjM hcod
            simp only [chk1, Bool.and_eq_true, decide_eq_true_eq] at hcc
            obtain ⟨-, rfl, rfl, hret⟩ := hcc
            exact W.vret Bd.exec Bd.bytes (Bd.returns.trans hret) (fun t ht hW => ⟨⟨rfl, by rw [ht]; exact D'.1⟩, D'.2.F ht⟩) (fun q hq => D'.2.2.2 q hq) hdd Bd.notSynchronized
          · obtain ⟨ps, ins, len, hdd, hcc⟩ := cod_of hjM hcod
            simp only [chk1, Bool.and_eq_true, decide_eq_true_eq] at hcc
            obtain ⟨-, rfl, rfl, hret⟩ := hcc
            exact W.zret Bd.exec Bd.bytes (Bd.returns.trans hret) (by rcases h01 with rfl | rfl <;> rfl) (fun t ht hW => ⟨⟨rfl, by rw [ht]; exact D'.1⟩, D'.2.F ht⟩) (fun q hq => D'.2.2.2 q hq) hdd Bd.notSynchronized
      · cases h
    · cases h
end STQ
