section RUL
variable {l : Launch} {B : Nat} {ro : Nat → Nat} {cA dC : Nat → ClassId} {dI : Nat → Nat → Nat} {σ : List Sh} {x : RO} {d M : Nat} {Q : QT}
variable {p : Program} {e : Env} {R : Room} {s : State} {m : MethodId} {args : Array Value} {below : List Frame} {meth : Method} {c : Code} {H : Heap} {locs : List Loc} {cells slots : Nat} {Z : State → Prop} {lsr : Array Slot}
variable {pc : Nat} {ls : LsT} {st : List AV} {I : MI} {J : MJ} {k : KT} {nx i j ps len : Nat} {c0 : Int} {ins : Instr}
theorem s_0 (C : Cx B ro cA dC dI x d M p R s m args meth c cells slots) (L : LoR B ro lsr (MR M).2.2.1 ls) (D : Wd B cA dC dI σ I J s H locs) (rt : Rt l B cA dC dI σ M Q p e R s m args below meth c cells slots Z)
    (hd : decode (MR M).2.1 pc = .ok (ins, len)) (hc : chk1 M pc (0, nx, i, j, c0) ps ins len = true)
    (go : ∀ pc' ls' st' I' J' H' locs' lsr', k pc' ls' st' I' J' → LoR B ro lsr' (MR M).2.2.1 ls' → Wd B cA dC dI σ I' J' s H' locs' → W p l e R s m args below meth c H' locs' cells slots Z (F0 m pc' lsr' (st'.map (cv B ro))))
    (h : wp1 (Ex σ x d) σ x (0, nx, i, j, c0) pc ls st I J k Q) : W p l e R s m args below meth c H locs cells slots Z (F0 m pc lsr (st.map (cv B ro))) := by
  simp only [chk1, Bool.and_eq_true, decide_eq_true_eq] at hc
  obtain ⟨rfl, hc⟩ := hc
  simp only [wp1] at h
  split at hc
  · simp only [decide_eq_true_eq] at hc
    obtain ⟨rfl, rfl⟩ := hc
    exact lv_iconst C.1 C.2.1 hd rfl (go _ _ _ _ _ _ _ _ h L D)
  · simp only [decide_eq_true_eq] at hc
    obtain ⟨rfl, rfl, e⟩ := hc
    exact lv_bipush C.1 C.2.1 hd e (go _ _ _ _ _ _ _ _ h L D)
  · simp only [decide_eq_true_eq] at hc
    obtain ⟨rfl, rfl, e⟩ := hc
    exact lv_sipush C.1 C.2.1 hd e (go _ _ _ _ _ _ _ _ h L D)
  · simp only [decide_eq_true_eq] at hc
    obtain ⟨rfl, e⟩ := hc
    exact lv_ldc C.1 C.2.1 C.2.2.2.2.1 (C.2.2.2.2.2.1 _ (mem_gd (List.mem_of_getElem? e) rfl)) hd (go _ _ _ _ _ _ _ _ h L D)
  · simp only [decide_eq_true_eq] at hc
    obtain ⟨rfl, e⟩ := hc
    exact lv_ldcw C.1 C.2.1 C.2.2.2.2.1 (C.2.2.2.2.2.1 _ (mem_gd (List.mem_of_getElem? e) rfl)) hd (go _ _ _ _ _ _ _ _ h L D)
  · cases hc

theorem s_1 (C : Cx B ro cA dC dI x d M p R s m args meth c cells slots) (L : LoR B ro lsr (MR M).2.2.1 ls) (D : Wd B cA dC dI σ I J s H locs) (rt : Rt l B cA dC dI σ M Q p e R s m args below meth c cells slots Z)
    (hd : decode (MR M).2.1 pc = .ok (ins, len)) (hc : chk1 M pc (1, nx, i, j, c0) ps ins len = true)
    (go : ∀ pc' ls' st' I' J' H' locs' lsr', k pc' ls' st' I' J' → LoR B ro lsr' (MR M).2.2.1 ls' → Wd B cA dC dI σ I' J' s H' locs' → W p l e R s m args below meth c H' locs' cells slots Z (F0 m pc' lsr' (st'.map (cv B ro))))
    (h : wp1 (Ex σ x d) σ x (1, nx, i, j, c0) pc ls st I J k Q) : W p l e R s m args below meth c H locs cells slots Z (F0 m pc lsr (st.map (cv B ro))) := by
  simp only [chk1, Bool.and_eq_true, decide_eq_true_eq] at hc
  obtain ⟨rfl, hc⟩ := hc
  simp only [wp1] at h
  split at h
  · rename_i v hv
    have hl := L.2.2.2 i _ hv
    split at hc
    · simp only [decide_eq_true_eq] at hc
      obtain ⟨hf, rfl⟩ := hc
      exact lv_iload_n C.1 C.2.1 hd hf hl (go _ _ _ _ _ _ _ _ h L D)
    · simp only [decide_eq_true_eq] at hc
      obtain ⟨rfl, rfl⟩ := hc
      exact lv_iload C.1 C.2.1 hd hl (go _ _ _ _ _ _ _ _ h L D)
    · cases hc
  · cases h

theorem s_2 (C : Cx B ro cA dC dI x d M p R s m args meth c cells slots) (L : LoR B ro lsr (MR M).2.2.1 ls) (D : Wd B cA dC dI σ I J s H locs) (rt : Rt l B cA dC dI σ M Q p e R s m args below meth c cells slots Z)
    (hd : decode (MR M).2.1 pc = .ok (ins, len)) (hc : chk1 M pc (2, nx, i, j, c0) ps ins len = true)
    (go : ∀ pc' ls' st' I' J' H' locs' lsr', k pc' ls' st' I' J' → LoR B ro lsr' (MR M).2.2.1 ls' → Wd B cA dC dI σ I' J' s H' locs' → W p l e R s m args below meth c H' locs' cells slots Z (F0 m pc' lsr' (st'.map (cv B ro))))
    (h : wp1 (Ex σ x d) σ x (2, nx, i, j, c0) pc ls st I J k Q) : W p l e R s m args below meth c H locs cells slots Z (F0 m pc lsr (st.map (cv B ro))) := by
  simp only [chk1, Bool.and_eq_true, decide_eq_true_eq] at hc
  obtain ⟨rfl, hc⟩ := hc
  simp only [wp1] at h
  split at h
  · rename_i v hv
    have hl := L.2.2.2 i _ hv
    split at hc
    · simp only [decide_eq_true_eq] at hc
      obtain ⟨hf, rfl⟩ := hc
      rcases v with v | v
      · exact lv_aload_n C.1 C.2.1 hd hf hl (go _ _ _ _ _ _ _ _ h L D)
      · exact lv_aload_n C.1 C.2.1 hd hf hl (go _ _ _ _ _ _ _ _ h L D)
    · simp only [decide_eq_true_eq] at hc
      obtain ⟨rfl, rfl⟩ := hc
      rcases v with v | v
      · exact lv_aload C.1 C.2.1 hd hl (go _ _ _ _ _ _ _ _ h L D)
      · exact lv_aload C.1 C.2.1 hd hl (go _ _ _ _ _ _ _ _ h L D)
    · cases hc
  · cases h

theorem s_3 (C : Cx B ro cA dC dI x d M p R s m args meth c cells slots) (L : LoR B ro lsr (MR M).2.2.1 ls) (D : Wd B cA dC dI σ I J s H locs) (rt : Rt l B cA dC dI σ M Q p e R s m args below meth c cells slots Z)
    (hd : decode (MR M).2.1 pc = .ok (ins, len)) (hc : chk1 M pc (3, nx, i, j, c0) ps ins len = true)
    (go : ∀ pc' ls' st' I' J' H' locs' lsr', k pc' ls' st' I' J' → LoR B ro lsr' (MR M).2.2.1 ls' → Wd B cA dC dI σ I' J' s H' locs' → W p l e R s m args below meth c H' locs' cells slots Z (F0 m pc' lsr' (st'.map (cv B ro))))
    (h : wp1 (Ex σ x d) σ x (3, nx, i, j, c0) pc ls st I J k Q) : W p l e R s m args below meth c H locs cells slots Z (F0 m pc lsr (st.map (cv B ro))) := by
  simp only [chk1, Bool.and_eq_true, decide_eq_true_eq] at hc
  obtain ⟨rfl, hc⟩ := hc
  simp only [wp1] at h
  split at h
  · rename_i v hv
    have hl := L.2.2.2 i _ hv
    split at hc
    · simp only [decide_eq_true_eq] at hc
      obtain ⟨hf, rfl⟩ := hc
      exact lv_lload_n C.1 C.2.1 hd hf hl (go _ _ _ _ _ _ _ _ h L D)
    · simp only [decide_eq_true_eq] at hc
      obtain ⟨rfl, rfl⟩ := hc
      exact lv_lload C.1 C.2.1 hd hl (go _ _ _ _ _ _ _ _ h L D)
    · cases hc
  · cases h

theorem s_4 (C : Cx B ro cA dC dI x d M p R s m args meth c cells slots) (L : LoR B ro lsr (MR M).2.2.1 ls) (D : Wd B cA dC dI σ I J s H locs) (rt : Rt l B cA dC dI σ M Q p e R s m args below meth c cells slots Z)
    (hd : decode (MR M).2.1 pc = .ok (ins, len)) (hc : chk1 M pc (4, nx, i, j, c0) ps ins len = true)
    (go : ∀ pc' ls' st' I' J' H' locs' lsr', k pc' ls' st' I' J' → LoR B ro lsr' (MR M).2.2.1 ls' → Wd B cA dC dI σ I' J' s H' locs' → W p l e R s m args below meth c H' locs' cells slots Z (F0 m pc' lsr' (st'.map (cv B ro))))
    (h : wp1 (Ex σ x d) σ x (4, nx, i, j, c0) pc ls st I J k Q) : W p l e R s m args below meth c H locs cells slots Z (F0 m pc lsr (st.map (cv B ro))) := by
  simp only [chk1, Bool.and_eq_true, decide_eq_true_eq] at hc
  obtain ⟨rfl, hc⟩ := hc
  simp only [wp1] at h
  split at h
  · rename_i v r
    obtain ⟨hnl, hn, h⟩ := h
    split at hc
    · simp only [decide_eq_true_eq] at hc
      obtain ⟨hf, rfl⟩ := hc
      exact lv_istore_n C.1 C.2.1 hd hf (LR_has L) (L.2.1 ▸ hn) rfl (fun ls' hl' => go _ _ _ _ _ _ _ _ h (LR_set L.2.1 hnl hl') D)
    · simp only [decide_eq_true_eq] at hc
      obtain ⟨rfl, rfl⟩ := hc
      exact lv_istore C.1 C.2.1 hd (LR_has L) (L.2.1 ▸ hn) rfl (fun ls' hl' => go _ _ _ _ _ _ _ _ h (LR_set L.2.1 hnl hl') D)
    · cases hc
  · cases h

theorem s_5 (C : Cx B ro cA dC dI x d M p R s m args meth c cells slots) (L : LoR B ro lsr (MR M).2.2.1 ls) (D : Wd B cA dC dI σ I J s H locs) (rt : Rt l B cA dC dI σ M Q p e R s m args below meth c cells slots Z)
    (hd : decode (MR M).2.1 pc = .ok (ins, len)) (hc : chk1 M pc (5, nx, i, j, c0) ps ins len = true)
    (go : ∀ pc' ls' st' I' J' H' locs' lsr', k pc' ls' st' I' J' → LoR B ro lsr' (MR M).2.2.1 ls' → Wd B cA dC dI σ I' J' s H' locs' → W p l e R s m args below meth c H' locs' cells slots Z (F0 m pc' lsr' (st'.map (cv B ro))))
    (h : wp1 (Ex σ x d) σ x (5, nx, i, j, c0) pc ls st I J k Q) : W p l e R s m args below meth c H locs cells slots Z (F0 m pc lsr (st.map (cv B ro))) := by
  simp only [chk1, Bool.and_eq_true, decide_eq_true_eq] at hc
  obtain ⟨rfl, hc⟩ := hc
  simp only [wp1] at h
  split at h
  · rename_i v r
    obtain ⟨hnl, hn, h⟩ := h
    rcases v with v | v
    · split at hc
      · simp only [decide_eq_true_eq] at hc
        obtain ⟨hf, rfl⟩ := hc
        exact lv_astore_n C.1 C.2.1 hd hf (LR_has L) (L.2.1 ▸ hn) rfl (fun ls' hl' => go _ _ _ _ _ _ _ _ h (LR_set L.2.1 hnl hl') D)
      · simp only [decide_eq_true_eq] at hc
        obtain ⟨rfl, rfl⟩ := hc
        exact lv_astore C.1 C.2.1 hd (LR_has L) (L.2.1 ▸ hn) rfl (fun ls' hl' => go _ _ _ _ _ _ _ _ h (LR_set L.2.1 hnl hl') D)
      · cases hc
    · split at hc
      · simp only [decide_eq_true_eq] at hc
        obtain ⟨hf, rfl⟩ := hc
        exact lv_astore_n C.1 C.2.1 hd hf (LR_has L) (L.2.1 ▸ hn) rfl (fun ls' hl' => go _ _ _ _ _ _ _ _ h (LR_set L.2.1 hnl hl') D)
      · simp only [decide_eq_true_eq] at hc
        obtain ⟨rfl, rfl⟩ := hc
        exact lv_astore C.1 C.2.1 hd (LR_has L) (L.2.1 ▸ hn) rfl (fun ls' hl' => go _ _ _ _ _ _ _ _ h (LR_set L.2.1 hnl hl') D)
      · cases hc
  · cases h

theorem s_6 (C : Cx B ro cA dC dI x d M p R s m args meth c cells slots) (L : LoR B ro lsr (MR M).2.2.1 ls) (D : Wd B cA dC dI σ I J s H locs) (rt : Rt l B cA dC dI σ M Q p e R s m args below meth c cells slots Z)
    (hd : decode (MR M).2.1 pc = .ok (ins, len)) (hc : chk1 M pc (6, nx, i, j, c0) ps ins len = true)
    (go : ∀ pc' ls' st' I' J' H' locs' lsr', k pc' ls' st' I' J' → LoR B ro lsr' (MR M).2.2.1 ls' → Wd B cA dC dI σ I' J' s H' locs' → W p l e R s m args below meth c H' locs' cells slots Z (F0 m pc' lsr' (st'.map (cv B ro))))
    (h : wp1 (Ex σ x d) σ x (6, nx, i, j, c0) pc ls st I J k Q) : W p l e R s m args below meth c H locs cells slots Z (F0 m pc lsr (st.map (cv B ro))) := by
  simp only [chk1, Bool.and_eq_true, decide_eq_true_eq] at hc
  obtain ⟨rfl, hc⟩ := hc
  simp only [wp1] at h
  split at h
  · rename_i v r
    obtain ⟨hnl, hn, h⟩ := h
    split at hc
    · simp only [decide_eq_true_eq] at hc
      obtain ⟨hf, rfl⟩ := hc
      exact lv_lstore_n C.1 C.2.1 hd hf (LR_has L) (L.2.1 ▸ hn) rfl (fun ls' hl' => go _ _ _ _ _ _ _ _ h (LR_set2 L.2.1 hnl hl') D)
    · simp only [decide_eq_true_eq] at hc
      obtain ⟨rfl, rfl⟩ := hc
      exact lv_lstore C.1 C.2.1 hd (LR_has L) (L.2.1 ▸ hn) rfl (fun ls' hl' => go _ _ _ _ _ _ _ _ h (LR_set2 L.2.1 hnl hl') D)
    · cases hc
  · cases h

theorem s_7 (C : Cx B ro cA dC dI x d M p R s m args meth c cells slots) (L : LoR B ro lsr (MR M).2.2.1 ls) (D : Wd B cA dC dI σ I J s H locs) (rt : Rt l B cA dC dI σ M Q p e R s m args below meth c cells slots Z)
    (hd : decode (MR M).2.1 pc = .ok (ins, len)) (hc : chk1 M pc (7, nx, i, j, c0) ps ins len = true)
    (go : ∀ pc' ls' st' I' J' H' locs' lsr', k pc' ls' st' I' J' → LoR B ro lsr' (MR M).2.2.1 ls' → Wd B cA dC dI σ I' J' s H' locs' → W p l e R s m args below meth c H' locs' cells slots Z (F0 m pc' lsr' (st'.map (cv B ro))))
    (h : wp1 (Ex σ x d) σ x (7, nx, i, j, c0) pc ls st I J k Q) : W p l e R s m args below meth c H locs cells slots Z (F0 m pc lsr (st.map (cv B ro))) := by
  simp only [chk1, Bool.and_eq_true, decide_eq_true_eq] at hc
  obtain ⟨rfl, hc⟩ := hc
  simp only [wp1] at h
  obtain ⟨rfl, rfl⟩ := hc
  split at h
  · rename_i v hv
    obtain ⟨hnl, h⟩ := h
    have hn : i < (MR M).2.2.1 := L.2.1 ▸ (List.getElem?_eq_some_iff.mp hv).1
    obtain ⟨q, hq⟩ := List.getElem?_of_mem (LoP_mem (B := B) (ro := ro).mpr ⟨i, _, hv, rfl⟩)
    exact lv_iinc (v := Int32.ofInt (v + c0)) C.1 C.2.1 hd (LR_has L) hq (ofI_add v c0) hn rfl (fun ls' hl' => go _ _ _ _ _ _ _ _ h (LR_set (v := .inl (v + c0)) L.2.1 hnl hl') D)
  · cases h

theorem s_8 (C : Cx B ro cA dC dI x d M p R s m args meth c cells slots) (L : LoR B ro lsr (MR M).2.2.1 ls) (D : Wd B cA dC dI σ I J s H locs) (rt : Rt l B cA dC dI σ M Q p e R s m args below meth c cells slots Z)
    (hd : decode (MR M).2.1 pc = .ok (ins, len)) (hc : chk1 M pc (8, nx, i, j, c0) ps ins len = true)
    (go : ∀ pc' ls' st' I' J' H' locs' lsr', k pc' ls' st' I' J' → LoR B ro lsr' (MR M).2.2.1 ls' → Wd B cA dC dI σ I' J' s H' locs' → W p l e R s m args below meth c H' locs' cells slots Z (F0 m pc' lsr' (st'.map (cv B ro))))
    (h : wp1 (Ex σ x d) σ x (8, nx, i, j, c0) pc ls st I J k Q) : W p l e R s m args below meth c H locs cells slots Z (F0 m pc lsr (st.map (cv B ro))) := by
  simp only [chk1, Bool.and_eq_true, decide_eq_true_eq] at hc
  obtain ⟨rfl, hc⟩ := hc
  simp only [wp1] at h
  obtain ⟨rfl, rfl⟩ := hc
  split at h
  · rename_i b a r
    have h := go _ _ _ _ _ _ _ _ h L D
    refine lv_iadd C.1 C.2.1 hd ?_
    rw [ofI_add]
    exact h
  · cases h

theorem s_9 (C : Cx B ro cA dC dI x d M p R s m args meth c cells slots) (L : LoR B ro lsr (MR M).2.2.1 ls) (D : Wd B cA dC dI σ I J s H locs) (rt : Rt l B cA dC dI σ M Q p e R s m args below meth c cells slots Z)
    (hd : decode (MR M).2.1 pc = .ok (ins, len)) (hc : chk1 M pc (9, nx, i, j, c0) ps ins len = true)
    (go : ∀ pc' ls' st' I' J' H' locs' lsr', k pc' ls' st' I' J' → LoR B ro lsr' (MR M).2.2.1 ls' → Wd B cA dC dI σ I' J' s H' locs' → W p l e R s m args below meth c H' locs' cells slots Z (F0 m pc' lsr' (st'.map (cv B ro))))
    (h : wp1 (Ex σ x d) σ x (9, nx, i, j, c0) pc ls st I J k Q) : W p l e R s m args below meth c H locs cells slots Z (F0 m pc lsr (st.map (cv B ro))) := by
  simp only [chk1, Bool.and_eq_true, decide_eq_true_eq] at hc
  obtain ⟨rfl, hc⟩ := hc
  simp only [wp1] at h
  obtain ⟨rfl, rfl⟩ := hc
  split at h
  · rename_i b a r
    have h := go _ _ _ _ _ _ _ _ h L D
    refine lv_isub C.1 C.2.1 hd ?_
    rw [← Int32.ofInt_sub]
    exact h
  · cases h

theorem s_10 (C : Cx B ro cA dC dI x d M p R s m args meth c cells slots) (L : LoR B ro lsr (MR M).2.2.1 ls) (D : Wd B cA dC dI σ I J s H locs) (rt : Rt l B cA dC dI σ M Q p e R s m args below meth c cells slots Z)
    (hd : decode (MR M).2.1 pc = .ok (ins, len)) (hc : chk1 M pc (10, nx, i, j, c0) ps ins len = true)
    (go : ∀ pc' ls' st' I' J' H' locs' lsr', k pc' ls' st' I' J' → LoR B ro lsr' (MR M).2.2.1 ls' → Wd B cA dC dI σ I' J' s H' locs' → W p l e R s m args below meth c H' locs' cells slots Z (F0 m pc' lsr' (st'.map (cv B ro))))
    (h : wp1 (Ex σ x d) σ x (10, nx, i, j, c0) pc ls st I J k Q) : W p l e R s m args below meth c H locs cells slots Z (F0 m pc lsr (st.map (cv B ro))) := by
  simp only [chk1, Bool.and_eq_true, decide_eq_true_eq] at hc
  obtain ⟨rfl, hc⟩ := hc
  simp only [wp1] at h
  obtain ⟨rfl, rfl⟩ := hc
  split at h
  · rename_i b a r
    have h := go _ _ _ _ _ _ _ _ h L D
    refine lv_imul C.1 C.2.1 hd ?_
    rw [← Int32.ofInt_mul]
    exact h
  · cases h

theorem s_11 (C : Cx B ro cA dC dI x d M p R s m args meth c cells slots) (L : LoR B ro lsr (MR M).2.2.1 ls) (D : Wd B cA dC dI σ I J s H locs) (rt : Rt l B cA dC dI σ M Q p e R s m args below meth c cells slots Z)
    (hd : decode (MR M).2.1 pc = .ok (ins, len)) (hc : chk1 M pc (11, nx, i, j, c0) ps ins len = true)
    (go : ∀ pc' ls' st' I' J' H' locs' lsr', k pc' ls' st' I' J' → LoR B ro lsr' (MR M).2.2.1 ls' → Wd B cA dC dI σ I' J' s H' locs' → W p l e R s m args below meth c H' locs' cells slots Z (F0 m pc' lsr' (st'.map (cv B ro))))
    (h : wp1 (Ex σ x d) σ x (11, nx, i, j, c0) pc ls st I J k Q) : W p l e R s m args below meth c H locs cells slots Z (F0 m pc lsr (st.map (cv B ro))) := by
  simp only [chk1, Bool.and_eq_true, decide_eq_true_eq] at hc
  obtain ⟨rfl, hc⟩ := hc
  simp only [wp1] at h
  obtain ⟨rfl, rfl⟩ := hc
  split at h
  · rename_i b a r
    have h := go _ _ _ _ _ _ _ _ h L D
    refine lv_iand C.1 C.2.1 hd ?_
    simp only [List.map_cons, cv, andI, ofI_toI] at h
    exact h
  · cases h

theorem s_12 (C : Cx B ro cA dC dI x d M p R s m args meth c cells slots) (L : LoR B ro lsr (MR M).2.2.1 ls) (D : Wd B cA dC dI σ I J s H locs) (rt : Rt l B cA dC dI σ M Q p e R s m args below meth c cells slots Z)
    (hd : decode (MR M).2.1 pc = .ok (ins, len)) (hc : chk1 M pc (12, nx, i, j, c0) ps ins len = true)
    (go : ∀ pc' ls' st' I' J' H' locs' lsr', k pc' ls' st' I' J' → LoR B ro lsr' (MR M).2.2.1 ls' → Wd B cA dC dI σ I' J' s H' locs' → W p l e R s m args below meth c H' locs' cells slots Z (F0 m pc' lsr' (st'.map (cv B ro))))
    (h : wp1 (Ex σ x d) σ x (12, nx, i, j, c0) pc ls st I J k Q) : W p l e R s m args below meth c H locs cells slots Z (F0 m pc lsr (st.map (cv B ro))) := by
  simp only [chk1, Bool.and_eq_true, decide_eq_true_eq] at hc
  obtain ⟨rfl, hc⟩ := hc
  simp only [wp1] at h
  obtain ⟨rfl, rfl⟩ := hc
  split at h
  · rename_i b a r
    have h := go _ _ _ _ _ _ _ _ h L D
    refine lv_ior C.1 C.2.1 hd ?_
    simp only [List.map_cons, cv, orI, ofI_toI] at h
    exact h
  · cases h

theorem s_13 (C : Cx B ro cA dC dI x d M p R s m args meth c cells slots) (L : LoR B ro lsr (MR M).2.2.1 ls) (D : Wd B cA dC dI σ I J s H locs) (rt : Rt l B cA dC dI σ M Q p e R s m args below meth c cells slots Z)
    (hd : decode (MR M).2.1 pc = .ok (ins, len)) (hc : chk1 M pc (13, nx, i, j, c0) ps ins len = true)
    (go : ∀ pc' ls' st' I' J' H' locs' lsr', k pc' ls' st' I' J' → LoR B ro lsr' (MR M).2.2.1 ls' → Wd B cA dC dI σ I' J' s H' locs' → W p l e R s m args below meth c H' locs' cells slots Z (F0 m pc' lsr' (st'.map (cv B ro))))
    (h : wp1 (Ex σ x d) σ x (13, nx, i, j, c0) pc ls st I J k Q) : W p l e R s m args below meth c H locs cells slots Z (F0 m pc lsr (st.map (cv B ro))) := by
  simp only [chk1, Bool.and_eq_true, decide_eq_true_eq] at hc
  obtain ⟨rfl, hc⟩ := hc
  simp only [wp1] at h
  obtain ⟨rfl, rfl⟩ := hc
  split at h
  · rename_i b a r
    have h := go _ _ _ _ _ _ _ _ h L D
    refine lv_ixor C.1 C.2.1 hd ?_
    simp only [List.map_cons, cv, xorI, ofI_toI] at h
    exact h
  · cases h

theorem s_14 (C : Cx B ro cA dC dI x d M p R s m args meth c cells slots) (L : LoR B ro lsr (MR M).2.2.1 ls) (D : Wd B cA dC dI σ I J s H locs) (rt : Rt l B cA dC dI σ M Q p e R s m args below meth c cells slots Z)
    (hd : decode (MR M).2.1 pc = .ok (ins, len)) (hc : chk1 M pc (14, nx, i, j, c0) ps ins len = true)
    (go : ∀ pc' ls' st' I' J' H' locs' lsr', k pc' ls' st' I' J' → LoR B ro lsr' (MR M).2.2.1 ls' → Wd B cA dC dI σ I' J' s H' locs' → W p l e R s m args below meth c H' locs' cells slots Z (F0 m pc' lsr' (st'.map (cv B ro))))
    (h : wp1 (Ex σ x d) σ x (14, nx, i, j, c0) pc ls st I J k Q) : W p l e R s m args below meth c H locs cells slots Z (F0 m pc lsr (st.map (cv B ro))) := by
  simp only [chk1, Bool.and_eq_true, decide_eq_true_eq] at hc
  obtain ⟨rfl, hc⟩ := hc
  simp only [wp1] at h
  obtain ⟨rfl, rfl⟩ := hc
  split at h
  · rename_i b a r
    have h := go _ _ _ _ _ _ _ _ h L D
    refine lv_ishl C.1 C.2.1 hd ?_
    simp only [List.map_cons, cv, shlI, ofI_toI] at h
    exact h
  · cases h

theorem s_15 (C : Cx B ro cA dC dI x d M p R s m args meth c cells slots) (L : LoR B ro lsr (MR M).2.2.1 ls) (D : Wd B cA dC dI σ I J s H locs) (rt : Rt l B cA dC dI σ M Q p e R s m args below meth c cells slots Z)
    (hd : decode (MR M).2.1 pc = .ok (ins, len)) (hc : chk1 M pc (15, nx, i, j, c0) ps ins len = true)
    (go : ∀ pc' ls' st' I' J' H' locs' lsr', k pc' ls' st' I' J' → LoR B ro lsr' (MR M).2.2.1 ls' → Wd B cA dC dI σ I' J' s H' locs' → W p l e R s m args below meth c H' locs' cells slots Z (F0 m pc' lsr' (st'.map (cv B ro))))
    (h : wp1 (Ex σ x d) σ x (15, nx, i, j, c0) pc ls st I J k Q) : W p l e R s m args below meth c H locs cells slots Z (F0 m pc lsr (st.map (cv B ro))) := by
  simp only [chk1, Bool.and_eq_true, decide_eq_true_eq] at hc
  obtain ⟨rfl, hc⟩ := hc
  simp only [wp1] at h
  obtain ⟨rfl, rfl⟩ := hc
  split at h
  · rename_i b a r
    have h := go _ _ _ _ _ _ _ _ h L D
    refine lv_ishr C.1 C.2.1 hd ?_
    simp only [List.map_cons, cv, shrI, ofI_toI] at h
    exact h
  · cases h

theorem s_16 (C : Cx B ro cA dC dI x d M p R s m args meth c cells slots) (L : LoR B ro lsr (MR M).2.2.1 ls) (D : Wd B cA dC dI σ I J s H locs) (rt : Rt l B cA dC dI σ M Q p e R s m args below meth c cells slots Z)
    (hd : decode (MR M).2.1 pc = .ok (ins, len)) (hc : chk1 M pc (16, nx, i, j, c0) ps ins len = true)
    (go : ∀ pc' ls' st' I' J' H' locs' lsr', k pc' ls' st' I' J' → LoR B ro lsr' (MR M).2.2.1 ls' → Wd B cA dC dI σ I' J' s H' locs' → W p l e R s m args below meth c H' locs' cells slots Z (F0 m pc' lsr' (st'.map (cv B ro))))
    (h : wp1 (Ex σ x d) σ x (16, nx, i, j, c0) pc ls st I J k Q) : W p l e R s m args below meth c H locs cells slots Z (F0 m pc lsr (st.map (cv B ro))) := by
  simp only [chk1, Bool.and_eq_true, decide_eq_true_eq] at hc
  obtain ⟨rfl, hc⟩ := hc
  simp only [wp1] at h
  obtain ⟨rfl, rfl⟩ := hc
  split at h
  · rename_i b a r
    have h := go _ _ _ _ _ _ _ _ h L D
    simp only [List.map_cons, cv, ushrI, ofI_toI] at h
    exact lv_iushr C.1 C.2.1 hd rfl h
  · cases h

theorem s_17 (C : Cx B ro cA dC dI x d M p R s m args meth c cells slots) (L : LoR B ro lsr (MR M).2.2.1 ls) (D : Wd B cA dC dI σ I J s H locs) (rt : Rt l B cA dC dI σ M Q p e R s m args below meth c cells slots Z)
    (hd : decode (MR M).2.1 pc = .ok (ins, len)) (hc : chk1 M pc (17, nx, i, j, c0) ps ins len = true)
    (go : ∀ pc' ls' st' I' J' H' locs' lsr', k pc' ls' st' I' J' → LoR B ro lsr' (MR M).2.2.1 ls' → Wd B cA dC dI σ I' J' s H' locs' → W p l e R s m args below meth c H' locs' cells slots Z (F0 m pc' lsr' (st'.map (cv B ro))))
    (h : wp1 (Ex σ x d) σ x (17, nx, i, j, c0) pc ls st I J k Q) : W p l e R s m args below meth c H locs cells slots Z (F0 m pc lsr (st.map (cv B ro))) := by
  simp only [chk1, Bool.and_eq_true, decide_eq_true_eq] at hc
  obtain ⟨rfl, hc⟩ := hc
  simp only [wp1] at h
  obtain ⟨rfl, rfl⟩ := hc
  split at h
  · rename_i b a r
    obtain ⟨hb, h0, h⟩ := h
    have h := go _ _ _ _ _ _ _ _ h L D
    simp only [List.map_cons, cv, divI, ofI_toI] at h
    exact lv_idiv C.1 C.2.1 hd (fun q => h0 ((ofI_eq hb inR_0).mp q)) h
  · cases h

theorem s_18 (C : Cx B ro cA dC dI x d M p R s m args meth c cells slots) (L : LoR B ro lsr (MR M).2.2.1 ls) (D : Wd B cA dC dI σ I J s H locs) (rt : Rt l B cA dC dI σ M Q p e R s m args below meth c cells slots Z)
    (hd : decode (MR M).2.1 pc = .ok (ins, len)) (hc : chk1 M pc (18, nx, i, j, c0) ps ins len = true)
    (go : ∀ pc' ls' st' I' J' H' locs' lsr', k pc' ls' st' I' J' → LoR B ro lsr' (MR M).2.2.1 ls' → Wd B cA dC dI σ I' J' s H' locs' → W p l e R s m args below meth c H' locs' cells slots Z (F0 m pc' lsr' (st'.map (cv B ro))))
    (h : wp1 (Ex σ x d) σ x (18, nx, i, j, c0) pc ls st I J k Q) : W p l e R s m args below meth c H locs cells slots Z (F0 m pc lsr (st.map (cv B ro))) := by
  simp only [chk1, Bool.and_eq_true, decide_eq_true_eq] at hc
  obtain ⟨rfl, hc⟩ := hc
  simp only [wp1] at h
  obtain ⟨rfl, rfl⟩ := hc
  split at h
  · rename_i b a r
    obtain ⟨hb, h0, h⟩ := h
    have h := go _ _ _ _ _ _ _ _ h L D
    simp only [List.map_cons, cv, remI, ofI_toI] at h
    exact lv_irem C.1 C.2.1 hd (fun q => h0 ((ofI_eq hb inR_0).mp q)) h
  · cases h

theorem s_19 (C : Cx B ro cA dC dI x d M p R s m args meth c cells slots) (L : LoR B ro lsr (MR M).2.2.1 ls) (D : Wd B cA dC dI σ I J s H locs) (rt : Rt l B cA dC dI σ M Q p e R s m args below meth c cells slots Z)
    (hd : decode (MR M).2.1 pc = .ok (ins, len)) (hc : chk1 M pc (19, nx, i, j, c0) ps ins len = true)
    (go : ∀ pc' ls' st' I' J' H' locs' lsr', k pc' ls' st' I' J' → LoR B ro lsr' (MR M).2.2.1 ls' → Wd B cA dC dI σ I' J' s H' locs' → W p l e R s m args below meth c H' locs' cells slots Z (F0 m pc' lsr' (st'.map (cv B ro))))
    (h : wp1 (Ex σ x d) σ x (19, nx, i, j, c0) pc ls st I J k Q) : W p l e R s m args below meth c H locs cells slots Z (F0 m pc lsr (st.map (cv B ro))) := by
  simp only [chk1, Bool.and_eq_true, decide_eq_true_eq] at hc
  obtain ⟨rfl, hc⟩ := hc
  simp only [wp1] at h
  obtain ⟨rfl, rfl⟩ := hc
  split at h
  · rename_i a r
    have h := go _ _ _ _ _ _ _ _ h L D
    refine lv_ineg C.1 C.2.1 hd ?_
    rw [← Int32.ofInt_neg]
    exact h
  · cases h

theorem s_20 (C : Cx B ro cA dC dI x d M p R s m args meth c cells slots) (L : LoR B ro lsr (MR M).2.2.1 ls) (D : Wd B cA dC dI σ I J s H locs) (rt : Rt l B cA dC dI σ M Q p e R s m args below meth c cells slots Z)
    (hd : decode (MR M).2.1 pc = .ok (ins, len)) (hc : chk1 M pc (20, nx, i, j, c0) ps ins len = true)
    (go : ∀ pc' ls' st' I' J' H' locs' lsr', k pc' ls' st' I' J' → LoR B ro lsr' (MR M).2.2.1 ls' → Wd B cA dC dI σ I' J' s H' locs' → W p l e R s m args below meth c H' locs' cells slots Z (F0 m pc' lsr' (st'.map (cv B ro))))
    (h : wp1 (Ex σ x d) σ x (20, nx, i, j, c0) pc ls st I J k Q) : W p l e R s m args below meth c H locs cells slots Z (F0 m pc lsr (st.map (cv B ro))) := by
  simp only [chk1, Bool.and_eq_true, decide_eq_true_eq] at hc
  obtain ⟨rfl, hc⟩ := hc
  simp only [wp1] at h
  obtain ⟨rfl, rfl⟩ := hc
  split at h
  · rename_i a r
    have h := go _ _ _ _ _ _ _ _ h L D
    simp only [List.map_cons, cv, b8, ofI_toI] at h
    exact lv_i2b C.1 C.2.1 hd rfl h
  · cases h

theorem s_21 (C : Cx B ro cA dC dI x d M p R s m args meth c cells slots) (L : LoR B ro lsr (MR M).2.2.1 ls) (D : Wd B cA dC dI σ I J s H locs) (rt : Rt l B cA dC dI σ M Q p e R s m args below meth c cells slots Z)
    (hd : decode (MR M).2.1 pc = .ok (ins, len)) (hc : chk1 M pc (21, nx, i, j, c0) ps ins len = true)
    (go : ∀ pc' ls' st' I' J' H' locs' lsr', k pc' ls' st' I' J' → LoR B ro lsr' (MR M).2.2.1 ls' → Wd B cA dC dI σ I' J' s H' locs' → W p l e R s m args below meth c H' locs' cells slots Z (F0 m pc' lsr' (st'.map (cv B ro))))
    (h : wp1 (Ex σ x d) σ x (21, nx, i, j, c0) pc ls st I J k Q) : W p l e R s m args below meth c H locs cells slots Z (F0 m pc lsr (st.map (cv B ro))) := by
  simp only [chk1, Bool.and_eq_true, decide_eq_true_eq] at hc
  obtain ⟨rfl, hc⟩ := hc
  simp only [wp1] at h
  obtain ⟨rfl, rfl⟩ := hc
  split at h
  · rename_i a r
    have h := go _ _ _ _ _ _ _ _ h L D
    simp only [List.map_cons, cv, b16, ofI_toI] at h
    exact lv_i2s C.1 C.2.1 hd rfl h
  · cases h

theorem s_22 (C : Cx B ro cA dC dI x d M p R s m args meth c cells slots) (L : LoR B ro lsr (MR M).2.2.1 ls) (D : Wd B cA dC dI σ I J s H locs) (rt : Rt l B cA dC dI σ M Q p e R s m args below meth c cells slots Z)
    (hd : decode (MR M).2.1 pc = .ok (ins, len)) (hc : chk1 M pc (22, nx, i, j, c0) ps ins len = true)
    (go : ∀ pc' ls' st' I' J' H' locs' lsr', k pc' ls' st' I' J' → LoR B ro lsr' (MR M).2.2.1 ls' → Wd B cA dC dI σ I' J' s H' locs' → W p l e R s m args below meth c H' locs' cells slots Z (F0 m pc' lsr' (st'.map (cv B ro))))
    (h : wp1 (Ex σ x d) σ x (22, nx, i, j, c0) pc ls st I J k Q) : W p l e R s m args below meth c H locs cells slots Z (F0 m pc lsr (st.map (cv B ro))) := by
  simp only [chk1, Bool.and_eq_true, decide_eq_true_eq] at hc
  obtain ⟨rfl, hc⟩ := hc
  simp only [wp1] at h
  obtain ⟨rfl, rfl⟩ := hc
  split at h
  · rename_i a r
    exact lv_i2l C.1 C.2.1 hd rfl (go _ _ _ _ _ _ _ _ h L D)
  · cases h

theorem s_23 (C : Cx B ro cA dC dI x d M p R s m args meth c cells slots) (L : LoR B ro lsr (MR M).2.2.1 ls) (D : Wd B cA dC dI σ I J s H locs) (rt : Rt l B cA dC dI σ M Q p e R s m args below meth c cells slots Z)
    (hd : decode (MR M).2.1 pc = .ok (ins, len)) (hc : chk1 M pc (23, nx, i, j, c0) ps ins len = true)
    (go : ∀ pc' ls' st' I' J' H' locs' lsr', k pc' ls' st' I' J' → LoR B ro lsr' (MR M).2.2.1 ls' → Wd B cA dC dI σ I' J' s H' locs' → W p l e R s m args below meth c H' locs' cells slots Z (F0 m pc' lsr' (st'.map (cv B ro))))
    (h : wp1 (Ex σ x d) σ x (23, nx, i, j, c0) pc ls st I J k Q) : W p l e R s m args below meth c H locs cells slots Z (F0 m pc lsr (st.map (cv B ro))) := by
  simp only [chk1, Bool.and_eq_true, decide_eq_true_eq] at hc
  obtain ⟨rfl, hc⟩ := hc
  simp only [wp1] at h
  obtain ⟨rfl, rfl⟩ := hc
  split at h
  · rename_i a r
    have h := go _ _ _ _ _ _ _ _ h L D
    simp only [List.map_cons, cv, ofI_toI] at h
    exact lv_l2i C.1 C.2.1 hd rfl h
  · cases h

theorem s_24 (C : Cx B ro cA dC dI x d M p R s m args meth c cells slots) (L : LoR B ro lsr (MR M).2.2.1 ls) (D : Wd B cA dC dI σ I J s H locs) (rt : Rt l B cA dC dI σ M Q p e R s m args below meth c cells slots Z)
    (hd : decode (MR M).2.1 pc = .ok (ins, len)) (hc : chk1 M pc (24, nx, i, j, c0) ps ins len = true)
    (go : ∀ pc' ls' st' I' J' H' locs' lsr', k pc' ls' st' I' J' → LoR B ro lsr' (MR M).2.2.1 ls' → Wd B cA dC dI σ I' J' s H' locs' → W p l e R s m args below meth c H' locs' cells slots Z (F0 m pc' lsr' (st'.map (cv B ro))))
    (h : wp1 (Ex σ x d) σ x (24, nx, i, j, c0) pc ls st I J k Q) : W p l e R s m args below meth c H locs cells slots Z (F0 m pc lsr (st.map (cv B ro))) := by
  simp only [chk1, Bool.and_eq_true, decide_eq_true_eq] at hc
  obtain ⟨rfl, hc⟩ := hc
  simp only [wp1] at h
  split at hc
  · rename_i f
    simp only [decide_eq_true_eq] at hc
    obtain ⟨rfl, rfl⟩ := hc
    exact lv_lconst C.1 C.2.1 hd rfl (go _ _ _ _ _ _ _ _ h L D)
  · simp only [decide_eq_true_eq] at hc
    obtain ⟨rfl, e⟩ := hc
    exact lv_ldc2 C.1 C.2.1 C.2.2.2.2.1 (C.2.2.2.2.2.1 _ (mem_gd (List.mem_of_getElem? e) rfl)) hd (go _ _ _ _ _ _ _ _ h L D)
  · cases hc

theorem s_25 (C : Cx B ro cA dC dI x d M p R s m args meth c cells slots) (L : LoR B ro lsr (MR M).2.2.1 ls) (D : Wd B cA dC dI σ I J s H locs) (rt : Rt l B cA dC dI σ M Q p e R s m args below meth c cells slots Z)
    (hd : decode (MR M).2.1 pc = .ok (ins, len)) (hc : chk1 M pc (25, nx, i, j, c0) ps ins len = true)
    (go : ∀ pc' ls' st' I' J' H' locs' lsr', k pc' ls' st' I' J' → LoR B ro lsr' (MR M).2.2.1 ls' → Wd B cA dC dI σ I' J' s H' locs' → W p l e R s m args below meth c H' locs' cells slots Z (F0 m pc' lsr' (st'.map (cv B ro))))
    (h : wp1 (Ex σ x d) σ x (25, nx, i, j, c0) pc ls st I J k Q) : W p l e R s m args below meth c H locs cells slots Z (F0 m pc lsr (st.map (cv B ro))) := by
  simp only [chk1, Bool.and_eq_true, decide_eq_true_eq] at hc
  obtain ⟨rfl, hc⟩ := hc
  simp only [wp1] at h
  obtain ⟨rfl, rfl⟩ := hc
  split at h
  · exact lv_ladd C.1 C.2.1 hd (go _ _ _ _ _ _ _ _ h L D)
  · cases h

theorem s_26 (C : Cx B ro cA dC dI x d M p R s m args meth c cells slots) (L : LoR B ro lsr (MR M).2.2.1 ls) (D : Wd B cA dC dI σ I J s H locs) (rt : Rt l B cA dC dI σ M Q p e R s m args below meth c cells slots Z)
    (hd : decode (MR M).2.1 pc = .ok (ins, len)) (hc : chk1 M pc (26, nx, i, j, c0) ps ins len = true)
    (go : ∀ pc' ls' st' I' J' H' locs' lsr', k pc' ls' st' I' J' → LoR B ro lsr' (MR M).2.2.1 ls' → Wd B cA dC dI σ I' J' s H' locs' → W p l e R s m args below meth c H' locs' cells slots Z (F0 m pc' lsr' (st'.map (cv B ro))))
    (h : wp1 (Ex σ x d) σ x (26, nx, i, j, c0) pc ls st I J k Q) : W p l e R s m args below meth c H locs cells slots Z (F0 m pc lsr (st.map (cv B ro))) := by
  simp only [chk1, Bool.and_eq_true, decide_eq_true_eq] at hc
  obtain ⟨rfl, hc⟩ := hc
  simp only [wp1] at h
  obtain ⟨rfl, rfl⟩ := hc
  split at h
  · exact lv_lmul C.1 C.2.1 hd (go _ _ _ _ _ _ _ _ h L D)
  · cases h

theorem s_27 (C : Cx B ro cA dC dI x d M p R s m args meth c cells slots) (L : LoR B ro lsr (MR M).2.2.1 ls) (D : Wd B cA dC dI σ I J s H locs) (rt : Rt l B cA dC dI σ M Q p e R s m args below meth c cells slots Z)
    (hd : decode (MR M).2.1 pc = .ok (ins, len)) (hc : chk1 M pc (27, nx, i, j, c0) ps ins len = true)
    (go : ∀ pc' ls' st' I' J' H' locs' lsr', k pc' ls' st' I' J' → LoR B ro lsr' (MR M).2.2.1 ls' → Wd B cA dC dI σ I' J' s H' locs' → W p l e R s m args below meth c H' locs' cells slots Z (F0 m pc' lsr' (st'.map (cv B ro))))
    (h : wp1 (Ex σ x d) σ x (27, nx, i, j, c0) pc ls st I J k Q) : W p l e R s m args below meth c H locs cells slots Z (F0 m pc lsr (st.map (cv B ro))) := by
  simp only [chk1, Bool.and_eq_true, decide_eq_true_eq] at hc
  obtain ⟨rfl, hc⟩ := hc
  simp only [wp1] at h
  obtain ⟨rfl, rfl⟩ := hc
  split at h
  · exact lv_lor C.1 C.2.1 hd (go _ _ _ _ _ _ _ _ h L D)
  · cases h

theorem s_28 (C : Cx B ro cA dC dI x d M p R s m args meth c cells slots) (L : LoR B ro lsr (MR M).2.2.1 ls) (D : Wd B cA dC dI σ I J s H locs) (rt : Rt l B cA dC dI σ M Q p e R s m args below meth c cells slots Z)
    (hd : decode (MR M).2.1 pc = .ok (ins, len)) (hc : chk1 M pc (28, nx, i, j, c0) ps ins len = true)
    (go : ∀ pc' ls' st' I' J' H' locs' lsr', k pc' ls' st' I' J' → LoR B ro lsr' (MR M).2.2.1 ls' → Wd B cA dC dI σ I' J' s H' locs' → W p l e R s m args below meth c H' locs' cells slots Z (F0 m pc' lsr' (st'.map (cv B ro))))
    (h : wp1 (Ex σ x d) σ x (28, nx, i, j, c0) pc ls st I J k Q) : W p l e R s m args below meth c H locs cells slots Z (F0 m pc lsr (st.map (cv B ro))) := by
  simp only [chk1, Bool.and_eq_true, decide_eq_true_eq] at hc
  obtain ⟨rfl, hc⟩ := hc
  simp only [wp1] at h
  obtain ⟨rfl, rfl⟩ := hc
  split at h
  · exact lv_lshl C.1 C.2.1 hd rfl (go _ _ _ _ _ _ _ _ h L D)
  · cases h

theorem s_29 (C : Cx B ro cA dC dI x d M p R s m args meth c cells slots) (L : LoR B ro lsr (MR M).2.2.1 ls) (D : Wd B cA dC dI σ I J s H locs) (rt : Rt l B cA dC dI σ M Q p e R s m args below meth c cells slots Z)
    (hd : decode (MR M).2.1 pc = .ok (ins, len)) (hc : chk1 M pc (29, nx, i, j, c0) ps ins len = true)
    (go : ∀ pc' ls' st' I' J' H' locs' lsr', k pc' ls' st' I' J' → LoR B ro lsr' (MR M).2.2.1 ls' → Wd B cA dC dI σ I' J' s H' locs' → W p l e R s m args below meth c H' locs' cells slots Z (F0 m pc' lsr' (st'.map (cv B ro))))
    (h : wp1 (Ex σ x d) σ x (29, nx, i, j, c0) pc ls st I J k Q) : W p l e R s m args below meth c H locs cells slots Z (F0 m pc lsr (st.map (cv B ro))) := by
  simp only [chk1, Bool.and_eq_true, decide_eq_true_eq] at hc
  obtain ⟨rfl, hc⟩ := hc
  simp only [wp1] at h
  obtain ⟨rfl, rfl⟩ := hc
  split at h
  · exact lv_lushr C.1 C.2.1 hd rfl (go _ _ _ _ _ _ _ _ h L D)
  · cases h

theorem s_30 (C : Cx B ro cA dC dI x d M p R s m args meth c cells slots) (L : LoR B ro lsr (MR M).2.2.1 ls) (D : Wd B cA dC dI σ I J s H locs) (rt : Rt l B cA dC dI σ M Q p e R s m args below meth c cells slots Z)
    (hd : decode (MR M).2.1 pc = .ok (ins, len)) (hc : chk1 M pc (30, nx, i, j, c0) ps ins len = true)
    (go : ∀ pc' ls' st' I' J' H' locs' lsr', k pc' ls' st' I' J' → LoR B ro lsr' (MR M).2.2.1 ls' → Wd B cA dC dI σ I' J' s H' locs' → W p l e R s m args below meth c H' locs' cells slots Z (F0 m pc' lsr' (st'.map (cv B ro))))
    (h : wp1 (Ex σ x d) σ x (30, nx, i, j, c0) pc ls st I J k Q) : W p l e R s m args below meth c H locs cells slots Z (F0 m pc lsr (st.map (cv B ro))) := by
  simp only [chk1, Bool.and_eq_true, decide_eq_true_eq] at hc
  obtain ⟨rfl, hc⟩ := hc
  simp only [wp1] at h
  obtain ⟨rfl, rfl⟩ := hc
  split at h
  · have h := go _ _ _ _ _ _ _ _ h L D
    simp only [List.map_cons, cv, ofI_toI] at h
    exact W.lcmp C.1 C.2.1 hd h
  · cases h

theorem s_31 (C : Cx B ro cA dC dI x d M p R s m args meth c cells slots) (L : LoR B ro lsr (MR M).2.2.1 ls) (D : Wd B cA dC dI σ I J s H locs) (rt : Rt l B cA dC dI σ M Q p e R s m args below meth c cells slots Z)
    (hd : decode (MR M).2.1 pc = .ok (ins, len)) (hc : chk1 M pc (31, nx, i, j, c0) ps ins len = true)
    (go : ∀ pc' ls' st' I' J' H' locs' lsr', k pc' ls' st' I' J' → LoR B ro lsr' (MR M).2.2.1 ls' → Wd B cA dC dI σ I' J' s H' locs' → W p l e R s m args below meth c H' locs' cells slots Z (F0 m pc' lsr' (st'.map (cv B ro))))
    (h : wp1 (Ex σ x d) σ x (31, nx, i, j, c0) pc ls st I J k Q) : W p l e R s m args below meth c H locs cells slots Z (F0 m pc lsr (st.map (cv B ro))) := by
  simp only [chk1, Bool.and_eq_true, decide_eq_true_eq] at hc
  obtain ⟨rfl, hc⟩ := hc
  simp only [wp1] at h
  obtain ⟨rfl, rfl⟩ := hc
  split at h
  · exact lv_dup C.1 C.2.1 hd rfl (go _ _ _ _ _ _ _ _ h L D)
  · rename_i a r
    rcases a with a | a
    · exact lv_dup C.1 C.2.1 hd rfl (go _ _ _ _ _ _ _ _ h L D)
    · exact lv_dup C.1 C.2.1 hd rfl (go _ _ _ _ _ _ _ _ h L D)
  · cases h

theorem s_32 (C : Cx B ro cA dC dI x d M p R s m args meth c cells slots) (L : LoR B ro lsr (MR M).2.2.1 ls) (D : Wd B cA dC dI σ I J s H locs) (rt : Rt l B cA dC dI σ M Q p e R s m args below meth c cells slots Z)
    (hd : decode (MR M).2.1 pc = .ok (ins, len)) (hc : chk1 M pc (32, nx, i, j, c0) ps ins len = true)
    (go : ∀ pc' ls' st' I' J' H' locs' lsr', k pc' ls' st' I' J' → LoR B ro lsr' (MR M).2.2.1 ls' → Wd B cA dC dI σ I' J' s H' locs' → W p l e R s m args below meth c H' locs' cells slots Z (F0 m pc' lsr' (st'.map (cv B ro))))
    (h : wp1 (Ex σ x d) σ x (32, nx, i, j, c0) pc ls st I J k Q) : W p l e R s m args below meth c H locs cells slots Z (F0 m pc lsr (st.map (cv B ro))) := by
  simp only [chk1, Bool.and_eq_true, decide_eq_true_eq] at hc
  obtain ⟨rfl, hc⟩ := hc
  simp only [wp1] at h
  obtain ⟨rfl, rfl⟩ := hc
  split at h
  · rename_i b a r
    rcases a with a | a
    · exact lv_dup2_11 C.1 C.2.1 hd rfl rfl (go _ _ _ _ _ _ _ _ h L D)
    · exact lv_dup2_11 C.1 C.2.1 hd rfl rfl (go _ _ _ _ _ _ _ _ h L D)
  · cases h
end RUL
