theorem ac_nat : Cond.native arraycopyName ∈ lw_gd := mem_gd (List.mem_of_getElem? (i := 425) (by decide +kernel)) rfl
theorem ac_stat : Cond.static arraycopyName ∈ lw_gd := mem_gd (List.mem_of_getElem? (i := 424) (by decide +kernel)) rfl
theorem ac_ini : Cond.initialized "java/lang/System" ∈ lw_gd := mem_gd (List.mem_of_getElem? (i := 71) (by decide +kernel)) rfl
theorem mmax_stat : Cond.static Lib.Math.max.name ∈ lw_gd := mem_gd (List.mem_of_getElem? (i := 693) (by decide +kernel)) rfl
theorem mmax_code : Cond.code Lib.Math.max.name Lib.Math.max.code 2 (some .int) ∈ lw_gd := mem_gd (List.mem_of_getElem? (i := 694) (by decide +kernel)) rfl
theorem mmin_stat : Cond.static Lib.Math.min.name ∈ lw_gd := mem_gd (List.mem_of_getElem? (i := 566) (by decide +kernel)) rfl
theorem mmin_code : Cond.code Lib.Math.min.name Lib.Math.min.code 2 (some .int) ∈ lw_gd := mem_gd (List.mem_of_getElem? (i := 567) (by decide +kernel)) rfl
theorem mth_ini : Cond.initialized "java/lang/Math" ∈ lw_gd := mem_gd (List.mem_of_getElem? (i := 72) (by decide +kernel)) rfl
section RUL
variable {l : Launch} {B : Nat} {ro : Nat → Nat} {cA dC : Nat → ClassId} {dI : Nat → Nat → Nat} {σ : List Sh} {x : RO} {d M : Nat} {Q : QT}
variable {p : Program} {e : Env} {R : Room} {s : State} {m : MethodId} {args : Array Value} {below : List Frame} {meth : Method} {c : Code} {H : Heap} {locs : List Loc} {cells slots : Nat} {Z : State → Prop} {lsr : Array Slot}
variable {pc : Nat} {ls : LsT} {st : List AV} {I : MI} {J : MJ} {k : KT} {nx i j ps len : Nat} {c0 : Int} {ins : Instr}
theorem s_33 (C : Cx B ro cA dC dI x d M p R s m args meth c cells slots) (L : LoR B ro lsr (MR M).2.2.1 ls) (D : Wd B cA dC dI σ I J s H locs) (rt : Rt l B cA dC dI σ M Q p e R s m args below meth c cells slots Z)
    (hd : decode (MR M).2.1 pc = .ok (ins, len)) (hc : chk1 M pc (33, nx, i, j, c0) ps ins len = true)
    (go : ∀ pc' ls' st' I' J' H' locs' lsr', k pc' ls' st' I' J' → LoR B ro lsr' (MR M).2.2.1 ls' → Wd B cA dC dI σ I' J' s H' locs' → W p l e R s m args below meth c H' locs' cells slots Z (F0 m pc' lsr' (st'.map (cv B ro))))
    (h : wp1 (Ex σ x d) σ x (33, nx, i, j, c0) pc ls st I J k Q) : W p l e R s m args below meth c H locs cells slots Z (F0 m pc lsr (st.map (cv B ro))) := by
  simp only [chk1, Bool.and_eq_true, decide_eq_true_eq] at hc
  obtain ⟨rfl, hc⟩ := hc
  simp only [wp1] at h
  split at hc
  · rename_i b off
    simp only [decide_eq_true_eq] at hc
    obtain ⟨rfl, ht, rfl⟩ := hc
    split at h
    · rename_i a r
      obtain ⟨ha, h1, h2⟩ := h
      cases b
      · exact lv_if_eq C.1 C.2.1 hd ht (fun q => go _ _ _ _ _ _ _ _ (h1 ((ofI_eq0 ha).mp q)) L D) (fun q => go _ _ _ _ _ _ _ _ (h2 (fun z => q ((ofI_eq0 ha).mpr z))) L D)
      · exact lv_if_ne C.1 C.2.1 hd ht (fun q => go _ _ _ _ _ _ _ _ (h1 (fun z => q ((ofI_eq0 ha).mpr z))) L D) (fun q => go _ _ _ _ _ _ _ _ (h2 (fun z => z ((ofI_eq0 ha).mp q))) L D)
      · exact lv_if_lt C.1 C.2.1 hd ht (fun q => go _ _ _ _ _ _ _ _ (h1 ((ofI_lt0 ha).mp q)) L D) (fun q => go _ _ _ _ _ _ _ _ (h2 (fun z => q ((ofI_lt0 ha).mpr z))) L D)
      · exact lv_if_ge C.1 C.2.1 hd ht (fun q => go _ _ _ _ _ _ _ _ (h1 ((ofI_0le ha).mp q)) L D) (fun q => go _ _ _ _ _ _ _ _ (h2 (fun z => q ((ofI_0le ha).mpr z))) L D)
      · exact lv_if_gt C.1 C.2.1 hd ht (fun q => go _ _ _ _ _ _ _ _ (h1 ((ofI_0lt ha).mp q)) L D) (fun q => go _ _ _ _ _ _ _ _ (h2 (fun z => q ((ofI_0lt ha).mpr z))) L D)
      · exact lv_if_le C.1 C.2.1 hd ht (fun q => go _ _ _ _ _ _ _ _ (h1 ((ofI_le0 ha).mp q)) L D) (fun q => go _ _ _ _ _ _ _ _ (h2 (fun z => q ((ofI_le0 ha).mpr z))) L D)
    · cases h
  · cases hc

theorem s_34 (C : Cx B ro cA dC dI x d M p R s m args meth c cells slots) (L : LoR B ro lsr (MR M).2.2.1 ls) (D : Wd B cA dC dI σ I J s H locs) (rt : Rt l B cA dC dI σ M Q p e R s m args below meth c cells slots Z)
    (hd : decode (MR M).2.1 pc = .ok (ins, len)) (hc : chk1 M pc (34, nx, i, j, c0) ps ins len = true)
    (go : ∀ pc' ls' st' I' J' H' locs' lsr', k pc' ls' st' I' J' → LoR B ro lsr' (MR M).2.2.1 ls' → Wd B cA dC dI σ I' J' s H' locs' → W p l e R s m args below meth c H' locs' cells slots Z (F0 m pc' lsr' (st'.map (cv B ro))))
    (h : wp1 (Ex σ x d) σ x (34, nx, i, j, c0) pc ls st I J k Q) : W p l e R s m args below meth c H locs cells slots Z (F0 m pc lsr (st.map (cv B ro))) := by
  simp only [chk1, Bool.and_eq_true, decide_eq_true_eq] at hc
  obtain ⟨rfl, hc⟩ := hc
  simp only [wp1] at h
  split at hc
  · rename_i b off
    simp only [decide_eq_true_eq] at hc
    obtain ⟨rfl, ht, rfl⟩ := hc
    split at h
    · rename_i y a r
      obtain ⟨ha, hy, h1, h2⟩ := h
      cases b
      · exact lv_icmp_eq C.1 C.2.1 hd ht (fun q => go _ _ _ _ _ _ _ _ (h1 ((ofI_eq ha hy).mp q)) L D) (fun q => go _ _ _ _ _ _ _ _ (h2 (fun z => q ((ofI_eq ha hy).mpr z))) L D)
      · exact lv_icmp_ne C.1 C.2.1 hd ht (fun q => go _ _ _ _ _ _ _ _ (h1 (fun z => q ((ofI_eq ha hy).mpr z))) L D) (fun q => go _ _ _ _ _ _ _ _ (h2 (fun z => z ((ofI_eq ha hy).mp q))) L D)
      · exact lv_icmp_lt C.1 C.2.1 hd ht (fun q => go _ _ _ _ _ _ _ _ (h1 ((ofI_lt ha hy).mp q)) L D) (fun q => go _ _ _ _ _ _ _ _ (h2 (fun z => q ((ofI_lt ha hy).mpr z))) L D)
      · exact lv_icmp_ge C.1 C.2.1 hd ht (fun q => go _ _ _ _ _ _ _ _ (h1 ((ofI_le hy ha).mp q)) L D) (fun q => go _ _ _ _ _ _ _ _ (h2 (fun z => q ((ofI_le hy ha).mpr z))) L D)
      · exact lv_icmp_gt C.1 C.2.1 hd ht (fun q => go _ _ _ _ _ _ _ _ (h1 ((ofI_lt hy ha).mp q)) L D) (fun q => go _ _ _ _ _ _ _ _ (h2 (fun z => q ((ofI_lt hy ha).mpr z))) L D)
      · exact lv_icmp_le C.1 C.2.1 hd ht (fun q => go _ _ _ _ _ _ _ _ (h1 ((ofI_le ha hy).mp q)) L D) (fun q => go _ _ _ _ _ _ _ _ (h2 (fun z => q ((ofI_le ha hy).mpr z))) L D)
    · cases h
  · cases hc

theorem s_35 (C : Cx B ro cA dC dI x d M p R s m args meth c cells slots) (L : LoR B ro lsr (MR M).2.2.1 ls) (D : Wd B cA dC dI σ I J s H locs) (rt : Rt l B cA dC dI σ M Q p e R s m args below meth c cells slots Z)
    (hd : decode (MR M).2.1 pc = .ok (ins, len)) (hc : chk1 M pc (35, nx, i, j, c0) ps ins len = true)
    (go : ∀ pc' ls' st' I' J' H' locs' lsr', k pc' ls' st' I' J' → LoR B ro lsr' (MR M).2.2.1 ls' → Wd B cA dC dI σ I' J' s H' locs' → W p l e R s m args below meth c H' locs' cells slots Z (F0 m pc' lsr' (st'.map (cv B ro))))
    (h : wp1 (Ex σ x d) σ x (35, nx, i, j, c0) pc ls st I J k Q) : W p l e R s m args below meth c H locs cells slots Z (F0 m pc lsr (st.map (cv B ro))) := by
  simp only [chk1, Bool.and_eq_true, decide_eq_true_eq] at hc
  obtain ⟨rfl, hc⟩ := hc
  simp only [wp1] at h
  split at hc
  · rename_i off
    simp only [decide_eq_true_eq] at hc
    obtain ⟨ht, rfl⟩ := hc
    exact lv_goto C.1 C.2.1 hd ht (go _ _ _ _ _ _ _ _ h L D)
  · cases hc

theorem s_36 (C : Cx B ro cA dC dI x d M p R s m args meth c cells slots) (L : LoR B ro lsr (MR M).2.2.1 ls) (D : Wd B cA dC dI σ I J s H locs) (rt : Rt l B cA dC dI σ M Q p e R s m args below meth c cells slots Z)
    (hd : decode (MR M).2.1 pc = .ok (ins, len)) (hc : chk1 M pc (36, nx, i, j, c0) ps ins len = true)
    (go : ∀ pc' ls' st' I' J' H' locs' lsr', k pc' ls' st' I' J' → LoR B ro lsr' (MR M).2.2.1 ls' → Wd B cA dC dI σ I' J' s H' locs' → W p l e R s m args below meth c H' locs' cells slots Z (F0 m pc' lsr' (st'.map (cv B ro))))
    (h : wp1 (Ex σ x d) σ x (36, nx, i, j, c0) pc ls st I J k Q) : W p l e R s m args below meth c H locs cells slots Z (F0 m pc lsr (st.map (cv B ro))) := by
  simp only [chk1, Bool.and_eq_true, decide_eq_true_eq] at hc
  obtain ⟨rfl, hc⟩ := hc
  simp only [wp1] at h
  split at h
  · rename_i a r lo ts dd hsw
    split at hc
    · rename_i df lo1 hi offs lo2 ts2 d2 hsw2
      cases hsw.symm.trans hsw2
      simp only [decide_eq_true_eq] at hc
      obtain ⟨rfl, hhi, hdf, hoffs⟩ := hc
      obtain ⟨ha, h1, h2⟩ := h
      by_cases hout : a < lo ∨ lo + ts.length ≤ a
      · exact lv_tableOut C.1 C.2.1 hd (by rw [toI_ofI ha]; omega) hdf (go _ _ _ _ _ _ _ _ (h1 hout) L D)
      · have hi2 : (a - lo).toNat < ts.length := by omega
        have ht := List.getElem?_eq_getElem hi2
        have hz := congrArg (fun (z : List Int) => z[(a - lo).toNat]?) hoffs
        simp only [List.getElem?_map, ht, Option.map_some] at hz
        cases ho : offs.toList[(a - lo).toNat]? with
        | none => rw [ho] at hz; cases hz
        | some off =>
          rw [ho] at hz
          have hz2 := Option.some.inj hz
          refine lv_tableIn (off := off) C.1 C.2.1 hd (by rw [toI_ofI ha]; omega) (by rw [toI_ofI ha]; omega) (by rw [toI_ofI ha, ← Array.getElem?_toList]; exact ho) hz2 (go _ _ _ _ _ _ _ _ (h2 _ _ ht (by omega)) L D)
    · cases hc
  · cases h

theorem s_37 (C : Cx B ro cA dC dI x d M p R s m args meth c cells slots) (L : LoR B ro lsr (MR M).2.2.1 ls) (D : Wd B cA dC dI σ I J s H locs) (rt : Rt l B cA dC dI σ M Q p e R s m args below meth c cells slots Z) (w : WfS σ)
    (hd : decode (MR M).2.1 pc = .ok (ins, len)) (hc : chk1 M pc (37, nx, i, j, c0) ps ins len = true)
    (go : ∀ pc' ls' st' I' J' H' locs' lsr', k pc' ls' st' I' J' → LoR B ro lsr' (MR M).2.2.1 ls' → Wd B cA dC dI σ I' J' s H' locs' → W p l e R s m args below meth c H' locs' cells slots Z (F0 m pc' lsr' (st'.map (cv B ro))))
    (h : wp1 (Ex σ x d) σ x (37, nx, i, j, c0) pc ls st I J k Q) : W p l e R s m args below meth c H locs cells slots Z (F0 m pc lsr (st.map (cv B ro))) := by
  simp only [chk1, Bool.and_eq_true, decide_eq_true_eq] at hc
  obtain ⟨rfl, hc⟩ := hc
  simp only [wp1] at h
  split at hc
  · rename_i q
    simp only [Bool.and_eq_true, decide_eq_true_eq] at hc
    obtain ⟨⟨rfl, hf⟩, hty⟩ := hc
    obtain ⟨Cn, T, N, hci, e1, e2, e3, e4, e5, hj, hlk, -⟩ := fOk_of hf
    split at h
    · rename_i r t
      obtain ⟨hcl, h⟩ := h
      obtain ⟨fs, hs, hlen, hfs⟩ := wf_obj w hcl hci
      have hjl : j < fs.length := by rw [hlen, e2]; exact hj
      have hfj := List.getElem?_eq_getElem hjl
      have hk := hfs j _ hfj
      generalize fs[j] = f at hfj hk
      rcases f with (_ | _) | _
      · exact va_get (ci := i) C.1 C.2.1 C.2.2.2.2.2.1 e3 C.2.2.2.2.1 C.2.2.2.2.2.2.2.2.2.2.2.1 D.1 r (wsW_at hs) e1 j hj (C.2.2.2.2.2.1 _ hlk) (fun _ z => z) (fvL_at hfj) hd (go _ _ _ _ _ _ _ _ h L D)
      · simp only at hk; omega
      · simp only at hk; omega
    · cases h
  · cases hc

theorem s_38 (C : Cx B ro cA dC dI x d M p R s m args meth c cells slots) (L : LoR B ro lsr (MR M).2.2.1 ls) (D : Wd B cA dC dI σ I J s H locs) (rt : Rt l B cA dC dI σ M Q p e R s m args below meth c cells slots Z) (w : WfS σ)
    (hd : decode (MR M).2.1 pc = .ok (ins, len)) (hc : chk1 M pc (38, nx, i, j, c0) ps ins len = true)
    (go : ∀ pc' ls' st' I' J' H' locs' lsr', k pc' ls' st' I' J' → LoR B ro lsr' (MR M).2.2.1 ls' → Wd B cA dC dI σ I' J' s H' locs' → W p l e R s m args below meth c H' locs' cells slots Z (F0 m pc' lsr' (st'.map (cv B ro))))
    (h : wp1 (Ex σ x d) σ x (38, nx, i, j, c0) pc ls st I J k Q) : W p l e R s m args below meth c H locs cells slots Z (F0 m pc lsr (st.map (cv B ro))) := by
  simp only [chk1, Bool.and_eq_true, decide_eq_true_eq] at hc
  obtain ⟨rfl, hc⟩ := hc
  simp only [wp1] at h
  split at hc
  · rename_i q
    simp only [Bool.and_eq_true, decide_eq_true_eq] at hc
    obtain ⟨⟨rfl, hf⟩, hty⟩ := hc
    obtain ⟨Cn, T, N, hci, e1, e2, e3, e4, e5, hj, hlk, -⟩ := fOk_of hf
    split at h
    · rename_i r t
      obtain ⟨hcl, h⟩ := h
      obtain ⟨fs, hs, hlen, hfs⟩ := wf_obj w hcl hci
      have hjl : j < fs.length := by rw [hlen, e2]; exact hj
      have hfj := List.getElem?_eq_getElem hjl
      have hk := hfs j _ hfj
      generalize fs[j] = f at hfj hk
      rcases f with (_ | _) | _
      · simp only at hk; omega
      · exact va_get (ci := i) C.1 C.2.1 C.2.2.2.2.2.1 e3 C.2.2.2.2.1 C.2.2.2.2.2.2.2.2.2.2.2.1 D.1 r (wsW_at hs) e1 j hj (C.2.2.2.2.2.1 _ hlk) (fun _ z => z) (fvL_at hfj) hd (go _ _ _ _ _ _ _ _ h L D)
      · simp only at hk; omega
    · cases h
  · cases hc

theorem s_39 (C : Cx B ro cA dC dI x d M p R s m args meth c cells slots) (L : LoR B ro lsr (MR M).2.2.1 ls) (D : Wd B cA dC dI σ I J s H locs) (rt : Rt l B cA dC dI σ M Q p e R s m args below meth c cells slots Z) (w : WfS σ)
    (hd : decode (MR M).2.1 pc = .ok (ins, len)) (hc : chk1 M pc (39, nx, i, j, c0) ps ins len = true)
    (go : ∀ pc' ls' st' I' J' H' locs' lsr', k pc' ls' st' I' J' → LoR B ro lsr' (MR M).2.2.1 ls' → Wd B cA dC dI σ I' J' s H' locs' → W p l e R s m args below meth c H' locs' cells slots Z (F0 m pc' lsr' (st'.map (cv B ro))))
    (h : wp1 (Ex σ x d) σ x (39, nx, i, j, c0) pc ls st I J k Q) : W p l e R s m args below meth c H locs cells slots Z (F0 m pc lsr (st.map (cv B ro))) := by
  simp only [chk1, Bool.and_eq_true, decide_eq_true_eq] at hc
  obtain ⟨rfl, hc⟩ := hc
  simp only [wp1] at h
  split at hc
  · rename_i q
    simp only [Bool.and_eq_true, decide_eq_true_eq] at hc
    obtain ⟨⟨rfl, hf⟩, hty⟩ := hc
    obtain ⟨Cn, T, N, hci, e1, e2, e3, e4, e5, hj, hlk, -⟩ := fOk_of hf
    split at h
    · rename_i r t
      obtain ⟨hcl, h⟩ := h
      obtain ⟨fs, hs, hlen, hfs⟩ := wf_obj w hcl hci
      have hjl : j < fs.length := by rw [hlen, e2]; exact hj
      have hfj := List.getElem?_eq_getElem hjl
      have hk := hfs j _ hfj
      obtain ⟨q2, hq, h⟩ := h
      have hfq : fs[j]? = some (.inr (some q2)) := by
        unfold rfS at hq
        rw [hs] at hq
        simp only at hq
        split at hq
        · rename_i z hz
          rw [hz, hq]
        · cases hq
      exact va_get (ci := i) C.1 C.2.1 C.2.2.2.2.2.1 e3 C.2.2.2.2.1 C.2.2.2.2.2.2.2.2.2.2.2.1 D.1 r (wsW_at hs) e1 j hj (C.2.2.2.2.2.1 _ hlk) (fun _ z => z) (fvL_at hfq) hd (go _ _ _ _ _ _ _ _ h L D)
    · cases h
  · cases hc

theorem s_40 (C : Cx B ro cA dC dI x d M p R s m args meth c cells slots) (L : LoR B ro lsr (MR M).2.2.1 ls) (D : Wd B cA dC dI σ I J s H locs) (rt : Rt l B cA dC dI σ M Q p e R s m args below meth c cells slots Z) (w : WfS σ)
    (hd : decode (MR M).2.1 pc = .ok (ins, len)) (hc : chk1 M pc (40, nx, i, j, c0) ps ins len = true)
    (go : ∀ pc' ls' st' I' J' H' locs' lsr', k pc' ls' st' I' J' → LoR B ro lsr' (MR M).2.2.1 ls' → Wd B cA dC dI σ I' J' s H' locs' → W p l e R s m args below meth c H' locs' cells slots Z (F0 m pc' lsr' (st'.map (cv B ro))))
    (h : wp1 (Ex σ x d) σ x (40, nx, i, j, c0) pc ls st I J k Q) : W p l e R s m args below meth c H locs cells slots Z (F0 m pc lsr (st.map (cv B ro))) := by
  simp only [chk1, Bool.and_eq_true, decide_eq_true_eq] at hc
  obtain ⟨rfl, hc⟩ := hc
  simp only [wp1] at h
  split at hc
  · rename_i q
    simp only [Bool.and_eq_true, decide_eq_true_eq] at hc
    obtain ⟨⟨⟨rfl, hf⟩, hty⟩, hfin⟩ := hc
    obtain ⟨Cn, T, N, hci, e1, e2, e3, e4, e5, hj, hlk, hfn⟩ := fOk_of hf
    split at h
    · rename_i v r t
      obtain ⟨hcl, h⟩ := h
      obtain ⟨fs, hs, hlen, hfs⟩ := wf_obj w hcl hci
      have hjl : j < fs.length := by rw [hlen, e2]; exact hj
      have hfj := List.getElem?_eq_getElem hjl
      have hk := hfs j _ hfj
      have hfk : fs[j]? = some (.inl false) := by
        generalize fs[j] = f at hfj hk
        rcases f with (_ | _) | _ <;> first | exact hfj | (exfalso; simp only [hty] at hk; revert hk; decide)
      refine va_put (ci := i) C.1 C.2.1 C.2.2.2.2.2.1 e3 (TYF i) e4 e5 C.2.2.2.2.1 C.2.2.2.2.2.2.2.2.2.2.2.1 D.1 wsW_D D.2 r (wsW_at hs) e1 j hj (C.2.2.2.2.2.1 _ hlk) (fun _ z => z) (by rw [← hfn]; exact hfin) ((e4 j hj).trans (by rw [hty])) (rfl) (rfl) (by unfold fvL; rw [List.length_mapIdx]; exact hjl) hd (fun H1 locs1 hP _ hS => ?_)
      refine go _ _ _ _ _ _ _ _ h L ⟨?_, hS⟩
      rw [wsW_set hs (I' := up I r j v) (J' := J) (fun c h => up_ne h) (fun _ _ => rfl)] at hP
      · exact hP
      · show (Sum.inr _ : va_E) = Sum.inr _
        rw [fvL_set hfk]
        · simp [fvV, cv, up]
        · exact fun q hq => by unfold up; rw [if_neg]; rintro ⟨-, z⟩; omega
        · exact fun q hq => rfl
    · cases h
  · cases hc

theorem s_41 (C : Cx B ro cA dC dI x d M p R s m args meth c cells slots) (L : LoR B ro lsr (MR M).2.2.1 ls) (D : Wd B cA dC dI σ I J s H locs) (rt : Rt l B cA dC dI σ M Q p e R s m args below meth c cells slots Z) (w : WfS σ)
    (hd : decode (MR M).2.1 pc = .ok (ins, len)) (hc : chk1 M pc (41, nx, i, j, c0) ps ins len = true)
    (go : ∀ pc' ls' st' I' J' H' locs' lsr', k pc' ls' st' I' J' → LoR B ro lsr' (MR M).2.2.1 ls' → Wd B cA dC dI σ I' J' s H' locs' → W p l e R s m args below meth c H' locs' cells slots Z (F0 m pc' lsr' (st'.map (cv B ro))))
    (h : wp1 (Ex σ x d) σ x (41, nx, i, j, c0) pc ls st I J k Q) : W p l e R s m args below meth c H locs cells slots Z (F0 m pc lsr (st.map (cv B ro))) := by
  simp only [chk1, Bool.and_eq_true, decide_eq_true_eq] at hc
  obtain ⟨rfl, hc⟩ := hc
  simp only [wp1] at h
  split at hc
  · rename_i q
    simp only [Bool.and_eq_true, decide_eq_true_eq] at hc
    obtain ⟨⟨⟨rfl, hf⟩, hty⟩, hfin⟩ := hc
    obtain ⟨Cn, T, N, hci, e1, e2, e3, e4, e5, hj, hlk, hfn⟩ := fOk_of hf
    split at h
    · rename_i v r t
      obtain ⟨hcl, h01, h⟩ := h
      obtain ⟨fs, hs, hlen, hfs⟩ := wf_obj w hcl hci
      have hjl : j < fs.length := by rw [hlen, e2]; exact hj
      have hfj := List.getElem?_eq_getElem hjl
      have hk := hfs j _ hfj
      have hfk : fs[j]? = some (.inl false) := by
        generalize fs[j] = f at hfj hk
        rcases f with (_ | _) | _ <;> first | exact hfj | (exfalso; simp only [hty] at hk; revert hk; decide)
      refine va_put (ci := i) C.1 C.2.1 C.2.2.2.2.2.1 e3 (TYF i) e4 e5 C.2.2.2.2.1 C.2.2.2.2.2.2.2.2.2.2.2.1 D.1 wsW_D D.2 r (wsW_at hs) e1 j hj (C.2.2.2.2.2.1 _ hlk) (fun _ z => z) (by rw [← hfn]; exact hfin) ((e4 j hj).trans (by rw [hty])) (by rcases h01 with rfl | rfl <;> rfl) (by rcases h01 with rfl | rfl <;> rfl) (by unfold fvL; rw [List.length_mapIdx]; exact hjl) hd (fun H1 locs1 hP _ hS => ?_)
      refine go _ _ _ _ _ _ _ _ h L ⟨?_, hS⟩
      rw [wsW_set hs (I' := up I r j v) (J' := J) (fun c h => up_ne h) (fun _ _ => rfl)] at hP
      · exact hP
      · show (Sum.inr _ : va_E) = Sum.inr _
        rw [fvL_set hfk]
        · simp [fvV, cv, up]
        · exact fun q hq => by unfold up; rw [if_neg]; rintro ⟨-, z⟩; omega
        · exact fun q hq => rfl
    · cases h
  · cases hc

theorem s_42 (C : Cx B ro cA dC dI x d M p R s m args meth c cells slots) (L : LoR B ro lsr (MR M).2.2.1 ls) (D : Wd B cA dC dI σ I J s H locs) (rt : Rt l B cA dC dI σ M Q p e R s m args below meth c cells slots Z) (w : WfS σ)
    (hd : decode (MR M).2.1 pc = .ok (ins, len)) (hc : chk1 M pc (42, nx, i, j, c0) ps ins len = true)
    (go : ∀ pc' ls' st' I' J' H' locs' lsr', k pc' ls' st' I' J' → LoR B ro lsr' (MR M).2.2.1 ls' → Wd B cA dC dI σ I' J' s H' locs' → W p l e R s m args below meth c H' locs' cells slots Z (F0 m pc' lsr' (st'.map (cv B ro))))
    (h : wp1 (Ex σ x d) σ x (42, nx, i, j, c0) pc ls st I J k Q) : W p l e R s m args below meth c H locs cells slots Z (F0 m pc lsr (st.map (cv B ro))) := by
  simp only [chk1, Bool.and_eq_true, decide_eq_true_eq] at hc
  obtain ⟨rfl, hc⟩ := hc
  simp only [wp1] at h
  split at hc
  · rename_i q
    simp only [Bool.and_eq_true, decide_eq_true_eq] at hc
    obtain ⟨⟨⟨rfl, hf⟩, hty⟩, hfin⟩ := hc
    obtain ⟨Cn, T, N, hci, e1, e2, e3, e4, e5, hj, hlk, hfn⟩ := fOk_of hf
    split at h
    · rename_i v r t
      obtain ⟨hcl, h⟩ := h
      obtain ⟨fs, hs, hlen, hfs⟩ := wf_obj w hcl hci
      have hjl : j < fs.length := by rw [hlen, e2]; exact hj
      have hfj := List.getElem?_eq_getElem hjl
      have hk := hfs j _ hfj
      have hfk : fs[j]? = some (.inl true) := by
        generalize fs[j] = f at hfj hk
        rcases f with (_ | _) | _ <;> first | exact hfj | (exfalso; simp only [hty] at hk; revert hk; decide)
      refine va_put (ci := i) C.1 C.2.1 C.2.2.2.2.2.1 e3 (TYF i) e4 e5 C.2.2.2.2.1 C.2.2.2.2.2.2.2.2.2.2.2.1 D.1 wsW_D D.2 r (wsW_at hs) e1 j hj (C.2.2.2.2.2.1 _ hlk) (fun _ z => z) (by rw [← hfn]; exact hfin) ((e4 j hj).trans (by rw [hty])) (rfl) (rfl) (by unfold fvL; rw [List.length_mapIdx]; exact hjl) hd (fun H1 locs1 hP _ hS => ?_)
      refine go _ _ _ _ _ _ _ _ h L ⟨?_, hS⟩
      rw [wsW_set hs (I' := I) (J' := upL J r j v) (fun _ _ => rfl) (fun c h => upL_ne h)] at hP
      · exact hP
      · show (Sum.inr _ : va_E) = Sum.inr _
        rw [fvL_set hfk]
        · simp [fvV, cv, upL]
        · exact fun q hq => rfl
        · exact fun q hq => by unfold upL; rw [if_neg]; rintro ⟨-, z⟩; omega
    · cases h
  · cases hc

theorem s_43 (C : Cx B ro cA dC dI x d M p R s m args meth c cells slots) (L : LoR B ro lsr (MR M).2.2.1 ls) (D : Wd B cA dC dI σ I J s H locs) (rt : Rt l B cA dC dI σ M Q p e R s m args below meth c cells slots Z)
    (hd : decode (MR M).2.1 pc = .ok (ins, len)) (hc : chk1 M pc (43, nx, i, j, c0) ps ins len = true)
    (go : ∀ pc' ls' st' I' J' H' locs' lsr', k pc' ls' st' I' J' → LoR B ro lsr' (MR M).2.2.1 ls' → Wd B cA dC dI σ I' J' s H' locs' → W p l e R s m args below meth c H' locs' cells slots Z (F0 m pc' lsr' (st'.map (cv B ro))))
    (h : wp1 (Ex σ x d) σ x (43, nx, i, j, c0) pc ls st I J k Q) : W p l e R s m args below meth c H locs cells slots Z (F0 m pc lsr (st.map (cv B ro))) := by
  simp only [chk1, Bool.and_eq_true, decide_eq_true_eq] at hc
  obtain ⟨rfl, hc⟩ := hc
  simp only [wp1] at h
  split at hc
  · rename_i q
    simp only [Bool.and_eq_true, decide_eq_true_eq] at hc
    obtain ⟨⟨rfl, hi0, hi4⟩, hlk⟩ := hc
    have hZ := C.2.2.2.2.2.2.2.2.2.2.2.2.1.2 i hi0 hi4
    split at hlk
    · simp only [decide_eq_true_eq] at hlk
      exact va_gets C.1 C.2.1 hZ D.2 C.2.2.2.2.1 (C.2.2.2.2.2.1 _ (mem_gd (List.mem_of_getElem? hlk) rfl)) (fun _ z => z) hd (go _ _ _ _ _ _ _ _ h L D)
    · simp only [decide_eq_true_eq] at hlk
      exact va_getsN C.1 C.2.1 hZ D.2 C.2.2.2.2.1 (va_Nw.use rfl (C.2.2.2.2.2.2.2.2.2.2.2.2.2.1 _ (List.mem_of_getElem? hlk) rfl)) (fun _ z => z) hd (go _ _ _ _ _ _ _ _ h L D)
  · cases hc

theorem s_44 (C : Cx B ro cA dC dI x d M p R s m args meth c cells slots) (L : LoR B ro lsr (MR M).2.2.1 ls) (D : Wd B cA dC dI σ I J s H locs) (rt : Rt l B cA dC dI σ M Q p e R s m args below meth c cells slots Z) (w : WfS σ) (hro : ∀ t, t < 4 → ∀ z : Int, z < (roA x t).1 → z < 2147483648)
    (hd : decode (MR M).2.1 pc = .ok (ins, len)) (hc : chk1 M pc (44, nx, i, j, c0) ps ins len = true)
    (go : ∀ pc' ls' st' I' J' H' locs' lsr', k pc' ls' st' I' J' → LoR B ro lsr' (MR M).2.2.1 ls' → Wd B cA dC dI σ I' J' s H' locs' → W p l e R s m args below meth c H' locs' cells slots Z (F0 m pc' lsr' (st'.map (cv B ro))))
    (h : wp1 (Ex σ x d) σ x (44, nx, i, j, c0) pc ls st I J k Q) : W p l e R s m args below meth c H locs cells slots Z (F0 m pc lsr (st.map (cv B ro))) := by
  simp only [chk1, Bool.and_eq_true, decide_eq_true_eq] at hc
  obtain ⟨rfl, hc⟩ := hc
  simp only [wp1] at h
  obtain ⟨rfl, rfl⟩ := hc
  split at h
  · rename_i ix r t
    obtain ⟨hcl, h0, hlt, h⟩ := h
    obtain ⟨n, hs, hn, hln⟩ := wf_num (t := 0) w hcl (by decide)
    rw [hln] at hlt
    have h := go _ _ _ _ _ _ _ _ h L D
    refine va_iald C.1 C.2.1 C.2.2.2.2.2.2.2.2.2.2.2.1 D.1 r 0 (wsW_at hs) rfl (vp_ofI (by omega) h0 hlt) hd ?_
    simp only [ofI_clamp h0 (by omega), Int.toNat_of_nonneg h0]
    exact h
  · rename_i ix wn t
    obtain ⟨hw, h0, hlt, h⟩ := h
    have h := go _ _ _ _ _ _ _ _ h L D
    obtain ⟨cell, g1, g2, g3, g4, g5, g6, g7⟩ := C.2.2.2.2.2.2.2.2.2.2.2.2.1.1 wn hw
    have hsz : cell.slots.size = (roA x wn).1 ∨ True := Or.inr trivial
    have hnn : ix.toNat < (roA x wn).1 := by omega
    have hix : ix < 2147483648 := hro wn hw ix hlt
    refine W.iald (v := .int (Int32.ofInt ((roA x wn).2 ix.toNat))) C.1 C.2.1 (by rw [D.2.2.1 _ (Array.getElem?_eq_some_iff.mp g1).1 g7]; exact g1) g2 g3 ?_ ?_ rfl rfl hd h
    · rw [ofI_clamp h0 hix, ofI_lt0 ⟨by omega, hix⟩]; omega
    · rw [ofI_clamp h0 hix]; exact g6 _ hnn
  · cases h

theorem s_45 (C : Cx B ro cA dC dI x d M p R s m args meth c cells slots) (L : LoR B ro lsr (MR M).2.2.1 ls) (D : Wd B cA dC dI σ I J s H locs) (rt : Rt l B cA dC dI σ M Q p e R s m args below meth c cells slots Z) (w : WfS σ)
    (hd : decode (MR M).2.1 pc = .ok (ins, len)) (hc : chk1 M pc (45, nx, i, j, c0) ps ins len = true)
    (go : ∀ pc' ls' st' I' J' H' locs' lsr', k pc' ls' st' I' J' → LoR B ro lsr' (MR M).2.2.1 ls' → Wd B cA dC dI σ I' J' s H' locs' → W p l e R s m args below meth c H' locs' cells slots Z (F0 m pc' lsr' (st'.map (cv B ro))))
    (h : wp1 (Ex σ x d) σ x (45, nx, i, j, c0) pc ls st I J k Q) : W p l e R s m args below meth c H locs cells slots Z (F0 m pc lsr (st.map (cv B ro))) := by
  simp only [chk1, Bool.and_eq_true, decide_eq_true_eq] at hc
  obtain ⟨rfl, hc⟩ := hc
  simp only [wp1] at h
  obtain ⟨rfl, rfl⟩ := hc
  split at h
  · rename_i v ix r t
    obtain ⟨hcl, h0, hlt, h⟩ := h
    obtain ⟨n, hs, hn, hln⟩ := wf_num (t := 0) w hcl (by decide)
    rw [hln] at hlt
    refine va_iast C.1 C.2.1 C.2.2.2.2.2.2.2.2.2.2.2.1 D.1 wsW_D D.2 r 0 (wsW_at hs) rfl (vp_ofI (by omega) h0 hlt) hd (fun H1 locs1 hP _ hS => ?_)
    refine go _ _ _ _ _ _ _ _ h L ⟨?_, hS⟩
    rw [ofI_clamp h0 (by omega), up_row h0, wsW_set hs (I' := up I r ix v) (J' := J) (fun c h => up_ne h) (fun _ _ => rfl)] at hP
    · exact hP
    · rfl
  · cases h

theorem s_46 (C : Cx B ro cA dC dI x d M p R s m args meth c cells slots) (L : LoR B ro lsr (MR M).2.2.1 ls) (D : Wd B cA dC dI σ I J s H locs) (rt : Rt l B cA dC dI σ M Q p e R s m args below meth c cells slots Z) (w : WfS σ)
    (hd : decode (MR M).2.1 pc = .ok (ins, len)) (hc : chk1 M pc (46, nx, i, j, c0) ps ins len = true)
    (go : ∀ pc' ls' st' I' J' H' locs' lsr', k pc' ls' st' I' J' → LoR B ro lsr' (MR M).2.2.1 ls' → Wd B cA dC dI σ I' J' s H' locs' → W p l e R s m args below meth c H' locs' cells slots Z (F0 m pc' lsr' (st'.map (cv B ro))))
    (h : wp1 (Ex σ x d) σ x (46, nx, i, j, c0) pc ls st I J k Q) : W p l e R s m args below meth c H locs cells slots Z (F0 m pc lsr (st.map (cv B ro))) := by
  simp only [chk1, Bool.and_eq_true, decide_eq_true_eq] at hc
  obtain ⟨rfl, hc⟩ := hc
  simp only [wp1] at h
  obtain ⟨rfl, rfl⟩ := hc
  split at h
  · rename_i ix r t
    obtain ⟨hcl, h0, hlt, h⟩ := h
    obtain ⟨n, hs, hn, hln⟩ := wf_num (t := 2) w hcl (by decide)
    rw [hln] at hlt
    have h := go _ _ _ _ _ _ _ _ h L D
    refine va_zald C.1 C.2.1 C.2.2.2.2.2.2.2.2.2.2.2.1 D.1 r 2 (wsW_at hs) rfl (vp_ofI (by omega) h0 hlt) hd ?_
    simp only [ofI_clamp h0 (by omega), Int.toNat_of_nonneg h0]
    exact h
  · cases h

theorem s_47 (C : Cx B ro cA dC dI x d M p R s m args meth c cells slots) (L : LoR B ro lsr (MR M).2.2.1 ls) (D : Wd B cA dC dI σ I J s H locs) (rt : Rt l B cA dC dI σ M Q p e R s m args below meth c cells slots Z) (w : WfS σ)
    (hd : decode (MR M).2.1 pc = .ok (ins, len)) (hc : chk1 M pc (47, nx, i, j, c0) ps ins len = true)
    (go : ∀ pc' ls' st' I' J' H' locs' lsr', k pc' ls' st' I' J' → LoR B ro lsr' (MR M).2.2.1 ls' → Wd B cA dC dI σ I' J' s H' locs' → W p l e R s m args below meth c H' locs' cells slots Z (F0 m pc' lsr' (st'.map (cv B ro))))
    (h : wp1 (Ex σ x d) σ x (47, nx, i, j, c0) pc ls st I J k Q) : W p l e R s m args below meth c H locs cells slots Z (F0 m pc lsr (st.map (cv B ro))) := by
  simp only [chk1, Bool.and_eq_true, decide_eq_true_eq] at hc
  obtain ⟨rfl, hc⟩ := hc
  simp only [wp1] at h
  obtain ⟨rfl, rfl⟩ := hc
  split at h
  · rename_i v ix r t
    obtain ⟨hcl, h0, hlt, h01, h⟩ := h
    obtain ⟨n, hs, hn, hln⟩ := wf_num (t := 2) w hcl (by decide)
    rw [hln] at hlt
    refine va_zast C.1 C.2.1 C.2.2.2.2.2.2.2.2.2.2.2.1 D.1 wsW_D D.2 r 2 (wsW_at hs) rfl (vp_ofI (by omega) h0 hlt) hd (fun H1 locs1 hP _ hS => ?_)
    have hz : vp_nar .boolean (Int32.ofInt v) = Int32.ofInt v := by rcases h01 with rfl | rfl <;> rfl
    refine go _ _ _ _ _ _ _ _ h L ⟨?_, hS⟩
    rw [ofI_clamp h0 (by omega), hz, up_row h0, wsW_set hs (I' := up I r ix v) (J' := J) (fun c h => up_ne h) (fun _ _ => rfl)] at hP
    · exact hP
    · rfl
  · cases h

theorem s_48 (C : Cx B ro cA dC dI x d M p R s m args meth c cells slots) (L : LoR B ro lsr (MR M).2.2.1 ls) (D : Wd B cA dC dI σ I J s H locs) (rt : Rt l B cA dC dI σ M Q p e R s m args below meth c cells slots Z) (w : WfS σ)
    (hd : decode (MR M).2.1 pc = .ok (ins, len)) (hc : chk1 M pc (48, nx, i, j, c0) ps ins len = true)
    (go : ∀ pc' ls' st' I' J' H' locs' lsr', k pc' ls' st' I' J' → LoR B ro lsr' (MR M).2.2.1 ls' → Wd B cA dC dI σ I' J' s H' locs' → W p l e R s m args below meth c H' locs' cells slots Z (F0 m pc' lsr' (st'.map (cv B ro))))
    (h : wp1 (Ex σ x d) σ x (48, nx, i, j, c0) pc ls st I J k Q) : W p l e R s m args below meth c H locs cells slots Z (F0 m pc lsr (st.map (cv B ro))) := by
  simp only [chk1, Bool.and_eq_true, decide_eq_true_eq] at hc
  obtain ⟨rfl, hc⟩ := hc
  simp only [wp1] at h
  obtain ⟨rfl, rfl⟩ := hc
  split at h
  · rename_i ix r t
    obtain ⟨hcl, h0, hlt, h⟩ := h
    obtain ⟨n, hs, hn, hln⟩ := wf_num (t := 1) w hcl (by decide)
    rw [hln] at hlt
    have h := go _ _ _ _ _ _ _ _ h L D
    refine va_lald C.1 C.2.1 C.2.2.2.2.2.2.2.2.2.2.2.1 D.1 r 1 (wsW_at hs) rfl (vp_ofI (by omega) h0 hlt) hd ?_
    simp only [ofI_clamp h0 (by omega), Int.toNat_of_nonneg h0]
    exact h
  · cases h

theorem s_49 (C : Cx B ro cA dC dI x d M p R s m args meth c cells slots) (L : LoR B ro lsr (MR M).2.2.1 ls) (D : Wd B cA dC dI σ I J s H locs) (rt : Rt l B cA dC dI σ M Q p e R s m args below meth c cells slots Z) (w : WfS σ)
    (hd : decode (MR M).2.1 pc = .ok (ins, len)) (hc : chk1 M pc (49, nx, i, j, c0) ps ins len = true)
    (go : ∀ pc' ls' st' I' J' H' locs' lsr', k pc' ls' st' I' J' → LoR B ro lsr' (MR M).2.2.1 ls' → Wd B cA dC dI σ I' J' s H' locs' → W p l e R s m args below meth c H' locs' cells slots Z (F0 m pc' lsr' (st'.map (cv B ro))))
    (h : wp1 (Ex σ x d) σ x (49, nx, i, j, c0) pc ls st I J k Q) : W p l e R s m args below meth c H locs cells slots Z (F0 m pc lsr (st.map (cv B ro))) := by
  simp only [chk1, Bool.and_eq_true, decide_eq_true_eq] at hc
  obtain ⟨rfl, hc⟩ := hc
  simp only [wp1] at h
  obtain ⟨rfl, rfl⟩ := hc
  split at h
  · rename_i v ix r t
    obtain ⟨hcl, h0, hlt, h⟩ := h
    obtain ⟨n, hs, hn, hln⟩ := wf_num (t := 1) w hcl (by decide)
    rw [hln] at hlt
    refine va_last C.1 C.2.1 C.2.2.2.2.2.2.2.2.2.2.2.1 D.1 wsW_D D.2 r 1 (wsW_at hs) rfl (vp_ofI (by omega) h0 hlt) hd (fun H1 locs1 hP _ hS => ?_)
    refine go _ _ _ _ _ _ _ _ h L ⟨?_, hS⟩
    rw [ofI_clamp h0 (by omega), upL_row h0, wsW_set hs (I' := I) (J' := upL J r ix v) (fun _ _ => rfl) (fun c h => upL_ne h)] at hP
    · exact hP
    · rfl
  · cases h

theorem s_50 (C : Cx B ro cA dC dI x d M p R s m args meth c cells slots) (L : LoR B ro lsr (MR M).2.2.1 ls) (D : Wd B cA dC dI σ I J s H locs) (rt : Rt l B cA dC dI σ M Q p e R s m args below meth c cells slots Z) (w : WfS σ)
    (hd : decode (MR M).2.1 pc = .ok (ins, len)) (hc : chk1 M pc (50, nx, i, j, c0) ps ins len = true)
    (go : ∀ pc' ls' st' I' J' H' locs' lsr', k pc' ls' st' I' J' → LoR B ro lsr' (MR M).2.2.1 ls' → Wd B cA dC dI σ I' J' s H' locs' → W p l e R s m args below meth c H' locs' cells slots Z (F0 m pc' lsr' (st'.map (cv B ro))))
    (h : wp1 (Ex σ x d) σ x (50, nx, i, j, c0) pc ls st I J k Q) : W p l e R s m args below meth c H locs cells slots Z (F0 m pc lsr (st.map (cv B ro))) := by
  simp only [chk1, Bool.and_eq_true, decide_eq_true_eq] at hc
  obtain ⟨rfl, hc⟩ := hc
  simp only [wp1] at h
  obtain ⟨rfl, rfl⟩ := hc
  split at h
  · rename_i ix r t
    obtain ⟨hcl, hcl2, h0, hlt, q, hq, h⟩ := h
    obtain ⟨rs, hs, hn, hln⟩ := wf_ref (r := r) (t := clS σ r - 20) w (by omega) (by omega) (by omega)
    rw [hln] at hlt
    have h := go _ _ _ _ _ _ _ _ h L D
    have hv : va_rf (arR B rs ix.toNat) = .ref (B + q) := by
      unfold elS at hq
      rw [hs] at hq
      simp only at hq
      unfold arR
      rw [hq]
      rfl
    have fin : ∀ (tt : Nat) (Cn : String), clS σ r - 20 = tt → (tysL cA)[tt]? = some (cA tt, .object Cn) → W p l e R s m args below meth c H locs cells slots Z (F0 m pc lsr (List.map (cv B ro) (Sum.inl ix :: Sum.inr (Sum.inr (Sum.inl r)) :: t))) := by
      intro tt Cn e1 e2
      rw [e1] at hs
      refine va_aldq C.1 C.2.1 C.2.2.2.2.2.2.2.2.2.2.2.1 D.1 r tt (wsW_at hs) e2 (vp_ofI (by omega) h0 hlt) hd ?_
      rw [ofI_clamp h0 (by omega), hv]
      exact h
    have h345 : clS σ r - 20 = 3 ∨ clS σ r - 20 = 4 ∨ clS σ r - 20 = 5 := by omega
    rcases h345 with e | e | e
    · exact fin 3 _ e rfl
    · exact fin 4 _ e rfl
    · exact fin 5 _ e rfl
  · cases h

theorem s_51 (C : Cx B ro cA dC dI x d M p R s m args meth c cells slots) (L : LoR B ro lsr (MR M).2.2.1 ls) (D : Wd B cA dC dI σ I J s H locs) (rt : Rt l B cA dC dI σ M Q p e R s m args below meth c cells slots Z) (w : WfS σ)
    (hd : decode (MR M).2.1 pc = .ok (ins, len)) (hc : chk1 M pc (51, nx, i, j, c0) ps ins len = true)
    (go : ∀ pc' ls' st' I' J' H' locs' lsr', k pc' ls' st' I' J' → LoR B ro lsr' (MR M).2.2.1 ls' → Wd B cA dC dI σ I' J' s H' locs' → W p l e R s m args below meth c H' locs' cells slots Z (F0 m pc' lsr' (st'.map (cv B ro))))
    (h : wp1 (Ex σ x d) σ x (51, nx, i, j, c0) pc ls st I J k Q) : W p l e R s m args below meth c H locs cells slots Z (F0 m pc lsr (st.map (cv B ro))) := by
  simp only [chk1, Bool.and_eq_true, decide_eq_true_eq] at hc
  obtain ⟨rfl, hc⟩ := hc
  simp only [wp1] at h
  obtain ⟨rfl, rfl⟩ := hc
  split at h
  · rename_i r t
    obtain ⟨hcl, hcl2, hln, h⟩ := h
    have h := go _ _ _ _ _ _ _ _ h L D
    have fin : ∀ (tt : Nat) (ty : FieldType) (xx : vp_A), (tysL cA)[tt]? = some (cA tt, ty) → (wsW B cA σ I J)[r]? = some (B + r, .inl (cA tt, xx)) → xx.1 = lnS σ r → W p l e R s m args below meth c H locs cells slots Z (F0 m pc lsr (List.map (cv B ro) (Sum.inr (Sum.inr (Sum.inl r)) :: t))) := by
      intro tt ty xx e1 e2 e3
      refine va_alen C.1 C.2.1 C.2.2.2.2.2.2.2.2.2.2.2.1 D.1 r tt e2 e1 (v := Int32.ofInt (lnS σ r)) (by rw [e3]; rfl) hd h
    have hcase : clS σ r - 20 < 3 ∨ 3 ≤ clS σ r - 20 := by omega
    rcases hcase with hc3 | hc3
    · obtain ⟨n, hs, hn, hl2⟩ := wf_num (r := r) (t := clS σ r - 20) w (by omega) hc3
      have h012 : clS σ r - 20 = 0 ∨ clS σ r - 20 = 1 ∨ clS σ r - 20 = 2 := by omega
      rcases h012 with e | e | e <;> rw [e] at hs
      · exact fin 0 _ _ rfl (wsW_at hs) hl2.symm
      · exact fin 1 _ _ rfl (wsW_at hs) hl2.symm
      · exact fin 2 _ _ rfl (wsW_at hs) hl2.symm
    · obtain ⟨n, hs, hn, hl2⟩ := wf_ref (r := r) (t := clS σ r - 20) w (by omega) hc3 (by omega)
      have h012 : clS σ r - 20 = 3 ∨ clS σ r - 20 = 4 ∨ clS σ r - 20 = 5 := by omega
      rcases h012 with e | e | e <;> rw [e] at hs
      · exact fin 3 _ _ rfl (wsW_at hs) hl2.symm
      · exact fin 4 _ _ rfl (wsW_at hs) hl2.symm
      · exact fin 5 _ _ rfl (wsW_at hs) hl2.symm
  · rename_i wn t
    obtain ⟨hw, h⟩ := h
    have h := go _ _ _ _ _ _ _ _ h L D
    obtain ⟨cell, g1, g2, g3, g4, g5, g6, g7⟩ := C.2.2.2.2.2.2.2.2.2.2.2.2.1.1 wn hw
    exact W.alen (n := Int32.ofInt (roA x wn).1) C.1 C.2.1 (by rw [D.2.2.1 _ (Array.getElem?_eq_some_iff.mp g1).1 g7]; exact g1) g2 (by rw [g5]; rfl) rfl rfl hd h
  · cases h

theorem s_54 (C : Cx B ro cA dC dI x d M p R s m args meth c cells slots) (L : LoR B ro lsr (MR M).2.2.1 ls) (D : Wd B cA dC dI σ I J s H locs) (rt : Rt l B cA dC dI σ M Q p e R s m args below meth c cells slots Z) (w : WfS σ)
    (hd : decode (MR M).2.1 pc = .ok (ins, len)) (hc : chk1 M pc (54, nx, i, j, c0) ps ins len = true)
    (go : ∀ pc' ls' st' I' J' H' locs' lsr', k pc' ls' st' I' J' → LoR B ro lsr' (MR M).2.2.1 ls' → Wd B cA dC dI σ I' J' s H' locs' → W p l e R s m args below meth c H' locs' cells slots Z (F0 m pc' lsr' (st'.map (cv B ro))))
    (h : wp1 (Ex σ x d) σ x (54, nx, i, j, c0) pc ls st I J k Q) : W p l e R s m args below meth c H locs cells slots Z (F0 m pc lsr (st.map (cv B ro))) := by
  simp only [chk1, Bool.and_eq_true, decide_eq_true_eq] at hc
  obtain ⟨rfl, hc⟩ := hc
  simp only [wp1] at h
  split at hc
  · rename_i q
    simp only [Bool.and_eq_true, decide_eq_true_eq] at hc
    obtain ⟨rfl, hlk⟩ := hc
    split at h
    · rename_i n dp dd sp sr t
      obtain ⟨hcat, hcs, hcd, hn, hsp, hdp, hs1, hd1, h⟩ := h
      obtain ⟨n0, e0, hn0, hl0⟩ := wf_num (t := 0) w hcs (by decide)
      obtain ⟨n1, e1, hn1, hl1⟩ := wf_num (t := 0) w hcd (by decide)
      rw [hl0] at hs1
      rw [hl1] at hd1
      have hR : 40 * (d + 1) ≤ R.locals := C.2.2.2.2.2.2.2.2.1
      refine va_copyi C.1 C.2.1 (C.2.2.2.1.trans L.1.symm) C.2.2.2.2.1 (C.2.2.2.2.2.1 _ (mem_gd (List.mem_of_getElem? hlk) rfl)) (C.2.2.2.2.2.1 _ ac_nat) (C.2.2.2.2.2.1 _ ac_stat) (C.2.2.2.2.2.1 _ ac_ini) C.2.2.2.2.2.2.2.2.2.2.2.1 D.1 wsW_D D.2 sr dd 0 0 (wsW_at e0) (wsW_at e1) rfl rfl rfl ?_ ?_ ?_ ?_ ?_ (fun _ _ => rfl) (by have := C.2.2.2.2.2.2.2.1; omega) ?_ hd (fun H1 locs1 hP _ hS => ?_)
      · rw [ofI_lt0 ⟨by omega, by omega⟩]; omega
      · rw [ofI_lt0 ⟨by omega, by omega⟩]; omega
      · rw [ofI_lt0 ⟨by omega, by omega⟩]; omega
      · rw [ofI_clamp hsp (by omega), ofI_clamp hn (by omega)]; omega
      · rw [ofI_clamp hdp (by omega), ofI_clamp hn (by omega)]; omega
      · have hcc := catS_cv (B := B) (ro := ro) t
        have hnw : nativeFrameWords "java/lang/System" "arraycopy" 5 = 7 := rfl
        rw [hcc, hnw]; omega
      · refine go _ _ _ _ _ _ _ _ h L ⟨?_, hS⟩
        rw [ofI_clamp hsp (by omega), ofI_clamp hn (by omega), ofI_clamp hdp (by omega), wsW_set e1 (I' := fun c j => if c = dd ∧ dp ≤ j ∧ j < dp + n then I sr (sp + (j - dp)) else I c j) (J' := J) (fun c hne => by funext j; exact if_neg (fun z => hne z.1)) (fun _ _ => rfl)] at hP
        · exact hP
        · show (Sum.inl _ : va_E) = Sum.inl _
          rw [arN_0]
          congr 3
          apply congrArg Sum.inl
          funext j
          unfold va_cpy
          by_cases hj : dp.toNat ≤ j ∧ j < dp.toNat + n.toNat
          · have e : (sp.toNat + (j - dp.toNat) : Nat) = (sp + ((j : Int) - dp)) := by omega
            rw [if_pos hj, if_pos ⟨rfl, by omega, by omega⟩]
            show Int32.ofInt (I sr ((sp.toNat + (j - dp.toNat) : Nat) : Int)) = _
            rw [e]
          · rw [if_neg hj, if_neg (fun z => hj (by omega))]
    · cases h
  · cases hc

theorem s_55 (C : Cx B ro cA dC dI x d M p R s m args meth c cells slots) (L : LoR B ro lsr (MR M).2.2.1 ls) (D : Wd B cA dC dI σ I J s H locs) (rt : Rt l B cA dC dI σ M Q p e R s m args below meth c cells slots Z)
    (hd : decode (MR M).2.1 pc = .ok (ins, len)) (hc : chk1 M pc (55, nx, i, j, c0) ps ins len = true)
    (go : ∀ pc' ls' st' I' J' H' locs' lsr', k pc' ls' st' I' J' → LoR B ro lsr' (MR M).2.2.1 ls' → Wd B cA dC dI σ I' J' s H' locs' → W p l e R s m args below meth c H' locs' cells slots Z (F0 m pc' lsr' (st'.map (cv B ro))))
    (h : wp1 (Ex σ x d) σ x (55, nx, i, j, c0) pc ls st I J k Q) : W p l e R s m args below meth c H locs cells slots Z (F0 m pc lsr (st.map (cv B ro))) := by
  simp only [chk1, Bool.and_eq_true, decide_eq_true_eq] at hc
  obtain ⟨rfl, hc⟩ := hc
  simp only [wp1] at h
  obtain ⟨rfl, rfl, hr⟩ := hc
  split at h
  · exact (rt pc lsr I J H locs D).1 _ hr h hd
  · cases h

theorem s_56 (C : Cx B ro cA dC dI x d M p R s m args meth c cells slots) (L : LoR B ro lsr (MR M).2.2.1 ls) (D : Wd B cA dC dI σ I J s H locs) (rt : Rt l B cA dC dI σ M Q p e R s m args below meth c cells slots Z)
    (hd : decode (MR M).2.1 pc = .ok (ins, len)) (hc : chk1 M pc (56, nx, i, j, c0) ps ins len = true)
    (go : ∀ pc' ls' st' I' J' H' locs' lsr', k pc' ls' st' I' J' → LoR B ro lsr' (MR M).2.2.1 ls' → Wd B cA dC dI σ I' J' s H' locs' → W p l e R s m args below meth c H' locs' cells slots Z (F0 m pc' lsr' (st'.map (cv B ro))))
    (h : wp1 (Ex σ x d) σ x (56, nx, i, j, c0) pc ls st I J k Q) : W p l e R s m args below meth c H locs cells slots Z (F0 m pc lsr (st.map (cv B ro))) := by
  simp only [chk1, Bool.and_eq_true, decide_eq_true_eq] at hc
  obtain ⟨rfl, hc⟩ := hc
  simp only [wp1] at h
  obtain ⟨rfl, rfl, hr⟩ := hc
  split at h
  · exact (rt pc lsr I J H locs D).2.1 _ hr h.1 h.2 hd
  · cases h

theorem s_57 (C : Cx B ro cA dC dI x d M p R s m args meth c cells slots) (L : LoR B ro lsr (MR M).2.2.1 ls) (D : Wd B cA dC dI σ I J s H locs) (rt : Rt l B cA dC dI σ M Q p e R s m args below meth c cells slots Z)
    (hd : decode (MR M).2.1 pc = .ok (ins, len)) (hc : chk1 M pc (57, nx, i, j, c0) ps ins len = true)
    (go : ∀ pc' ls' st' I' J' H' locs' lsr', k pc' ls' st' I' J' → LoR B ro lsr' (MR M).2.2.1 ls' → Wd B cA dC dI σ I' J' s H' locs' → W p l e R s m args below meth c H' locs' cells slots Z (F0 m pc' lsr' (st'.map (cv B ro))))
    (h : wp1 (Ex σ x d) σ x (57, nx, i, j, c0) pc ls st I J k Q) : W p l e R s m args below meth c H locs cells slots Z (F0 m pc lsr (st.map (cv B ro))) := by
  simp only [chk1, Bool.and_eq_true, decide_eq_true_eq] at hc
  obtain ⟨rfl, hc⟩ := hc
  simp only [wp1] at h
  obtain ⟨rfl, rfl, hr⟩ := hc
  split at h
  · exact (rt pc lsr I J H locs D).2.2 hr h hd
  · cases h

theorem s_65 (C : Cx B ro cA dC dI x d M p R s m args meth c cells slots) (L : LoR B ro lsr (MR M).2.2.1 ls) (D : Wd B cA dC dI σ I J s H locs) (rt : Rt l B cA dC dI σ M Q p e R s m args below meth c cells slots Z)
    (hd : decode (MR M).2.1 pc = .ok (ins, len)) (hc : chk1 M pc (65, nx, i, j, c0) ps ins len = true)
    (go : ∀ pc' ls' st' I' J' H' locs' lsr', k pc' ls' st' I' J' → LoR B ro lsr' (MR M).2.2.1 ls' → Wd B cA dC dI σ I' J' s H' locs' → W p l e R s m args below meth c H' locs' cells slots Z (F0 m pc' lsr' (st'.map (cv B ro))))
    (h : wp1 (Ex σ x d) σ x (65, nx, i, j, c0) pc ls st I J k Q) : W p l e R s m args below meth c H locs cells slots Z (F0 m pc lsr (st.map (cv B ro))) := by
  simp only [chk1, Bool.and_eq_true, decide_eq_true_eq] at hc
  obtain ⟨rfl, hc⟩ := hc
  simp only [wp1] at h
  split at hc
  · rename_i q
    simp only [Bool.and_eq_true, decide_eq_true_eq] at hc
    obtain ⟨rfl, hlk⟩ := hc
    split at h
    · rename_i y a r
      obtain ⟨hcat, ha, hy, h⟩ := h
      have h := go _ _ _ _ _ _ _ _ h L D
      have hR : 40 * (d + 1) ≤ R.locals := C.2.2.2.2.2.2.2.2.1
      refine va_mmax C.1 C.2.1 (C.2.2.2.1.trans L.1.symm) C.2.2.2.2.1 (C.2.2.2.2.2.1 _ (mem_gd (List.mem_of_getElem? hlk) rfl)) (C.2.2.2.2.2.1 _ mmax_stat) (C.2.2.2.2.2.1 _ mth_ini) (C.2.2.2.2.2.1 _ mmax_code) (by have := C.2.2.2.2.2.2.2.1; omega) (by rw [catS_cv]; omega) C.2.2.2.2.2.2.2.2.2.1 C.2.2.2.2.2.2.2.2.2.2.1 hd ?_
      have e : (if Int32.ofInt a < Int32.ofInt y then Int32.ofInt y else Int32.ofInt a) = Int32.ofInt (if a < y then y else a) := by
        by_cases hq : a < y
        · rw [if_pos hq, if_pos ((ofI_lt ha hy).mpr hq)]
        · rw [if_neg hq, if_neg (fun z => hq ((ofI_lt ha hy).mp z))]
      rw [e]
      exact h
    · cases h
  · cases hc

theorem s_66 (C : Cx B ro cA dC dI x d M p R s m args meth c cells slots) (L : LoR B ro lsr (MR M).2.2.1 ls) (D : Wd B cA dC dI σ I J s H locs) (rt : Rt l B cA dC dI σ M Q p e R s m args below meth c cells slots Z)
    (hd : decode (MR M).2.1 pc = .ok (ins, len)) (hc : chk1 M pc (66, nx, i, j, c0) ps ins len = true)
    (go : ∀ pc' ls' st' I' J' H' locs' lsr', k pc' ls' st' I' J' → LoR B ro lsr' (MR M).2.2.1 ls' → Wd B cA dC dI σ I' J' s H' locs' → W p l e R s m args below meth c H' locs' cells slots Z (F0 m pc' lsr' (st'.map (cv B ro))))
    (h : wp1 (Ex σ x d) σ x (66, nx, i, j, c0) pc ls st I J k Q) : W p l e R s m args below meth c H locs cells slots Z (F0 m pc lsr (st.map (cv B ro))) := by
  simp only [chk1, Bool.and_eq_true, decide_eq_true_eq] at hc
  obtain ⟨rfl, hc⟩ := hc
  simp only [wp1] at h
  split at hc
  · rename_i q
    simp only [Bool.and_eq_true, decide_eq_true_eq] at hc
    obtain ⟨rfl, hlk⟩ := hc
    split at h
    · rename_i y a r
      obtain ⟨hcat, ha, hy, h⟩ := h
      have h := go _ _ _ _ _ _ _ _ h L D
      have hR : 40 * (d + 1) ≤ R.locals := C.2.2.2.2.2.2.2.2.1
      refine va_mmin C.1 C.2.1 (C.2.2.2.1.trans L.1.symm) C.2.2.2.2.1 (C.2.2.2.2.2.1 _ (mem_gd (List.mem_of_getElem? hlk) rfl)) (C.2.2.2.2.2.1 _ mmin_stat) (C.2.2.2.2.2.1 _ mth_ini) (C.2.2.2.2.2.1 _ mmin_code) (by have := C.2.2.2.2.2.2.2.1; omega) (by rw [catS_cv]; omega) C.2.2.2.2.2.2.2.2.2.1 C.2.2.2.2.2.2.2.2.2.2.1 hd ?_
      have e : (if Int32.ofInt y < Int32.ofInt a then Int32.ofInt y else Int32.ofInt a) = Int32.ofInt (if y < a then y else a) := by
        by_cases hq : y < a
        · rw [if_pos hq, if_pos ((ofI_lt hy ha).mpr hq)]
        · rw [if_neg hq, if_neg (fun z => hq ((ofI_lt hy ha).mp z))]
      rw [e]
      exact h
    · cases h
  · cases hc
end RUL
