section MKS
variable {l : Launch} {B : Nat} {ro : Nat → Nat} {cA dC : Nat → ClassId} {dI : Nat → Nat → Nat} {σ : List Sh} {x : RO} {d M : Nat} {Q : QT}
variable {p : Program} {e : Env} {R : Room} {s : State} {m : MethodId} {args : Array Value} {below : List Frame} {meth : Method} {c : Code} {H : Heap} {locs : List Loc} {cells slots : Nat} {Z : State → Prop} {lsr : Array Slot}
variable {pc : Nat} {ls : LsT} {st : List AV} {I : MI} {J : MJ} {n0 z0 : Nat}
theorem Wsize {g : JFrame} (h : H.size ≤ s.heap.size + cells → W p l e R s m args below meth c H locs cells slots Z g) : W p l e R s m args below meth c H locs cells slots Z g :=
  fun T hT X => h (by rw [← hT]; exact X.same.2.2.1) T hT X
theorem hsize (D : Wd B cA dC dI σ I J s H locs) (hs : s.heap.size = B + n0) (hn : n0 ≤ σ.length) (hle : H.size ≤ s.heap.size + (σ.length - n0)) : H.size = B + σ.length := by
  have h1 : B + σ.length ≤ H.size := by
    by_cases hz : σ.length = n0
    · have := D.2.1
      omega
    · have hl : σ.length - 1 < σ.length := by omega
      have h2 := (D.1 _ _ (wsW_at (List.getElem?_eq_getElem hl))).lt
      simp only at h2
      omega
  omega
theorem wsW_push (sh : Sh) : wsW B cA (σ ++ [sh]) (zI I σ.length) (zJ J σ.length) = wsW B cA σ I J ++ [(B + σ.length, ceE B cA (zI I σ.length) (zJ J σ.length) σ.length sh)] := by
  apply List.ext_getElem?
  intro i
  have hl : (wsW B cA σ I J).length = σ.length := by unfold wsW; rw [List.length_mapIdx]
  by_cases hi : i < σ.length
  · rw [List.getElem?_append_left (by rw [hl]; exact hi)]
    unfold wsW
    rw [List.getElem?_mapIdx, List.getElem?_mapIdx, List.getElem?_append_left hi, List.getElem?_eq_getElem hi]
    simp only [Option.map_some]
    rw [ceE_cong (I := zI I σ.length) (I' := I) (J := zJ J σ.length) (J' := J)]
    · funext q; unfold zI; rw [if_neg (by omega)]
    · funext q; unfold zJ; rw [if_neg (by omega)]
  · rw [List.getElem?_append_right (by rw [hl]; omega), hl]
    unfold wsW
    rw [List.getElem?_mapIdx, List.getElem?_append_right (by omega)]
    by_cases he : i = σ.length
    · subst he
      rw [Nat.sub_self]
      rfl
    · obtain ⟨k, hk⟩ : ∃ k, i - σ.length = k + 1 := ⟨i - σ.length - 1, by omega⟩
      rw [hk]
      rfl
theorem D_push {sh : Sh} {H1 : Heap} (D : Wd B cA dC dI σ I J s H locs) (hsz : H.size = B + σ.length) (z1 : H1.size = B + σ.length + 1) (o1 : ∀ q, q < B + σ.length → H1[q]? = H[q]?)
    (hat : va_at (dC, dI) CL (B + σ.length, ceE B cA (zI I σ.length) (zJ J σ.length) σ.length sh) H1) : Wd B cA dC dI (σ ++ [sh]) (zI I σ.length) (zJ J σ.length) s H1 locs := by
  have hk : ∀ (k : Nat) (q : Nat × va_E), (wsW B cA σ I J)[k]? = some q → H1[q.1]? = H[q.1]? := fun k q hq => o1 q.1 (by have := (D.1 k q hq).lt; omega)
  refine ⟨?_, by have := D.2.1; omega, fun q h1 h2 => (o1 q (by have := D.2.1; omega)).trans (D.2.2.1 q h1 h2), D.2.2.2⟩
  rw [wsW_push]
  refine (D.1.kept hk).app (fun k q hq => ?_)
  have hz : k < 1 := (List.getElem?_eq_some_iff.mp hq).1
  rw [show k = 0 by omega] at hq
  cases hq
  exact hat
theorem a_58 {ci q : Nat} (C : Cx B ro cA dC dI x d M p R s m args meth c (σ.length - n0) (sz σ - z0)) (hs : s.heap.size = B + n0) (hn : n0 ≤ σ.length) (hz : z0 ≤ sz σ) (D : Wd B cA dC dI σ I J s H locs) (hci : ci < 11)
    (hcl : Cond.classLink (RR (MR M).2.2.2.2.1) q (RR ci) ∈ lw_gd) (hd : decode (MR M).2.1 pc = .ok (.new q, 3)) (b1 : σ.length + 1 - n0 ≤ R.cells) (b2 : sz (σ ++ [.inl (ci, dflO ci)]) - z0 ≤ R.slots)
    (kk : ∀ H', Wd B cA dC dI (σ ++ [.inl (ci, dflO ci)]) (zI I σ.length) (zJ J σ.length) s H' locs → W p l e R s m args below meth c H' locs (σ.length + 1 - n0) (sz (σ ++ [.inl (ci, dflO ci)]) - z0) Z (F0 m (pc + 3) lsr (.ref (B + σ.length) :: st.map (cv B ro)))) :
    W p l e R s m args below meth c H locs (σ.length - n0) (sz σ - z0) Z (F0 m pc lsr (st.map (cv B ro))) := by
  refine Wsize (fun hle => ?_)
  have hsz := hsize D hs hn hle
  obtain ⟨Cn, T, N, e1, e2, e3, e4, e5⟩ := cls_all hci
  obtain ⟨⟨i1, i2⟩, i3⟩ := cls_inst ci hci
  have e6 : sz (σ ++ [(.inl (ci, dflO ci) : Sh)]) = sz σ + N := by rw [sz_app]; show _ + (dflO ci).length = _; rw [dflO_len, e2]
  rw [e2] at i1 i3
  have i3 : Cn = RR ci := i3
  have hKn := (C.2.2.2.2.2.2.2.2.2.2.2.1).1 ci _ e1
  rw [e6] at b2 kk
  have kk2 : ∀ H', Wd B cA dC dI (σ ++ [.inl (ci, dflO ci)]) (zI I σ.length) (zJ J σ.length) s H' locs → W p l e R s m args below meth c H' locs (σ.length - n0 + 1) (sz σ - z0 + N) Z (F0 m (pc + 3) lsr (.ref (B + σ.length) :: st.map (cv B ro))) := by
    rw [show σ.length - n0 + 1 = σ.length + 1 - n0 by omega, show sz σ - z0 + N = sz σ + N - z0 by omega]
    exact kk
  refine W.newcK (n := N) (h := B + σ.length) C.1 C.2.1 C.2.2.2.2.1 (C.2.2.2.2.2.1 _ hcl) (C.2.2.2.2.2.1 _ (mem_gd i1 rfl)) (C.2.2.2.2.2.1 _ (mem_gd i2 rfl)) rfl hd (by omega) (by omega) (i3 ▸ hKn.2.1) hsz (fun H1 kC hkC g1 z1 o1 => ?_)
  refine kk2 H1 (D_push D hsz z1 o1 ⟨_, e1, ?_⟩)
  have hb := u_born (TYF ci) (ws := lw_gd) C.2.2.2.2.2.1 e3 hKn hkC g1 e4
  refine hb.to (fun k hk => ?_)
  have hkk : k < (CL.getD ci ("", T_0, 0)).2.2 := by rw [e2]; exact hk
  unfold vp_V
  rw [List.getD_eq_getElem?_getD, fvL_at (dflO_at hkk)]
  exact dfl_ok (cls_more ci hci k hkk).1 (by unfold zI; rw [if_pos rfl]) (by unfold zJ; rw [if_pos rfl])
theorem tys_at {t : Nat} (ht : t < 6) : (tysL cA)[t]? = some (cA t, tyA t) := by
  have h : t = 0 ∨ t = 1 ∨ t = 2 ∨ t = 3 ∨ t = 4 ∨ t = 5 := by omega
  rcases h with rfl | rfl | rfl | rfl | rfl | rfl <;> rfl
theorem a_59 {t n : Nat} {at_ : ArrayType} (C : Cx B ro cA dC dI x d M p R s m args meth c (σ.length - n0) (sz σ - z0)) (hs : s.heap.size = B + n0) (hn : n0 ≤ σ.length) (hz : z0 ≤ sz σ) (D : Wd B cA dC dI σ I J s H locs) (ht : t < 3) (hlt : n < 100000)
    (hty : newarray.typeOf at_ = tyA t) (hd : decode (MR M).2.1 pc = .ok (.newarray at_, 2)) (b1 : σ.length + 1 - n0 ≤ R.cells) (b2 : sz (σ ++ [.inr (.inl (t, n))]) - z0 ≤ R.slots)
    (kk : ∀ H', Wd B cA dC dI (σ ++ [.inr (.inl (t, n))]) (zI I σ.length) (zJ J σ.length) s H' locs → W p l e R s m args below meth c H' locs (σ.length + 1 - n0) (sz (σ ++ [.inr (.inl (t, n))]) - z0) Z (F0 m (pc + 2) lsr (.ref (B + σ.length) :: st.map (cv B ro)))) :
    W p l e R s m args below meth c H locs (σ.length - n0) (sz σ - z0) Z (F0 m pc lsr (.int (Int32.ofInt n) :: st.map (cv B ro))) := by
  refine Wsize (fun hle => ?_)
  have hsz := hsize D hs hn hle
  have e6 : sz (σ ++ [(.inr (.inl (t, n)) : Sh)]) = sz σ + n := sz_app _ _
  rw [e6] at b2 kk
  have kk2 : ∀ H', Wd B cA dC dI (σ ++ [.inr (.inl (t, n))]) (zI I σ.length) (zJ J σ.length) s H' locs → W p l e R s m args below meth c H' locs (σ.length - n0 + 1) (sz σ - z0 + n) Z (F0 m (pc + 2) lsr (.ref (B + σ.length) :: st.map (cv B ro))) := by
    rw [show σ.length - n0 + 1 = σ.length + 1 - n0 by omega, show sz σ - z0 + n = sz σ + n - z0 by omega]
    exact kk
  have hcl : (Int32.ofInt (n : Int)).toNatClampNeg = n := by rw [ofI_clamp (by omega) (by omega)]; omega
  have hcb : n * componentBytes (newarray.typeOf at_) ≤ 536870912 := by
    have : componentBytes (newarray.typeOf at_) ≤ 8 := by
      rw [hty]
      have h : t = 0 ∨ t = 1 ∨ t = 2 := by omega
      rcases h with rfl | rfl | rfl <;> decide
    calc n * componentBytes (newarray.typeOf at_) ≤ n * 8 := Nat.mul_le_mul_left _ this
      _ ≤ 536870912 := by omega
  refine va_newaK (N := n) (h := B + σ.length) C.1 C.2.1 (C.2.2.2.2.2.1 _ (by rw [hty]; exact arr_w t ht)) rfl hd rfl (by rw [ofI_lt0 ⟨by omega, by omega⟩]; omega) hcl hcb (by omega) (by omega) hsz (fun H1 cB g1 z1 o1 hAr hNm => ?_)
  refine kk2 H1 (D_push D hsz z1 o1 ?_)
  have hra := ((C.2.2.2.2.2.2.2.2.2.2.2.1).2 t _ (tys_at (by omega))).2
  rw [hty] at hNm g1
  have hcB : cB = cA t := by
    have h : t = 0 ∨ t = 1 ∨ t = 2 := by omega
    rcases h with rfl | rfl | rfl
    · exact Option.some.inj (hNm.symm.trans hra)
    · exact Option.some.inj (hNm.symm.trans hra)
    · exact Option.some.inj (hNm.symm.trans hra)
  subst hcB
  show H1[B + σ.length]? = some (vp_cell _ _)
  rw [g1]
  have h : t = 0 ∨ t = 1 ∨ t = 2 := by omega
  have ez : ∀ q : Nat, zI I σ.length σ.length q = 0 := fun q => by unfold zI; rw [if_pos rfl]
  have ezJ : ∀ q : Nat, zJ J σ.length σ.length q = 0 := fun q => by unfold zJ; rw [if_pos rfl]
  rcases h with rfl | rfl | rfl
  · rw [arN_0, vp_cell_i]; simp only [ez]; rfl
  · rw [arN_1, vp_cell_l]; simp only [ezJ]; rfl
  · rw [arN_2, vp_cell_i]; simp only [ez]; rfl
theorem a_60 {t n q : Nat} {Cn : String} (C : Cx B ro cA dC dI x d M p R s m args meth c (σ.length - n0) (sz σ - z0)) (hs : s.heap.size = B + n0) (hn : n0 ≤ σ.length) (hz : z0 ≤ sz σ) (D : Wd B cA dC dI σ I J s H locs) (ht3 : 3 ≤ t) (ht : t < 6) (hlt : n < 100000)
    (hty : tyA t = .object Cn) (hcl : Cond.classLink (RR (MR M).2.2.2.2.1) q Cn ∈ lw_gd) (hd : decode (MR M).2.1 pc = .ok (.anewarray q, 3)) (b1 : σ.length + 1 - n0 ≤ R.cells) (b2 : sz (σ ++ [.inr (.inr (t, List.replicate n none))]) - z0 ≤ R.slots)
    (kk : ∀ H', Wd B cA dC dI (σ ++ [.inr (.inr (t, List.replicate n none))]) (zI I σ.length) (zJ J σ.length) s H' locs → W p l e R s m args below meth c H' locs (σ.length + 1 - n0) (sz (σ ++ [.inr (.inr (t, List.replicate n none))]) - z0) Z (F0 m (pc + 3) lsr (.ref (B + σ.length) :: st.map (cv B ro)))) :
    W p l e R s m args below meth c H locs (σ.length - n0) (sz σ - z0) Z (F0 m pc lsr (.int (Int32.ofInt n) :: st.map (cv B ro))) := by
  refine Wsize (fun hle => ?_)
  have hsz := hsize D hs hn hle
  have e6 : sz (σ ++ [(.inr (.inr (t, List.replicate n none)) : Sh)]) = sz σ + n := by rw [sz_app]; show _ + (List.replicate n none).length = _; rw [List.length_replicate]
  rw [e6] at b2 kk
  have kk2 : ∀ H', Wd B cA dC dI (σ ++ [.inr (.inr (t, List.replicate n none))]) (zI I σ.length) (zJ J σ.length) s H' locs → W p l e R s m args below meth c H' locs (σ.length - n0 + 1) (sz σ - z0 + n) Z (F0 m (pc + 3) lsr (.ref (B + σ.length) :: st.map (cv B ro))) := by
    rw [show σ.length - n0 + 1 = σ.length + 1 - n0 by omega, show sz σ - z0 + n = sz σ + n - z0 by omega]
    exact kk
  have hcl2 : (Int32.ofInt (n : Int)).toNatClampNeg = n := by rw [ofI_clamp (by omega) (by omega)]; omega
  have hao : va_AO Cn s := by
    have hN := C.2.2.2.2.2.2.2.2.2.2.2.2.2
    have h : t = 3 ∨ t = 4 ∨ t = 5 := by omega
    rcases h with rfl | rfl | rfl
    · cases hty; exact hN.2.1
    · cases hty; exact hN.2.2.1
    · cases hty; exact hN.2.2.2
  refine W.anew C.1 C.2.1 C.2.2.2.2.1 (C.2.2.2.2.2.1 _ hcl) (va_AO.use hao) rfl hd rfl (by rw [ofI_lt0 ⟨by omega, by omega⟩]; omega) (by rw [hcl2]; omega) (by omega) (by rw [hcl2]; omega) (fun cB kA comp f1 f2 f3 f4 => ?_)
  rw [hcl2, hsz]
  generalize hH1 : H.push ({ cls := cB, slots := Array.replicate n .null, vm := .none } : Cell) = H1
  have z1 : H1.size = B + σ.length + 1 := by rw [← hH1, Array.size_push, hsz]
  have g1 : H1[B + σ.length]? = some (arrV cB n (fun _ => .null)) := by rw [← hsz, ← hH1, Array.getElem?_push_size, ← arrV_new]
  have o1 : ∀ q : Nat, q < B + σ.length → H1[q]? = H[q]? := fun q hq => by rw [← hH1, Array.getElem?_push, if_neg (by omega)]
  refine kk2 H1 (D_push D hsz z1 o1 ?_)
  have hra := ((C.2.2.2.2.2.2.2.2.2.2.2.1).2 t _ (tys_at ht)).2
  rw [hty] at hra
  obtain ⟨kA2, comp2, r1, r2, r3, r4⟩ := hra
  have hcB : cB = cA t := Option.some.inj (f1.symm.trans r4)
  subst hcB
  show H1[B + σ.length]? = some (vp_cell _ _)
  rw [g1, vp_cell_q, List.length_replicate]
  congr 2
  funext j
  unfold arR
  rw [List.getD_eq_getElem?_getD]
  cases hj : (List.replicate n (none : Option Nat))[j]? with
  | none => rfl
  | some v =>
    have := List.mem_of_getElem? hj
    rw [List.mem_replicate] at this
    rw [this.2]
    rfl
theorem wsW_setS {r : Nat} {s0 s1 : Sh} (h : σ[r]? = some s0) : (wsW B cA σ I J).set r (B + r, ceE B cA I J r s1) = wsW B cA (σ.set r s1) I J := by
  have hl : r < σ.length := (List.getElem?_eq_some_iff.mp h).1
  apply List.ext_getElem?
  intro i
  have hl2 : r < (wsW B cA σ I J).length := by unfold wsW; rw [List.length_mapIdx]; exact hl
  by_cases hi : r = i
  · subst hi
    rw [List.getElem?_set_self hl2]
    unfold wsW
    rw [List.getElem?_mapIdx, List.getElem?_set_self hl]
    rfl
  · rw [List.getElem?_set_ne hi]
    unfold wsW
    rw [List.getElem?_mapIdx, List.getElem?_mapIdx, List.getElem?_set_ne hi]
theorem a_61 {ci j q r qv ps : Nat} {fs : List FV} (C : Cx B ro cA dC dI x d M p R s m args meth c cells slots) (D : Wd B cA dC dI σ I J s H locs) (w : WfS σ) (hs : σ[r]? = some (.inl (ci, fs)))
    (hf : fOk (MR M).2.2.2.2.1 ps ci j q = true) (hty : isTy (TYF ci j) = 3) (hfin : (fName ci j).2.2.2 = true) (hnm : meth.name = "<init>") (hown : (MR M).2.2.2.2.1 = ci) (hd : decode (MR M).2.1 pc = .ok (.putfield q, 3))
    (kk : ∀ H' locs', Wd B cA dC dI (σ.set r (.inl (ci, fs.set j (.inr (some qv))))) I J s H' locs' → W p l e R s m args below meth c H' locs' cells slots Z (F0 m (pc + 3) lsr (st.map (cv B ro)))) :
    W p l e R s m args below meth c H locs cells slots Z (F0 m pc lsr (.ref (B + qv) :: .ref (B + r) :: st.map (cv B ro))) := by
  obtain ⟨Cn, T, N, hci, e1, e2, e3, e4, e5, hj, hlk, hfn⟩ := fOk_of hf
  obtain ⟨-, hlen, hfs⟩ := w r _ hs
  have hjl : j < fs.length := by rw [hlen, e2]; exact hj
  have hcm := cls_more ci hci j (by rw [e2]; exact hj)
  rw [e2] at hcm
  have hg := hcm.1
  have hdecl : (T j).1 = RR (MR M).2.2.2.2.1 := by rw [hown]; exact hcm.2
  have htr : narrow (TYF ci j) (.ref (B + qv)) = .ref (B + qv) ∧ fits (TYF ci j) (.ref (B + qv)) = true := by
    cases ht : TYF ci j <;> rw [ht] at hg hty <;> first | (cases hg; done) | (cases hty; done) | exact ⟨rfl, rfl⟩
  refine va_putF (ci := ci) C.1 C.2.1 C.2.2.2.2.2.1 e3 (TYF ci) e4 e5 C.2.2.2.2.1 C.2.2.2.2.2.2.2.2.2.2.2.1 D.1 wsW_D D.2 r (wsW_at hs) e1 j hj (C.2.2.2.2.2.1 _ hlk) (fun _ z => z) (by rw [← hfn]; exact hfin) hnm hdecl (e4 j hj) htr.1 htr.2 (by unfold fvL; rw [List.length_mapIdx]; exact hjl) hd (fun H1 locs1 hP _ hS => ?_)
  refine kk H1 locs1 ⟨?_, hS⟩
  rw [← wsW_setS hs]
  have ee : (Sum.inr (ci, (fvL B I J r fs).set j (.ref (B + qv))) : va_E) = ceE B cA I J r (.inl (ci, fs.set j (.inr (some qv)))) := by
    show (Sum.inr _ : va_E) = Sum.inr _
    congr 2
    unfold fvL
    apply List.ext_getElem?
    intro i
    by_cases hi : j = i
    · subst hi
      rw [List.getElem?_set_self (by rw [List.length_mapIdx]; exact hjl), List.getElem?_mapIdx, List.getElem?_set_self hjl]
      rfl
    · rw [List.getElem?_set_ne hi, List.getElem?_mapIdx, List.getElem?_mapIdx, List.getElem?_set_ne hi]
  rw [← ee]
  exact hP
theorem a_62 {r qv y : Nat} {ix : Int} {rs : List (Option Nat)} (C : Cx B ro cA dC dI x d M p R s m args meth c cells slots) (D : Wd B cA dC dI σ I J s H locs) (w : WfS σ) (hs : σ[r]? = some (.inr (.inr (y, rs))))
    (h0 : 0 ≤ ix) (hlt : ix < rs.length) (hq : clS σ qv = elC y) (hd : decode (MR M).2.1 pc = .ok (.aastore, 1))
    (kk : ∀ H' locs', Wd B cA dC dI (σ.set r (.inr (.inr (y, rs.set ix.toNat (some qv))))) I J s H' locs' → W p l e R s m args below meth c H' locs' cells slots Z (F0 m (pc + 1) lsr (st.map (cv B ro)))) :
    W p l e R s m args below meth c H locs cells slots Z (F0 m pc lsr (.ref (B + qv) :: .int (Int32.ofInt ix) :: .ref (B + r) :: st.map (cv B ro))) := by
  obtain ⟨h3, h6, hlen⟩ := w r _ hs
  have hel : elC y < 11 := by
    have h : y = 3 ∨ y = 4 ∨ y = 5 := by omega
    rcases h with rfl | rfl | rfl <;> decide
  obtain ⟨fq, hsq, -, -⟩ := wf_obj w hq hel
  obtain ⟨Cn, T, N, e1, e2, -⟩ := cls_all hel
  have htt : tyA y = .object Cn := by
    have i3 := (cls_inst (elC y) hel).2
    rw [e2] at i3
    have i3 : Cn = RR (elC y) := i3
    rw [i3]
    have h : y = 3 ∨ y = 4 ∨ y = 5 := by omega
    rcases h with rfl | rfl | rfl <;> rfl
  refine va_astq C.1 C.2.1 C.2.2.2.2.2.2.2.2.2.2.2.1 D.1 wsW_D D.2 r y qv (elC y) (r := (Cn, T, N)) (wsW_at hs) ((tys_at (by omega)).trans (by rw [htt])) (wsW_at hsq) e1 (vp_ofI (by omega) h0 hlt) hd (fun H1 locs1 hP _ hS => ?_)
  refine kk H1 locs1 ⟨?_, hS⟩
  rw [← wsW_setS hs]
  have ee : (Sum.inl (cA y, rs.length, .inr (.inr (.inr (.inr (va_up (arR B rs) (Int32.ofInt ix).toNatClampNeg (some (B + qv))))))) : va_E) = ceE B cA I J r (.inr (.inr (y, rs.set ix.toNat (some qv)))) := by
    show (Sum.inl _ : va_E) = Sum.inl _
    rw [List.length_set, ofI_clamp h0 (by omega)]
    congr 3
    apply congrArg Sum.inr; apply congrArg Sum.inr; apply congrArg Sum.inr; apply congrArg Sum.inr
    funext j
    unfold va_up arR
    by_cases hj : j = ix.toNat
    · subst hj
      rw [if_pos rfl, List.getD_eq_getElem?_getD, List.getElem?_set_self (by omega)]
      rfl
    · rw [if_neg hj, List.getD_eq_getElem?_getD, List.getD_eq_getElem?_getD, List.getElem?_set_ne (Ne.symm hj)]
  rw [← ee]
  exact hP
end MKS
