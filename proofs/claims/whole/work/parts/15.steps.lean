/-! ===== steps of the making machine, one behind another ===== -/
def PcA (B : Nat) (ro : Nat → Nat) (cA dC : Nat → ClassId) (dI : Nat → Nat → Nat) (x : RO) (as : List AV) (σ : List Sh) (I : MI) (J : MJ) : Array Value → State → Prop := fun v U =>
  PcM B ro cA dC dI σ x as I J v U ∧ U.heap.size = B + σ.length
def QcA (B : Nat) (ro : Nat → Nat) (cA dC : Nat → ClassId) (dI : Nat → Nat → Nat) (r : Option AV) (σ : List Sh) (I : MI) (J : MJ) : Array Value → State → Outcome → State → Prop := fun _ st o t =>
  (o = .returned (r.map (cv B ro)) ∧ va_P (dC, dI) CL (wsW B cA σ I J) t.heap) ∧ va_F (fun q => B ≤ q) st t
def rmA (d k n : Nat) : Room := { frames := d, cells := k, slots := n, locals := 40 * d }
def MetA (l : Launch) (B : Nat) (ro : Nat → Nat) (cA dC : Nat → ClassId) (dI : Nat → Nat → Nat) (x : RO) (d j : Nat) (as : List AV) (σ : List Sh) (I : MI) (J : MJ) (r : Option AV) (σ' : List Sh) (I' : MI) (J' : MJ) : Prop :=
  Met l (Y j) (wsM j) (rmA d (σ'.length - σ.length) (sz σ' - sz σ)) (PcA B ro cA dC dI x as σ I J) (QcA B ro cA dC dI r σ' I' J') (σ'.length - σ.length) (sz σ' - sz σ) (fun q => B ≤ q)
theorem PcA_blind {B : Nat} {ro : Nat → Nat} {cA dC : Nat → ClassId} {dI : Nat → Nat → Nat} {σ : List Sh} {x : RO} {as : List AV} {I : MI} {J : MJ} : FrameBlind (PcA B ro cA dC dI x as σ I J) :=
  fun a U g mk q => ⟨PcM_blind a U g mk q.1, q.2⟩
def HE (l : Launch) (B : Nat) (ro : Nat → Nat) (cA dC : Nat → ClassId) (dI : Nat → Nat → Nat) (x : RO) (d : Nat) (E : EvT) : Prop :=
  ∀ j as σ I J r σ' I' J', E j as σ I J = some (r, σ', I', J') → GrS σ σ' ∧ (WfS σ → MetA l B ro cA dC dI x d j as σ I J r σ' I' J')
def WA (l : Launch) (B : Nat) (ro : Nat → Nat) (cA dC : Nat → ClassId) (dI : Nat → Nat → Nat) (M : Nat) (p : Program) (e : Env) (R : Room) (s : State) (m : MethodId) (args : Array Value) (below : List Frame) (meth : Method) (c : Code) (n0 z0 : Nat) (Z : State → Prop) (S : FS) : Prop :=
  ∀ (H : Heap) (locs : List Loc) (lsr : Array Slot), LoR B ro lsr (MR M).2.2.1 S.2.1 → Wd B cA dC dI S.2.2.2.1 S.2.2.2.2.1 S.2.2.2.2.2 s H locs → W p l e R s m args below meth c H locs (S.2.2.2.1.length - n0) (sz S.2.2.2.1 - z0) Z (F0 m S.1 lsr (S.2.2.1.map (cv B ro)))
def StepOk (l : Launch) (B : Nat) (ro : Nat → Nat) (cA dC : Nat → ClassId) (dI : Nat → Nat → Nat) (x : RO) (d M : Nat) (S S' : FS) : Prop := GrS S.2.2.2.1 S'.2.2.2.1 ∧
  ∀ (p : Program) (e : Env) (R : Room) (s : State) (m : MethodId) (args : Array Value) (below : List Frame) (meth : Method) (c : Code) (n0 z0 : Nat) (Z : State → Prop),
    Cx B ro cA dC dI x d M p R s m args meth c 0 0 → ((Y M).name = "<init>" → meth.name = "<init>") → s.heap.size = B + n0 → WfS S.2.2.2.1 → n0 ≤ S.2.2.2.1.length → z0 ≤ sz S.2.2.2.1 → S'.2.2.2.1.length - n0 ≤ R.cells → sz S'.2.2.2.1 - z0 ≤ R.slots →
    WA l B ro cA dC dI M p e R s m args below meth c n0 z0 Z S' → WA l B ro cA dC dI M p e R s m args below meth c n0 z0 Z S
section STP
variable {l : Launch} {B : Nat} {ro : Nat → Nat} {cA dC : Nat → ClassId} {dI : Nat → Nat → Nat} {σ : List Sh} {x : RO} {d M : Nat} {E : EvT}
variable {pc : Nat} {ls : LsT} {st : List AV} {I : MI} {J : MJ} {nx i j : Nat} {c0 : Int} {S S' S1 : FS}
theorem Cx.cs {p : Program} {R : Room} {s : State} {m : MethodId} {args : Array Value} {meth : Method} {c : Code} {c1 s1 c2 s2 : Nat} (C : Cx B ro cA dC dI x d M p R s m args meth c c1 s1) (h1 : c2 ≤ R.cells) (h2 : s2 ≤ R.slots) : Cx B ro cA dC dI x d M p R s m args meth c c2 s2 := by
  obtain ⟨a1, a2, a3, a4, a5, a6, a7, a8, a9, -, -, a10, a11, a12⟩ := C
  exact ⟨a1, a2, a3, a4, a5, a6, a7, a8, a9, h1, h2, a10, a11, a12⟩
theorem StepOk.rf : StepOk l B ro cA dC dI x d M S S := ⟨GrS.rf _, fun _ _ _ _ _ _ _ _ _ _ _ _ _ _ _ _ _ _ _ _ h => h⟩
theorem StepOk.tr (h1 : StepOk l B ro cA dC dI x d M S S1) (h2 : StepOk l B ro cA dC dI x d M S1 S') : StepOk l B ro cA dC dI x d M S S' := by
  refine ⟨h1.1.tr h2.1, fun p e R s m args below meth c n0 z0 Z C nm hs w hn hz b1 b2 k => ?_⟩
  obtain ⟨w1, p1, q1⟩ := h1.1 w
  obtain ⟨w2, p2, q2⟩ := h2.1 w1
  exact h1.2 p e R s m args below meth c n0 z0 Z C nm hs w hn hz (by omega) (by omega) (h2.2 p e R s m args below meth c n0 z0 Z C nm hs w1 (by omega) (by omega) b1 b2 k)
/-- an instruction of the little machine -/
theorem stepI {a : AIns} {pc' : Nat} {ls' : LsT} {st' : List AV} {I' : MI} {J' : MJ} (hro : ∀ t, t < 4 → ∀ z : Int, z < (roA x t).1 → z < 2147483648) (hM : M < nM) (hcod : cod M pc = some a)
    (h : wp1 (Ex σ x 0) σ x a pc ls st I J (fun p2 l2 s2 I2 J2 => p2 = pc' ∧ l2 = ls' ∧ s2 = st' ∧ I2 = I' ∧ J2 = J') (fun _ _ _ => False)) : StepOk l B ro cA dC dI x d M (pc, ls, st, σ, I, J) (pc', ls', st', σ, I', J') := by
  refine ⟨GrS.rf _, fun p e R s m args below meth c n0 z0 Z C nm hs w hn hz b1 b2 k H locs lsr L D => ?_⟩
  have C0 : Cx B ro cA dC dI x 0 M p R s m args meth c (σ.length - n0) (sz σ - z0) := by
    obtain ⟨a1, a2, a3, a4, a5, a6, a7, a8, a9, -, -, a10, a11, a12⟩ := C
    exact ⟨a1, a2, a3, a4, a5, a6, a7, by omega, by omega, b1, b2, a10, a11, a12⟩
  have hq : ∀ pc2 ls2 st2 I2 J2, (pc2 = pc' ∧ ls2 = ls' ∧ st2 = st' ∧ I2 = I' ∧ J2 = J') → Sem l B ro cA dC dI σ x 0 M (fun _ _ _ => False) pc2 ls2 st2 I2 J2 ∨ True := fun _ _ _ _ _ _ => Or.inr trivial
  obtain ⟨ps, ins, len, hd, hc⟩ := cod_of hM hcod
  obtain ⟨op, nx, i, j, c0⟩ := a
  have go : ∀ pc2 ls2 st2 I2 J2 H2 locs2 lsr2, (pc2 = pc' ∧ ls2 = ls' ∧ st2 = st' ∧ I2 = I' ∧ J2 = J') → LoR B ro lsr2 (MR M).2.2.1 ls2 → Wd B cA dC dI σ I2 J2 s H2 locs2 → W p l e R s m args below meth c H2 locs2 (σ.length - n0) (sz σ - z0) Z (F0 m pc2 lsr2 (st2.map (cv B ro))) := by
    rintro pc2 ls2 st2 I2 J2 H2 locs2 lsr2 ⟨rfl, rfl, rfl, rfl, rfl⟩ L2 D2
    exact k H2 locs2 lsr2 L2 D2
  have rt : Rt l B cA dC dI σ M (fun _ _ _ => False) p e R s m args below meth c (σ.length - n0) (sz σ - z0) Z := fun _ _ _ _ _ _ _ => ⟨fun _ _ q => q.elim, fun _ _ _ q => q.elim, fun _ q => q.elim⟩
  have IH : ∀ j as I J Q, Ex σ x 0 j as I J Q → MetM l B ro cA dC dI σ x 0 j as I J Q := fun _ _ _ _ _ q => q.elim
  have C := C0
  match op, hc, h with
  | 0, hc, h => exact s_0 C L D rt hd hc go h
  | 1, hc, h => exact s_1 C L D rt hd hc go h
  | 2, hc, h => exact s_2 C L D rt hd hc go h
  | 3, hc, h => exact s_3 C L D rt hd hc go h
  | 4, hc, h => exact s_4 C L D rt hd hc go h
  | 5, hc, h => exact s_5 C L D rt hd hc go h
  | 6, hc, h => exact s_6 C L D rt hd hc go h
  | 7, hc, h => exact s_7 C L D rt hd hc go h
  | 8, hc, h => exact s_8 C L D rt hd hc go h
  | 9, hc, h => exact s_9 C L D rt hd hc go h
  | 10, hc, h => exact s_10 C L D rt hd hc go h
  | 11, hc, h => exact s_11 C L D rt hd hc go h
  | 12, hc, h => exact s_12 C L D rt hd hc go h
  | 13, hc, h => exact s_13 C L D rt hd hc go h
  | 14, hc, h => exact s_14 C L D rt hd hc go h
  | 15, hc, h => exact s_15 C L D rt hd hc go h
  | 16, hc, h => exact s_16 C L D rt hd hc go h
  | 17, hc, h => exact s_17 C L D rt hd hc go h
  | 18, hc, h => exact s_18 C L D rt hd hc go h
  | 19, hc, h => exact s_19 C L D rt hd hc go h
  | 20, hc, h => exact s_20 C L D rt hd hc go h
  | 21, hc, h => exact s_21 C L D rt hd hc go h
  | 22, hc, h => exact s_22 C L D rt hd hc go h
  | 23, hc, h => exact s_23 C L D rt hd hc go h
  | 24, hc, h => exact s_24 C L D rt hd hc go h
  | 25, hc, h => exact s_25 C L D rt hd hc go h
  | 26, hc, h => exact s_26 C L D rt hd hc go h
  | 27, hc, h => exact s_27 C L D rt hd hc go h
  | 28, hc, h => exact s_28 C L D rt hd hc go h
  | 29, hc, h => exact s_29 C L D rt hd hc go h
  | 30, hc, h => exact s_30 C L D rt hd hc go h
  | 31, hc, h => exact s_31 C L D rt hd hc go h
  | 32, hc, h => exact s_32 C L D rt hd hc go h
  | 33, hc, h => exact s_33 C L D rt hd hc go h
  | 34, hc, h => exact s_34 C L D rt hd hc go h
  | 35, hc, h => exact s_35 C L D rt hd hc go h
  | 36, hc, h => exact s_36 C L D rt hd hc go h
  | 37, hc, h => exact s_37 C L D rt w hd hc go h
  | 38, hc, h => exact s_38 C L D rt w hd hc go h
  | 39, hc, h => exact s_39 C L D rt w hd hc go h
  | 40, hc, h => exact s_40 C L D rt w hd hc go h
  | 41, hc, h => exact s_41 C L D rt w hd hc go h
  | 42, hc, h => exact s_42 C L D rt w hd hc go h
  | 43, hc, h => exact s_43 C L D rt hd hc go h
  | 44, hc, h => exact s_44 C L D rt w hro hd hc go h
  | 45, hc, h => exact s_45 C L D rt w hd hc go h
  | 46, hc, h => exact s_46 C L D rt w hd hc go h
  | 47, hc, h => exact s_47 C L D rt w hd hc go h
  | 48, hc, h => exact s_48 C L D rt w hd hc go h
  | 49, hc, h => exact s_49 C L D rt w hd hc go h
  | 50, hc, h => exact s_50 C L D rt w hd hc go h
  | 51, hc, h => exact s_51 C L D rt w hd hc go h
  | 52, hc, h => exact s_52 C L D rt w IH hd hc go h
  | 53, hc, h => exact s_53 C L D rt w IH hd hc go h
  | 54, hc, h => exact s_54 C L D rt w hd hc go h
  | 55, hc, h => exact s_55 C L D rt hd hc go h
  | 56, hc, h => exact s_56 C L D rt hd hc go h
  | 57, hc, h => exact s_57 C L D rt hd hc go h
  | 58, hc, h => exact h.elim
  | 59, hc, h => exact h.elim
  | 60, hc, h => exact h.elim
  | 61, hc, h => exact h.elim
  | 62, hc, h => exact h.elim
  | 63, hc, h => exact h.elim
  | 64, hc, h => exact h.elim
  | 65, hc, h => exact s_65 C L D rt hd hc go h
  | 66, hc, h => exact s_66 C L D rt hd hc go h
  | op + 67, hc, h => exact h.elim

theorem callKA {p : Program} {e : Env} {R : Room} {s : State} {m : MethodId} {args : Array Value} {below : List Frame} {meth : Method} {c : Code} {H : Heap} {locs : List Loc} {cells slots mc ms : Nat} {Z : State → Prop} {lsr : Array Slot} {st0 rest : List Value} {a : Array Value} {r : Option AV} {σ' : List Sh} {I' : MI} {J' : MJ} (hr : va_Run p l e R s m args below meth c H locs cells slots mc ms (F0 m pc lsr st0) rest (QcA B ro cA dC dI r σ' I' J' a) (fun q => B ≤ q)) (D : Wd B cA dC dI σ I J s H locs)
    (kk : ∀ H' locs', Wd B cA dC dI σ' I' J' s H' locs' → W p l e R s m args below meth c H' locs' (cells + mc) (slots + ms) Z (F0 m (pc + 3) lsr ((r.map (cv B ro)).toList ++ rest))) : W p l e R s m args below meth c H locs cells slots Z (F0 m pc lsr st0) := by
  intro T hT X
  obtain ⟨v, st₀, t, T', L, h0, X', hL, e1, e2, ⟨⟨hv, hP⟩, hz, hk⟩, st⟩ := hr T hT X
  have hv2 := Outcome.returned.inj hv
  subst hv2
  rw [h0] at hz hk
  obtain ⟨t2, a1, b1⟩ := kk T'.heap (locs ++ L) ⟨by rw [e1]; exact hP, Nat.le_trans D.2.1 (by rw [e1]; exact hz), fun q h1 h2 => by rw [e1, hk q (Nat.lt_of_lt_of_le h1 D.2.1) h2]; exact D.2.2.1 q h1 h2, fun q hq => by
      rcases List.mem_append.mp hq with h | h
      · exact D.2.2.2 q h
      · exact hL q h⟩ T' rfl X'
  exact ⟨t2, st t2 a1, b1⟩

theorem v_52 (he : HE l B ro cA dC dI x d E) (hM : M < nM) (hcod : cod M pc = some (52, nx, i, j, c0)) (h : ev1 E (52, nx, i, j, c0) (pc, ls, st, σ, I, J) = some S') : StepOk l B ro cA dC dI x d M (pc, ls, st, σ, I, J) S' := by
  obtain ⟨ps, ins, len, hd, hc⟩ := cod_of hM hcod
  simp only [chk1, Bool.and_eq_true, decide_eq_true_eq] at hc
  obtain ⟨rfl, hc⟩ := hc
  split at hc
  · rename_i q
    simp only [Bool.and_eq_true, decide_eq_true_eq] at hc
    obtain ⟨⟨rfl, hm⟩, hkd⟩ := hc
    obtain ⟨hj, hnp, hlk⟩ := mOk_of hm
    obtain ⟨m1, m2, m3, m4, m5, m6, m7, m8, m9, m10⟩ := mth_of hj
    simp only [ev1] at h
    split at h
    · rename_i hcl
      obtain ⟨hcat, hlen⟩ := hcl
      split at h
      · rename_i r σ' I' J' hev
        cases h
        obtain ⟨hgr, hmet⟩ := he _ _ _ _ _ _ _ _ _ hev
        refine ⟨hgr, fun p e R s m args below meth c n0 z0 Z C nm hs w hn hz b1 b2 k H locs lsr L D => ?_⟩
        have hn : n0 ≤ σ.length := hn
        have hz : z0 ≤ sz σ := hz
        have b1 : σ'.length - n0 ≤ R.cells := b1
        have b2 : sz σ' - z0 ≤ R.slots := b2
        obtain ⟨w', p1, p2⟩ := hgr w
        have p1 : σ.length ≤ σ'.length := p1
        have p2 : sz σ ≤ sz σ' := p2
        have hM2 := hmet w
        refine Wsize (fun hle => ?_)
        have hsz := hsize D hs hn hle
        have C : Cx B ro cA dC dI x d M p R s m args meth c (σ.length - n0) (sz σ - z0) := C.cs (by omega) (by omega)
        have hfr : (rmA d (σ'.length - σ.length) (sz σ' - sz σ)).frames + 1 ≤ R.frames := C.2.2.2.2.2.2.2.1
        have hlo : 8 + ((MR i).2.2.1 + 11) + (rmA d (σ'.length - σ.length) (sz σ' - sz σ)).locals ≤ R.locals := by
          have h1 := C.2.2.2.2.2.2.2.2.1
          have h2 : (rmA d (σ'.length - σ.length) (sz σ' - sz σ)).locals = 40 * d := rfl
          omega
        have hst : st.map (cv B ro) = (((st.take j).reverse).map (cv B ro)).reverse ++ (st.drop j).map (cv B ro) := by
          rw [← List.map_reverse, List.reverse_reverse, ← List.map_append, List.take_append_drop]
        have hnn : (((st.take j).reverse).map (cv B ro)).length = j := by
          rw [List.length_map, List.length_reverse, List.length_take]; omega
        have hf : σ.length - n0 + (σ'.length - σ.length) ≤ R.cells ∧ sz σ - z0 + (sz σ' - sz σ) ≤ R.slots := ⟨by omega, by omega⟩
        have hroom : 2 * (F0 m pc lsr (st.map (cv B ro))).monitorRoom + (((st.drop j).map (cv B ro)).map fun v => v.category).sum ≤ 8 := lv_room (by rw [catS_cv]; exact hcat)
        have hpre : PreS s H (PcA B ro cA dC dI x (st.take j).reverse σ I J) (((st.take j).reverse).map (cv B ro)) := ⟨PcA_blind, fun U hU hW => ⟨preB C D _ U hU hW, by rw [hU]; exact hsz⟩⟩
        rcases hlk with ⟨-, hlk⟩ | ⟨-, -, hlk⟩
        · refine callKA (va_runS (As := ((st.take j).reverse).map (cv B ro)) ⟨C.1, C.2.1, C.2.2.2.1, C.2.2.2.2.1, C.2.2.2.2.2.1⟩ hM2 ⟨callB_of j C.2.2.2.2.2.1 (good_ws hj) rfl rfl rfl (C.2.2.2.2.2.1 _ m2) (C.2.2.2.2.2.1 _ hlk) (hnp ▸ m4) ⟨hfr, hlo⟩, C.2.2.2.2.2.1 _ (m8 hkd)⟩ hpre rfl hnn L.1 hst hroom hd hf) D (fun H' locs' D' => ?_)
          have h2 := k H' locs' lsr L D'
          simp only [resK] at h2
          rw [show σ.length - n0 + (σ'.length - σ.length) = σ'.length - n0 by omega, show sz σ - z0 + (sz σ' - sz σ) = sz σ' - z0 by omega]
          exact h2
        · refine callKA (va_runSN (As := ((st.take j).reverse).map (cv B ro)) ⟨C.1, C.2.1, C.2.2.2.1, C.2.2.2.2.1, C.2.2.2.2.2.1⟩ hM2 ⟨va_cnB j C.2.2.2.2.2.1 (good_ws hj) rfl rfl rfl (C.2.2.2.2.2.2.2.2.2.2.2.2.2.1 _ hlk rfl) (C.2.2.2.2.2.1 _ m2) (hnp ▸ m4) ⟨hfr, hlo⟩, C.2.2.2.2.2.1 _ (m8 hkd), trivial⟩ hpre rfl hnn L.1 hst hroom hd hf) D (fun H' locs' D' => ?_)
          have h2 := k H' locs' lsr L D'
          simp only [resK] at h2
          rw [show σ.length - n0 + (σ'.length - σ.length) = σ'.length - n0 by omega, show sz σ - z0 + (sz σ' - sz σ) = sz σ' - z0 by omega]
          exact h2
      · cases h
    · cases h
  · cases hc

theorem v_53 (he : HE l B ro cA dC dI x d E) (hM : M < nM) (hcod : cod M pc = some (53, nx, i, j, c0)) (h : ev1 E (53, nx, i, j, c0) (pc, ls, st, σ, I, J) = some S') : StepOk l B ro cA dC dI x d M (pc, ls, st, σ, I, J) S' := by
  obtain ⟨ps, ins, len, hd, hc⟩ := cod_of hM hcod
  simp only [chk1, Bool.and_eq_true, decide_eq_true_eq] at hc
  obtain ⟨rfl, hc⟩ := hc
  split at hc
  · rename_i q
    simp only [Bool.and_eq_true, decide_eq_true_eq] at hc
    obtain ⟨⟨rfl, hm⟩, hkd⟩ := hc
    obtain ⟨hj, hnp, hlk⟩ := mOk_of hm
    obtain ⟨m1, m2, m3, m4, m5, m6, m7, m8, m9, m10⟩ := mth_of hj
    simp only [ev1] at h
    split at h
    · rename_i r hr
      split at h
      · rename_i hcl0
        obtain ⟨hcat, hcl⟩ := hcl0
        split at h
        · rename_i rr σ' I' J' hev
          cases h
          obtain ⟨hgr, hmet⟩ := he _ _ _ _ _ _ _ _ _ hev
          refine ⟨hgr, fun p e R s m args below meth c n0 z0 Z C nm hs w hn hz b1 b2 k H locs lsr L D => ?_⟩
          have hn : n0 ≤ σ.length := hn
          have hz : z0 ≤ sz σ := hz
          have b1 : σ'.length - n0 ≤ R.cells := b1
          have b2 : sz σ' - z0 ≤ R.slots := b2
          obtain ⟨w', p1, p2⟩ := hgr w
          have p1 : σ.length ≤ σ'.length := p1
          have p2 : sz σ ≤ sz σ' := p2
          have hM2 := hmet w
          refine Wsize (fun hle => ?_)
          have hsz := hsize D hs hn hle
          have C : Cx B ro cA dC dI x d M p R s m args meth c (σ.length - n0) (sz σ - z0) := C.cs (by omega) (by omega)
          have hfr : (rmA d (σ'.length - σ.length) (sz σ' - sz σ)).frames + 1 ≤ R.frames := C.2.2.2.2.2.2.2.1
          have hlo : 8 + ((MR i).2.2.1 + 11) + (rmA d (σ'.length - σ.length) (sz σ' - sz σ)).locals ≤ R.locals := by
            have h1 := C.2.2.2.2.2.2.2.2.1
            have h2 : (rmA d (σ'.length - σ.length) (sz σ' - sz σ)).locals = 40 * d := rfl
            omega
          have hlt : j < st.length := (List.getElem?_eq_some_iff.mp hr).1
          have hst0 : st = st.take j ++ (.inr (.inr (.inl r)) : AV) :: st.drop (j + 1) := by
            have e1 : st[j] = (.inr (.inr (.inl r)) : AV) := (List.getElem?_eq_some_iff.mp hr).2
            rw [← e1, ← List.drop_eq_getElem_cons hlt, List.take_append_drop]
          have hst : st.map (cv B ro) = (((st.take j).reverse).map (cv B ro)).reverse ++ .ref (B + r) :: (st.drop (j + 1)).map (cv B ro) := by
            rw [← List.map_reverse, List.reverse_reverse]
            have := congrArg (List.map (cv B ro)) hst0
            rw [List.map_append] at this
            exact this
          have hnn : (((st.take j).reverse).map (cv B ro)).length = j := by
            rw [List.length_map, List.length_reverse, List.length_take]; omega
          have hf : σ.length - n0 + (σ'.length - σ.length) ≤ R.cells ∧ sz σ - z0 + (sz σ' - sz σ) ≤ R.slots := ⟨by omega, by omega⟩
          have hroom : 2 * (F0 m pc lsr (st.map (cv B ro))).monitorRoom + (((st.drop (j + 1)).map (cv B ro)).map fun v => v.category).sum ≤ 8 := lv_room (by rw [catS_cv]; exact hcat)
          obtain ⟨⟨hc11, hcn⟩, mi, ms⟩ := m9 hkd
          obtain ⟨fs, hs2, -, -⟩ := wf_obj w hcl hc11
          obtain ⟨Cn, T, N, e1, e2, -⟩ := cls_all hc11
          have hcn2 : Cn = (Y i).cls := by rw [← hcn, e2]
          subst hcn2
          have hrec := va_recv (q0 := r) C.2.2.2.2.2.2.2.2.2.2.2.1 D.1 e1 (wsW_at hs2)
          rcases hlk with ⟨-, hlk⟩ | ⟨-, hnest, -⟩
          · refine callKA (va_runV (As := ((st.take j).reverse).map (cv B ro)) ⟨C.1, C.2.1, C.2.2.2.1, C.2.2.2.2.1, C.2.2.2.2.2.1⟩ hM2 ⟨callB_of j C.2.2.2.2.2.1 (good_ws hj) rfl rfl rfl (C.2.2.2.2.2.1 _ m2) (C.2.2.2.2.2.1 _ hlk) (hnp ▸ m4) ⟨hfr, hlo⟩, C.2.2.2.2.2.1 _ mi, C.2.2.2.2.2.1 _ ms⟩ ⟨PcA_blind, hrec, fun U hU hW => ⟨preB C D _ U hU hW, by rw [hU]; exact hsz⟩⟩ rfl hnn L.1 hst hroom hd hf) D (fun H' locs' D' => ?_)
            have h2 := k H' locs' lsr L D'
            simp only [resK] at h2
            rw [show σ.length - n0 + (σ'.length - σ.length) = σ'.length - n0 by omega, show sz σ - z0 + (sz σ' - sz σ) = sz σ' - z0 by omega]
            exact h2
          · exact absurd hnest (by decide)
        · cases h
      · cases h
    · cases h
  · cases hc

theorem v_63 (he : HE l B ro cA dC dI x d E) (hM : M < nM) (hcod : cod M pc = some (63, nx, i, j, c0)) (h : ev1 E (63, nx, i, j, c0) (pc, ls, st, σ, I, J) = some S') : StepOk l B ro cA dC dI x d M (pc, ls, st, σ, I, J) S' := by
  obtain ⟨ps, ins, len, hd, hc⟩ := cod_of hM hcod
  simp only [chk1, Bool.and_eq_true, decide_eq_true_eq] at hc
  obtain ⟨rfl, hc⟩ := hc
  split at hc
  · rename_i q
    simp only [Bool.and_eq_true, decide_eq_true_eq] at hc
    obtain ⟨⟨rfl, hm⟩, hkd⟩ := hc
    obtain ⟨hj, hnp, hlk⟩ := mOk_of hm
    obtain ⟨m1, m2, m3, m4, m5, m6, m7, m8, m9, m10⟩ := mth_of hj
    simp only [ev1] at h
    split at h
    · rename_i r hr
      split at h
      · rename_i hcat
        split at h
        · rename_i σ' I' J' hev
          cases h
          obtain ⟨hgr, hmet⟩ := he _ _ _ _ _ _ _ _ _ hev
          refine ⟨hgr, fun p e R s m args below meth c n0 z0 Z C nm hs w hn hz b1 b2 k H locs lsr L D => ?_⟩
          have hn : n0 ≤ σ.length := hn
          have hz : z0 ≤ sz σ := hz
          have b1 : σ'.length - n0 ≤ R.cells := b1
          have b2 : sz σ' - z0 ≤ R.slots := b2
          obtain ⟨w', p1, p2⟩ := hgr w
          have p1 : σ.length ≤ σ'.length := p1
          have p2 : sz σ ≤ sz σ' := p2
          have hM2 := hmet w
          refine Wsize (fun hle => ?_)
          have hsz := hsize D hs hn hle
          have C : Cx B ro cA dC dI x d M p R s m args meth c (σ.length - n0) (sz σ - z0) := C.cs (by omega) (by omega)
          have hfr : (rmA d (σ'.length - σ.length) (sz σ' - sz σ)).frames + 1 ≤ R.frames := C.2.2.2.2.2.2.2.1
          have hlo : 8 + ((MR i).2.2.1 + 11) + (rmA d (σ'.length - σ.length) (sz σ' - sz σ)).locals ≤ R.locals := by
            have h1 := C.2.2.2.2.2.2.2.2.1
            have h2 : (rmA d (σ'.length - σ.length) (sz σ' - sz σ)).locals = 40 * d := rfl
            omega
          have hlt : j < st.length := (List.getElem?_eq_some_iff.mp hr).1
          have hst0 : st = st.take j ++ (.inr (.inr (.inl r)) : AV) :: st.drop (j + 1) := by
            have e1 : st[j] = (.inr (.inr (.inl r)) : AV) := (List.getElem?_eq_some_iff.mp hr).2
            rw [← e1, ← List.drop_eq_getElem_cons hlt, List.take_append_drop]
          have hst : st.map (cv B ro) = (((st.take j).reverse).map (cv B ro)).reverse ++ .ref (B + r) :: (st.drop (j + 1)).map (cv B ro) := by
            rw [← List.map_reverse, List.reverse_reverse]
            have := congrArg (List.map (cv B ro)) hst0
            rw [List.map_append] at this
            exact this
          have hnn : (((st.take j).reverse).map (cv B ro)).length = j := by
            rw [List.length_map, List.length_reverse, List.length_take]; omega
          have hf : σ.length - n0 + (σ'.length - σ.length) ≤ R.cells ∧ sz σ - z0 + (sz σ' - sz σ) ≤ R.slots := ⟨by omega, by omega⟩
          have hroom : 2 * (F0 m pc lsr (st.map (cv B ro))).monitorRoom + (((st.drop (j + 1)).map (cv B ro)).map fun v => v.category).sum ≤ 8 := lv_room (by rw [catS_cv]; exact hcat)
          obtain ⟨⟨hnm, hrn⟩, mi⟩ := m10 hkd
          have hpre : PreS s H (PcA B ro cA dC dI x (.inr (.inr (.inl r)) :: (st.take j).reverse) σ I J) (.ref (B + r) :: ((st.take j).reverse).map (cv B ro)) := ⟨PcA_blind, fun U hU hW => ⟨preB C D _ U hU hW, by rw [hU]; exact hsz⟩⟩
          have hM3 := hM2
          unfold MetA wsM at hM3
          rw [hrn] at hM3
          have hg3 : GoodIn lw_gd (Cond.code (Y i) (MR i).2.1 (MR i).2.2.1 none :: lw_gd) := by
            have := good_ws hj
            unfold wsM at this
            rwa [hrn] at this
          rcases hlk with ⟨-, hlk⟩ | ⟨-, -, hlk⟩
          · refine callKA (va_runI (As := ((st.take j).reverse).map (cv B ro)) ⟨C.1, C.2.1, C.2.2.2.1, C.2.2.2.2.1, C.2.2.2.2.2.1⟩ hM3 ⟨callB_of j C.2.2.2.2.2.1 hg3 rfl rfl rfl (C.2.2.2.2.2.1 _ m2) (C.2.2.2.2.2.1 _ hlk) (hnp ▸ m4) ⟨hfr, hlo⟩, hnm, C.2.2.2.2.2.1 _ mi⟩ hpre rfl hnn L.1 hst hroom hd hf) D (fun H' locs' D' => ?_)
            have h2 := k H' locs' lsr L D'
            rw [show σ.length - n0 + (σ'.length - σ.length) = σ'.length - n0 by omega, show sz σ - z0 + (sz σ' - sz σ) = sz σ' - z0 by omega]
            exact h2
          · refine callKA (va_runIN (As := ((st.take j).reverse).map (cv B ro)) ⟨C.1, C.2.1, C.2.2.2.1, C.2.2.2.2.1, C.2.2.2.2.2.1⟩ hM3 ⟨va_cnB j C.2.2.2.2.2.1 hg3 rfl rfl rfl (C.2.2.2.2.2.2.2.2.2.2.2.2.2.1 _ hlk rfl) (C.2.2.2.2.2.1 _ m2) (hnp ▸ m4) ⟨hfr, hlo⟩, hnm, C.2.2.2.2.2.1 _ mi⟩ hpre rfl hnn L.1 hst hroom hd hf) D (fun H' locs' D' => ?_)
            have h2 := k H' locs' lsr L D'
            rw [show σ.length - n0 + (σ'.length - σ.length) = σ'.length - n0 by omega, show sz σ - z0 + (sz σ' - sz σ) = sz σ' - z0 by omega]
            exact h2
        · cases h
      · cases h
    · cases h
  · cases hc
end STP
