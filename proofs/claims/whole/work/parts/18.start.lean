/-! THE CLAIM OUT OF ONE WALK OF THE LAW'S BODY. Your part is whole_start (and what it stands on); all else here is the same for every law, but numbers. -/
def R_law : String := "HedgeGateLaw"
def lw_P (b : Addr) (xs : List Int32) (args : Array Value) (s : State) : Prop := args = #[.ref b] ∧ s.IntsAt b xs ∧ xs.length ≤ 3072 ∧ (Jvm.Cond.and given_1 narrow_1).before args s = true
def lw_Q (_ : Array Value) (s : State) (o : Outcome) (t : State) : Prop := o = .returned (some (.int 1)) ∧ Framed s o t [] 600000 7302250
def lw_Z (below : List Frame) (a : Array Value) (s : State) : State → Prop := fun t => ∃ o, t.status = .running ∧ Ended t below o ∧ lw_Q a s o t
/-- the law's own end, with 1 on the stack, nothing written that was there before, its room as the claim has it -/
theorem lw_ret {p : Program} {l : Launch} {e : Env} {s : State} {m : MethodId} {below : List Frame} {meth : Method} {c : Code} {b : Nat} (hx : p.tables.exec = Jvm.exec) (hb : c.code = code) (hr : meth.sig.returnType = ret) (hlocks : meth.locks = false) {pc : Nat} {H : Heap} {ls : Array Slot} (hdg : decode code pc = .ok (.ireturn, 1)) : W p l e room_1 s m #[Value.ref b] below meth c H [] 600000 7302250 (lw_Z below #[Value.ref b] s) (F0 m pc ls [.int 1]) := by
  intro T hT X
  obtain ⟨fs, hret, hrun, hended, hW, hframe⟩ := X.leave (v := some (.int 1)) (hlocks := hlocks) (fun h => by rw [hr] at h; cases h)
  have hmeth' : T.vm.method? m = some meth := X.method'
  refine ⟨T.setFrames fs, ?_, .returned (some (.int 1)), hrun, hended, rfl, ⟨_, rfl⟩, hW, hframe⟩
  jvm_step X.here [X.here.top, hx, hb, hdg, hmeth', hr, ret, narrow_b1]
  (try refine ⟨rfl, ?_⟩); (try refine ⟨rfl, ?_⟩)
  first | (intro acts; rw [hret _ acts rfl rfl rfl]) | rw [hret _ _ rfl rfl rfl]
  exact Steps.refl _
/-- what holds at the law's entry: the machine, the code, the tables' words (any of lw_tbl by 'hts w (by decide +kernel)'), the script of L ints xs at the cell b, what the Statement gives of the start (any of its parts by flat_of_before) -/
def lw_At (p : Program) (s : State) (m : MethodId) (meth : Method) (c : Code) (b L : Nat) (xs : Nat → Int32) : Prop :=
  p.tables.exec = Jvm.exec ∧ c.code = code ∧ meth.sig.returnType = ret ∧ c.maxLocals = 4 ∧ s.vm.findClass R_law = some m.cls ∧ (∀ w ∈ lw_tbl, w.before #[Value.ref b] s = true) ∧ va_X b L xs s s.heap ∧ b < s.heap.size ∧ meth.locks = false ∧ (Jvm.Cond.and given_1 narrow_1).before #[Value.ref b] s = true
theorem st_1 {b : Nat} {s : State} (hs : ∀ w ∈ lw_tbl, w.before #[Value.ref b] s = true) (hg : (Jvm.Cond.and given_1 narrow_1).before #[Value.ref b] s = true) : ∃ t : Nat, va_T .int t 6 (fun j => .int (Int32.ofInt (([-1, 0, 1, 1, 0, 4] : List Int).getD j 0))) (fun q => s.heap.size ≤ q) s s.heap ∧ va_Z "HedgeGate" "ABOVE" "[I" (.ref t) (fun q => s.heap.size ≤ q) s s.heap := by
  have hf := flat_of_before _ hg
  have harr : (Cond.arrayOf (Term.static "HedgeGate" "ABOVE" "[I") .int).before #[Value.ref b] s = true := hf _ (by decide +kernel)
  have hlen : (Cond.eq (Term.length (Term.static "HedgeGate" "ABOVE" "[I")) (.int 6)).before #[Value.ref b] s = true := hf _ (by decide +kernel)
  have h0 : (Cond.eq (Term.elem (Term.static "HedgeGate" "ABOVE" "[I") (.int 0)) (.int (-1))).before #[Value.ref b] s = true := hf _ (by decide +kernel)
  have h1 : (Cond.eq (Term.elem (Term.static "HedgeGate" "ABOVE" "[I") (.int 1)) (.int (0))).before #[Value.ref b] s = true := hf _ (by decide +kernel)
  have h2 : (Cond.eq (Term.elem (Term.static "HedgeGate" "ABOVE" "[I") (.int 2)) (.int (1))).before #[Value.ref b] s = true := hf _ (by decide +kernel)
  have h3 : (Cond.eq (Term.elem (Term.static "HedgeGate" "ABOVE" "[I") (.int 3)) (.int (1))).before #[Value.ref b] s = true := hf _ (by decide +kernel)
  have h4 : (Cond.eq (Term.elem (Term.static "HedgeGate" "ABOVE" "[I") (.int 4)) (.int (0))).before #[Value.ref b] s = true := hf _ (by decide +kernel)
  have h5 : (Cond.eq (Term.elem (Term.static "HedgeGate" "ABOVE" "[I") (.int 5)) (.int (4))).before #[Value.ref b] s = true := hf _ (by decide +kernel)
  obtain ⟨t, ht, hT⟩ := va_Tof (N := 6) (f := fun j => .int (Int32.ofInt (([-1, 0, 1, 1, 0, 4] : List Int).getD j 0))) (A := fun q => s.heap.size ≤ q) (by decide) harr ((va_eqt hlen).trans rfl) (fun j hj => by
    have hc : j = 0 ∨ j = 1 ∨ j = 2 ∨ j = 3 ∨ j = 4 ∨ j = 5 := by omega
    rcases hc with rfl | rfl | rfl | rfl | rfl | rfl
    · exact (va_eqt h0).trans (by decide +kernel)
    · exact (va_eqt h1).trans (by decide +kernel)
    · exact (va_eqt h2).trans (by decide +kernel)
    · exact (va_eqt h3).trans (by decide +kernel)
    · exact (va_eqt h4).trans (by decide +kernel)
    · exact (va_eqt h5).trans (by decide +kernel)
    ) (fun a h => Nat.not_le.mpr h)
  exact ⟨t, hT, va_Zof (hs _ (List.mem_of_getElem? (i := 556) (by decide +kernel))) (hs _ (List.mem_of_getElem? (i := 59) (by decide +kernel))) ht (fun a h => Nat.not_le.mpr h)⟩
theorem st_2 {b : Nat} {s : State} (hs : ∀ w ∈ lw_tbl, w.before #[Value.ref b] s = true) (hg : (Jvm.Cond.and given_1 narrow_1).before #[Value.ref b] s = true) : ∃ t : Nat, va_T .int t 6 (fun j => .int (Int32.ofInt (([10, 11, 12, 0, 13, 14] : List Int).getD j 0))) (fun q => s.heap.size ≤ q) s s.heap ∧ va_Z "HedgeGate" "SIZE_BODIES" "[I" (.ref t) (fun q => s.heap.size ≤ q) s s.heap := by
  have hf := flat_of_before _ hg
  have harr : (Cond.arrayOf (Term.static "HedgeGate" "SIZE_BODIES" "[I") .int).before #[Value.ref b] s = true := hf _ (by decide +kernel)
  have hlen : (Cond.eq (Term.length (Term.static "HedgeGate" "SIZE_BODIES" "[I")) (.int 6)).before #[Value.ref b] s = true := hf _ (by decide +kernel)
  have h0 : (Cond.eq (Term.elem (Term.static "HedgeGate" "SIZE_BODIES" "[I") (.int 0)) (.int (10))).before #[Value.ref b] s = true := hf _ (by decide +kernel)
  have h1 : (Cond.eq (Term.elem (Term.static "HedgeGate" "SIZE_BODIES" "[I") (.int 1)) (.int (11))).before #[Value.ref b] s = true := hf _ (by decide +kernel)
  have h2 : (Cond.eq (Term.elem (Term.static "HedgeGate" "SIZE_BODIES" "[I") (.int 2)) (.int (12))).before #[Value.ref b] s = true := hf _ (by decide +kernel)
  have h3 : (Cond.eq (Term.elem (Term.static "HedgeGate" "SIZE_BODIES" "[I") (.int 3)) (.int (0))).before #[Value.ref b] s = true := hf _ (by decide +kernel)
  have h4 : (Cond.eq (Term.elem (Term.static "HedgeGate" "SIZE_BODIES" "[I") (.int 4)) (.int (13))).before #[Value.ref b] s = true := hf _ (by decide +kernel)
  have h5 : (Cond.eq (Term.elem (Term.static "HedgeGate" "SIZE_BODIES" "[I") (.int 5)) (.int (14))).before #[Value.ref b] s = true := hf _ (by decide +kernel)
  obtain ⟨t, ht, hT⟩ := va_Tof (N := 6) (f := fun j => .int (Int32.ofInt (([10, 11, 12, 0, 13, 14] : List Int).getD j 0))) (A := fun q => s.heap.size ≤ q) (by decide) harr ((va_eqt hlen).trans rfl) (fun j hj => by
    have hc : j = 0 ∨ j = 1 ∨ j = 2 ∨ j = 3 ∨ j = 4 ∨ j = 5 := by omega
    rcases hc with rfl | rfl | rfl | rfl | rfl | rfl
    · exact (va_eqt h0).trans (by decide +kernel)
    · exact (va_eqt h1).trans (by decide +kernel)
    · exact (va_eqt h2).trans (by decide +kernel)
    · exact (va_eqt h3).trans (by decide +kernel)
    · exact (va_eqt h4).trans (by decide +kernel)
    · exact (va_eqt h5).trans (by decide +kernel)
    ) (fun a h => Nat.not_le.mpr h)
  exact ⟨t, hT, va_Zof (hs _ (List.mem_of_getElem? (i := 791) (by decide +kernel))) (hs _ (List.mem_of_getElem? (i := 59) (by decide +kernel))) ht (fun a h => Nat.not_le.mpr h)⟩
theorem st_3 {b : Nat} {s : State} (hs : ∀ w ∈ lw_tbl, w.before #[Value.ref b] s = true) (hg : (Jvm.Cond.and given_1 narrow_1).before #[Value.ref b] s = true) : ∃ t : Nat, va_T .int t 6 (fun j => .int (Int32.ofInt (([20, 21, 24, 22, 23, 0] : List Int).getD j 0))) (fun q => s.heap.size ≤ q) s s.heap ∧ va_Z "HedgeGate" "MARK_BODIES" "[I" (.ref t) (fun q => s.heap.size ≤ q) s s.heap := by
  have hf := flat_of_before _ hg
  have harr : (Cond.arrayOf (Term.static "HedgeGate" "MARK_BODIES" "[I") .int).before #[Value.ref b] s = true := hf _ (by decide +kernel)
  have hlen : (Cond.eq (Term.length (Term.static "HedgeGate" "MARK_BODIES" "[I")) (.int 6)).before #[Value.ref b] s = true := hf _ (by decide +kernel)
  have h0 : (Cond.eq (Term.elem (Term.static "HedgeGate" "MARK_BODIES" "[I") (.int 0)) (.int (20))).before #[Value.ref b] s = true := hf _ (by decide +kernel)
  have h1 : (Cond.eq (Term.elem (Term.static "HedgeGate" "MARK_BODIES" "[I") (.int 1)) (.int (21))).before #[Value.ref b] s = true := hf _ (by decide +kernel)
  have h2 : (Cond.eq (Term.elem (Term.static "HedgeGate" "MARK_BODIES" "[I") (.int 2)) (.int (24))).before #[Value.ref b] s = true := hf _ (by decide +kernel)
  have h3 : (Cond.eq (Term.elem (Term.static "HedgeGate" "MARK_BODIES" "[I") (.int 3)) (.int (22))).before #[Value.ref b] s = true := hf _ (by decide +kernel)
  have h4 : (Cond.eq (Term.elem (Term.static "HedgeGate" "MARK_BODIES" "[I") (.int 4)) (.int (23))).before #[Value.ref b] s = true := hf _ (by decide +kernel)
  have h5 : (Cond.eq (Term.elem (Term.static "HedgeGate" "MARK_BODIES" "[I") (.int 5)) (.int (0))).before #[Value.ref b] s = true := hf _ (by decide +kernel)
  obtain ⟨t, ht, hT⟩ := va_Tof (N := 6) (f := fun j => .int (Int32.ofInt (([20, 21, 24, 22, 23, 0] : List Int).getD j 0))) (A := fun q => s.heap.size ≤ q) (by decide) harr ((va_eqt hlen).trans rfl) (fun j hj => by
    have hc : j = 0 ∨ j = 1 ∨ j = 2 ∨ j = 3 ∨ j = 4 ∨ j = 5 := by omega
    rcases hc with rfl | rfl | rfl | rfl | rfl | rfl
    · exact (va_eqt h0).trans (by decide +kernel)
    · exact (va_eqt h1).trans (by decide +kernel)
    · exact (va_eqt h2).trans (by decide +kernel)
    · exact (va_eqt h3).trans (by decide +kernel)
    · exact (va_eqt h4).trans (by decide +kernel)
    · exact (va_eqt h5).trans (by decide +kernel)
    ) (fun a h => Nat.not_le.mpr h)
  exact ⟨t, hT, va_Zof (hs _ (List.mem_of_getElem? (i := 793) (by decide +kernel))) (hs _ (List.mem_of_getElem? (i := 59) (by decide +kernel))) ht (fun a h => Nat.not_le.mpr h)⟩
theorem law_ro {b L : Nat} {xs : Nat → Int32} {s : State} (hL : L ≤ 3072) (hs : ∀ w ∈ lw_tbl, w.before #[Value.ref b] s = true) (hg : (Jvm.Cond.and given_1 narrow_1).before #[Value.ref b] s = true) (hX : va_X b L xs s s.heap) (hbl : b < s.heap.size) : ∃ ro : Nat → Nat, ro 0 = b ∧ RoW s.heap.size ro (L, fun j => (xs j).toInt) s s.heap := by
  obtain ⟨t1, a1, z1⟩ := st_1 hs hg
  obtain ⟨t2, a2, z2⟩ := st_2 hs hg
  obtain ⟨t3, a3, z3⟩ := st_3 hs hg
  refine ⟨fun t => match t with | 0 => b | 1 => t1 | 2 => t2 | _ => t3, rfl, fun t ht => ?_, fun t h0 ht => ?_⟩
  · have hc : t = 0 ∨ t = 1 ∨ t = 2 ∨ t = 3 := by omega
    rcases hc with rfl | rfl | rfl | rfl
    · obtain ⟨scr, h1, h2, h3, h4, h5⟩ := hX
      refine ⟨scr, h1, h2, h3, Nat.le_of_eq h4.symm, by rw [h4]; rfl, fun j hj => ?_, Nat.not_le.mpr hbl⟩
      rw [h5 j hj]
      show some (Value.int (xs j)) = some (Value.int (Int32.ofInt (xs j).toInt))
      rw [ofI_toI]
    · exact a1
    · exact a2
    · exact a3
  · have hc : t = 1 ∨ t = 2 ∨ t = 3 := by omega
    rcases hc with rfl | rfl | rfl
    · exact z1
    · exact z2
    · exact z3
theorem law_k {b : Nat} {s : State} (hs : ∀ w ∈ lw_tbl, w.before #[Value.ref b] s = true) : ∃ (cA dC : Nat → ClassId) (dI : Nat → Nat → Nat), va_K (dC, dI) CL (tysL cA) s := by
  have hg : ∀ w ∈ lw_gd, w.before #[Value.ref b] s = true := fun w hw => hs w (List.mem_filter.mp hw).1
  have h1 : ∀ ci : Nat, ∃ (c : ClassId) (iS : Nat → Nat), ∀ q : vw_C, CL[ci]? = some q → u_Kn s q.1 q.2.1 q.2.2 c iS := by
    intro ci
    by_cases hci : ci < 11
    · obtain ⟨C, T, N, e1, e2, e3, -⟩ := cls_all hci
      obtain ⟨⟨i1, -⟩, i3⟩ := cls_inst ci hci
      rw [e2] at i1 i3
      have i3 : C = RR ci := i3
      obtain ⟨c, iS, hK⟩ := u_known (C := C) (T := T) (N := N) (n := N) hg e3 (by rw [i3]; exact hs _ i1)
      exact ⟨c, iS, fun q hq => by cases e1.symm.trans hq; exact hK⟩
    · exact ⟨0, fun _ => 0, fun q hq => absurd (List.getElem?_eq_some_iff.mp hq).1 hci⟩
  have hp : ∀ t : Nat, ∃ c : ClassId, t < 6 → ArrOfT s c (tyA t) ∧ va_RA s c (tyA t) := by
    intro t
    by_cases ht : t < 3
    · obtain ⟨c, k, comp, g1, g2, g3⟩ := Cond.arrayClass_spec (hg _ (arr_w t ht))
      refine ⟨c, fun _ => ⟨fun n z => ⟨fun k h => (by cases h), k, g2, comp, g3⟩, ?_⟩⟩
      have h : t = 0 ∨ t = 1 ∨ t = 2 := by omega
      rcases h with rfl | rfl | rfl <;> exact g1
    · by_cases h6 : t < 6
      · have key : ∀ Cn : String, tyA t = .object Cn → (Cond.arrayOver (.object Cn)).before #[Value.ref b] s = true → ∃ c : ClassId, t < 6 → ArrOfT s c (tyA t) ∧ va_RA s c (tyA t) := by
          intro Cn e hov
          obtain ⟨comp, c, k, g1, g2, g3, g4, g5⟩ := Cond.arrayOver_spec hov
          rw [e]
          exact ⟨c, fun _ => ⟨fun n z => ⟨fun k h => (by cases h), k, g3, comp, g4⟩, k, comp, g3, g4, g1, g5⟩⟩
        have h : t = 3 ∨ t = 4 ∨ t = 5 := by omega
        rcases h with rfl | rfl | rfl
        · exact key _ rfl (hs _ (List.mem_of_getElem? (i := 83) (by decide +kernel)))
        · exact key _ rfl (hs _ (List.mem_of_getElem? (i := 175) (by decide +kernel)))
        · exact key _ rfl (hs _ (List.mem_of_getElem? (i := 211) (by decide +kernel)))
      · exact ⟨0, fun h => absurd h h6⟩
  refine ⟨fun t => Classical.choose (hp t), fun ci => Classical.choose (h1 ci), fun ci => Classical.choose (Classical.choose_spec (h1 ci)), fun ci q hq => Classical.choose_spec (Classical.choose_spec (h1 ci)) q hq, fun k q hk => ?_⟩
  have hl : k < 6 := (List.getElem?_eq_some_iff.mp hk).1
  rw [tys_at hl] at hk
  cases hk
  exact Classical.choose_spec (hp k) hl
theorem law_nw {b : Nat} {s : State} (hs : ∀ w ∈ lw_tbl, w.before #[Value.ref b] s = true) : NwW s := by
  refine ⟨fun w hw hn => ?_, va_AO.of (hs _ (List.mem_of_getElem? (i := 83) (by decide +kernel))), va_AO.of (hs _ (List.mem_of_getElem? (i := 175) (by decide +kernel))), va_AO.of (hs _ (List.mem_of_getElem? (i := 211) (by decide +kernel)))⟩
  have hz := hs w hw
  cases w <;> first | exact va_Nw.of rfl hz | cases hn
set_option maxRecDepth 100000 in
theorem mr_law : MR lawN = (⟨"HedgeGateLaw", "law", "([I)Z"⟩, code, 4, some .boolean, 15, 1, 0, 0, 0, 0, 0) := rfl
def lawQ : QT := fun r _ _ => r = some (.inl 1)
/-- the law comes to its end, out of a walk of its loop by the little machine -/
theorem start_of {p : Program} {e : Env} {s : State} {m : MethodId} {below : List Frame} {meth : Method} {c : Code} (l : Launch) {b L : Nat} {xs : Nat → Int32} (hL : L ≤ 3072) (C0 : lw_At p s m meth c b L xs)
    (hgo : ∀ I J, chkI I J = true → GoE (Ex S0 (L, fun j => (xs j).toInt) 60) S0 (L, fun j => (xs j).toInt) lawN lawQ 18 ls0 [] I J) : W p l e room_1 s m #[Value.ref b] below meth c s.heap [] 0 0 (lw_Z below #[Value.ref b] s) (entryFrame m ([Value.ref b] : List Value).toArray 4) := by
  obtain ⟨hx, hb, hr, hml, hown, hts, hX, hbl, hlocks, hgv⟩ := C0
  obtain ⟨ro, hro0, hRo⟩ := law_ro hL hts hgv hX hbl
  obtain ⟨cA, dC, dI, hK⟩ := law_k hts
  have hNw := law_nw hts
  have hro : ∀ t, t < 4 → ∀ z : Int, z < (roA (L, fun j => (xs j).toInt) t).1 → z < 2147483648 := by
    intro t ht z hz
    have hc : t = 0 ∨ t = 1 ∨ t = 2 ∨ t = 3 := by omega
    rcases hc with rfl | rfl | rfl | rfl
    · have : (roA (L, fun j => (xs j).toInt) 0).1 = L := rfl
      omega
    · have : (roA (L, fun j => (xs j).toInt) 1).1 = 6 := rfl
      omega
    · have : (roA (L, fun j => (xs j).toInt) 2).1 = 6 := rfl
      omega
    · have : (roA (L, fun j => (xs j).toInt) 3).1 = 6 := rfl
      omega
  have hC : ∀ d cells slots, d ≤ 60 → cells ≤ 600000 → slots ≤ 7302250 → Cx s.heap.size ro cA dC dI (L, fun j => (xs j).toInt) d lawN p room_1 s m #[Value.ref b] meth c cells slots := by
    intro d cells slots hd h1 h2
    refine ⟨hx, by rw [mr_law]; exact hb, by rw [mr_law]; exact hr, by rw [mr_law]; exact hml, by rw [mr_law]; exact hown, fun w hw => hts w (List.mem_filter.mp hw).1, hlocks, ?_, ?_, h1, h2, hK, hRo, hNw⟩
    · have : room_1.frames = 2048 := rfl
      omega
    · have : room_1.locals = 84000 := rfl
      omega
  obtain ⟨I, J, hev, hI⟩ := run_ok
  have hM : lawN < nM := by decide
  obtain ⟨⟨hgr, hst⟩, -⟩ := evS_ok (l := l) (B := s.heap.size) (ro := ro) (cA := cA) (dC := dC) (dI := dI) (x := (L, fun j => (xs j).toInt)) (M := lawN) (evM_ok 3000 hro 8) hro hM 3000 _ _ hev
  obtain ⟨w0, -, -⟩ := hgr wf_nil
  have w0 : WfS S0 := w0
  have hz0 := sz0
  have hl0 : S0.length = 110 := rfl
  rw [lg_entry_eq]
  have hl := lv_entry ([Value.ref b]) (n := 4) (Nat.le_of_ble_eq_true rfl)
  have hLo : LoR s.heap.size ro ((lg_sl [Value.ref b] ++ List.replicate (4 - (lg_sl [Value.ref b]).length) Slot.unset).toArray) (MR lawN).2.2.1 (lsOf 4 [.inr (.inr (.inr 0))]) := by
    rw [mr_law]
    refine ⟨hl.1, rfl, hl.2.1, fun i v hi => ?_⟩
    have hc : i = 0 ∨ i = 1 ∨ i = 2 ∨ i = 3 ∨ 4 ≤ i := by omega
    rcases hc with rfl | rfl | rfl | rfl | h4
    · cases hi
      have h0 := hl.2.2 (0, Value.ref b) List.mem_cons_self
      show _ = some (Slot.val (Value.ref (ro 0)))
      rw [hro0]
      exact h0
    · cases hi
    · cases hi
    · cases hi
    · rw [List.getElem?_eq_none (by show 4 ≤ i; exact h4)] at hi
      cases hi
  have hwa := hst p e room_1 s m #[Value.ref b] below meth c 0 0 (lw_Z below #[Value.ref b] s) (hC 8 0 0 (by omega) (by omega) (by omega)) (fun q => absurd q (by unfold Y; rw [mr_law]; decide)) rfl wf_nil (Nat.zero_le _) (Nat.zero_le _) (by show S0.length - 0 ≤ 600000; omega) (by show sz S0 - 0 ≤ 7302250; omega) ?_ s.heap [] _ hLo ⟨fun k q h => by simp [wsW] at h, va_S.rf⟩
  · exact hwa
  · intro H locs lsr L' D'
    have hg := go_sound (l := l) (B := s.heap.size) (ro := ro) (cA := cA) (dC := dC) (dI := dI) w0 hro hM (ex_sound w0 hro 60) (hgo I J hI)
    refine hg p e room_1 s m #[Value.ref b] below meth c H locs (S0.length - 0) (sz S0 - 0) _ lsr (hC 60 _ _ (by omega) (by omega) (by omega)) L' D' ?_
    intro pc lsr2 I2 J2 H2 locs2 D2
    refine ⟨fun v hv => (by rw [mr_law] at hv; cases hv), fun v hv h01 hq hdg => ?_, fun hv => (by rw [mr_law] at hv; cases hv)⟩
    have hv1 : v = 1 := by
      have hq : some (Sum.inl v : AV) = some (.inl 1) := hq
      cases hq
      rfl
    subst hv1
    refine W.widen (k := 600000) (n := 7302250) (by omega) (by omega) (va_forget (fun q hq => D2.2.2.2 q hq) ?_)
    rw [mr_law] at hdg
    exact lw_ret hx hb hr hlocks hdg

