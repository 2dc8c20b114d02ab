/-! ===== plan: the class seeks ===== -/
theorem nPas_nx {s : HV} {c : Int} (hs : stB s c = true) (c0 : 0 ≤ c) (c1 : c < 16 * s 2) (b1 : s 1 ≤ 8) : nPas (nxS s c) (s 2).toNat = nPas s (s 2).toNat + 1 := by
  have hh : s (48 + c / 16) < 0 ∧ 0 ≤ nxS s c (48 + c / 16) ∧ ∀ u : Int, 0 ≤ u → u ≠ c / 16 → nxS s c (48 + u) = s (48 + u) := by
    unfold stB at hs
    unfold nxS
    by_cases h8 : c % 16 = 8
    · rw [if_pos h8, Bool.and_eq_true, Bool.not_eq_true'] at hs
      rw [if_pos h8]
      have h1 := hs.1
      unfold passB at h1
      have h2 := of_decide_eq_false h1
      exact ⟨by omega, by rw [fS_48 (by omega)]; omega, fun u a b => fS_n (by omega)⟩
    · rw [if_neg h8, Bool.and_eq_true, decide_eq_true_eq] at hs
      rw [if_neg h8]
      have h1 := hs.2
      unfold askB at h1
      rw [Bool.and_eq_true, Bool.and_eq_true, Bool.not_eq_true'] at h1
      have h3 := h1.1.1
      unfold passB at h3
      have h2 := of_decide_eq_false h3
      exact ⟨by omega, by rw [aS_48 (by omega) (by omega) (by omega)]; omega, fun u a b => aS_n (by omega)⟩
  rw [nPas_one (by omega) hh.1 hh.2.1 hh.2.2, if_pos (by omega)]
/-- steps that change nothing -/
theorem imp_skip {f : Int → AC → AC} {a : AC} {m : Nat} : ∀ k : Nat, (∀ c : Int, m ≤ c → c < m + k → f c (impF f m a) = impF f m a) → impF f (m + k) a = impF f m a
  | 0, _ => rfl
  | k + 1, h => by
    have ih := imp_skip (f := f) (a := a) (m := m) k (fun c x y => h c x (by omega))
    show f ((m + k : Nat) : Int) (impF f (m + k) a) = _
    rw [ih]
    exact h _ (by omega) (by omega)
/-- a twin's steps were taken -/
theorem twin_le {n : Nat} {s : HV} {t u w : Int} (T : Tld s) (t0 : 0 ≤ t) (t1 : t < s 2) (u0 : 0 ≤ u) (u1 : u < s 2) (pt : passB s t = false) (pu : passB s u = false) (he : s (24 + u) = s (24 + t)) (w0 : 0 ≤ w) (w1 : w < 16) : mhS n s (16 * u + w) ≤ mhS n s (16 * t + w) := by
  have R : Rel (n + 1) (fun i => if i = t then u else if i = u then t else i) s s := by
    refine ⟨fun _ _ _ => rfl, rfl, rfl, rfl, fun v a b => ?_, fun v v' a b c d hv => ?_, fun _ _ _ _ _ _ => rfl⟩
    · show 0 ≤ (if v = t then u else if v = u then t else v) ∧ (if v = t then u else if v = u then t else v) < s 2 ∧ s (24 + (if v = t then u else if v = u then t else v)) = s (24 + v) ∧ passB s (if v = t then u else if v = u then t else v) = passB s v
      split
      · rename_i h
        rw [h]
        exact ⟨u0, u1, he, by rw [pt, pu]⟩
      · split
        · rename_i h
          rw [h]
          exact ⟨t0, t1, he.symm, by rw [pt, pu]⟩
        · exact ⟨a, b, rfl, rfl⟩
    · have hv2 : (if v = t then u else if v = u then t else v) = (if v' = t then u else if v' = u then t else v') := hv
      split at hv2 <;> split at hv2 <;> (try split at hv2) <;> (try split at hv2) <;> omega
  have h1 := rel_st (w := w) T R t0 t1 w0 w1
  have e : (if t = t then u else if t = u then t else t) = u := if_pos rfl
  rw [e] at h1
  unfold mhS
  rw [h1]
  split
  · rename_i hs
    have h2 := rel_nx (w := w) T R t0 t1 w0 w1 hs
    rw [e] at h2
    exact mh_rel n _ _ h2.1 h2.2
  · exact Int.le_refl _
def SI (g : HV) (st N k : Int) (m : Nat) (S : HV → Prop) (I : MI) (J : MJ) (a : AC) (I1 : MI) (J1 : MJ) : Prop := Fr [47, 48, 49, 50] I I1 ∧ I1 48 = I 48 ∧ (∀ j : Int, j ≠ 6 → j ≠ 7 → I1 47 j = I 47 j) ∧ (∀ j : Int, 0 ≤ j → j < k → I1 49 j = I 49 j) ∧ I1 47 6 = a.1 ∧ (a.1 < 1000000 → I1 47 7 = N ∧ ∀ j : Int, 0 ≤ j → j < N → I1 50 j = a.2 j) ∧ (¬ a.1 < 1000000 → I1 47 7 = 0) ∧ (∀ c, c ≠ 51 → J1 c = J c) ∧ SeOK g st m S a.1 J1
def AkO (g s : HV) (I : MI) : Prop := (∀ w : Int, 0 ≤ w → w < g 1 → I 48 w = encN (s (32 + w))) ∧ ∀ w : Int, 0 ≤ w → w < 8 → -1000000 ≤ I 48 w ∧ I 48 w ≤ 200000
def SE (x : RO) (g : HV) (B st N : Int) (m : Nat) (n : Nat) : Prop := ∀ (D : Nat) (k B2 : Int) (s : HV) (tr : Int → Int) (a : AC) (S : HV → Prop) (I : MI) (J : MJ) (Q : QT), n + 7 ≤ D → k + n = N → 0 ≤ k → TE g s → MOK B2 s → B2 + 2 * n ≤ 100000 → (n : Int) = lft s → st ≤ s 29 → s 29 + 2 * n ≤ st + 10 → ROK B I 2 g → I 47 5 = st → J 47 4 = Int64.ofNat m → AkO g s I → (∀ j : Int, 0 ≤ j → j < k → I 49 j = tr j) → 0 ≤ a.1 → a.1 ≤ 1000000 → (∀ σ, S σ → nPas σ (σ 2).toNat < nPas s (s 2).toNat) → SI g st N k m S I J a I J → (∀ I' J', SI g st N k m S I J (imp n k s tr a) I' J' → Q none I' J') →
  EX x D 38 [.inr (.inr (.inl 47)), .inr (.inr (.inl 2)), .inl k, .inl (pasN s (s 2).toNat), .inl (s 29), .inl (s 30), .inl (s 31)] I J Q
/-- the call of a step -/
theorem se_call {x : RO} {g : HV} {B st N : Int} {m n' E : Nat} {k B2 : Int} {s : HV} {tr : Int → Int} {A : AC} {S : HV → Prop} {I I1 I2 : MI} {J J1 : MJ} {Q : QT} {c : Int} (hrec : SE x g B st N m n') (hE : n' + 7 ≤ E) (hk : k + (n' + 1 : Nat) = N) (k0 : 0 ≤ k) (hT : TE g s) (M : MOK B2 s) (hB : B2 + 2 * (n' + 1 : Nat) ≤ 100000) (hn : ((n' + 1 : Nat) : Int) = lft s) (t0 : st ≤ s 29) (t1 : s 29 + 2 * (n' + 1 : Nat) ≤ st + 10) (H : ROK B I 2 g) (hst : I 47 5 = st) (hJ : J 47 4 = Int64.ofNat m) (htr : ∀ j : Int, 0 ≤ j → j < k → I 49 j = tr j) (hS : ∀ σ, S σ → nPas σ (σ 2).toNat ≤ nPas s (s 2).toNat) (a0 : 0 ≤ A.1) (a1 : A.1 ≤ 1000000)
    (hSI : SI g st N k m S I J A I1 J1) (hs : stB s c = true) (c0 : 0 ≤ c) (c1 : c < 16 * s 2) (f1 : ∀ c', c' ≠ 48 → c' ≠ 49 → I2 c' = I1 c') (f49 : ∀ j : Int, j ≠ k → I2 49 j = I1 49 j) (f49k : I2 49 k = c) (hAk : AkO g (nxS s c) I2) (hq : ∀ I' J', SI g st N (k + 1) m S I2 J1 (imp n' (k + 1) (nxS s c) (rowU tr k c) A) I' J' → Q none I' J') :
    EX x E 38 [.inr (.inr (.inl 47)), .inr (.inr (.inl 2)), .inl (k + 1), .inl (orI (pasN s (s 2).toNat) (shlI 1 (c / 16))), .inl (nxS s c 29), .inl (nxS s c 30), .inl (nxS s c 31)] I2 J1 Q := by
  obtain ⟨g1, g2, g3, g4, g5, g6, g7, g8, g9⟩ := hSI
  have b1 := B_1 M
  have b2 := B_2 M
  have e2 : nxS s c 2 = s 2 := nx_lo c0 (by omega)
  have n29 := nx_29 (s := s) (c := c)
  have hp := nPas_nx hs c0 c1 b1.2
  have hl : lft s = s 2 - nPas s (s 2).toNat := rfl
  rw [pas_nx hs c0 c1 b1.2 b2.2 rfl, ← e2]
  refine hrec E (k + 1) (B2 + 2) (nxS s c) (rowU tr k c) A S I2 J1 Q hE (by omega) (by omega) (fun i a b => by rw [nx_lo c0 b]; exact hT i a b) (nx_ok M (by omega) c0 c1 hs).1 (by omega) ?_ (by omega) (by omega) (ROK_cong (Int.le_refl _) H.1.2.2 (fun c' a b => by rw [f1 c' (by omega) (by omega)]; exact g1 c' (by simp; omega)) rfl H) (by rw [f1 47 (by omega) (by omega), g3 5 (by omega) (by omega)]; exact hst) (by rw [g8 47 (by omega)]; exact hJ) hAk (fun j a b => ?_) a0 a1 (fun σ hσ => ?_) ⟨Fr_rfl, rfl, fun _ _ _ => rfl, fun _ _ _ => rfl, ?_, fun hz => ?_, fun hz => ?_, fun _ _ => rfl, g9⟩ hq
  · show (n' : Int) = nxS s c 2 - nPas (nxS s c) (nxS s c 2).toNat
    rw [e2, hp]
    omega
  · show I2 49 j = if j = k then c else tr j
    by_cases hj : j = k
    · rw [if_pos hj, hj]; exact f49k
    · rw [if_neg hj, f49 j hj, g4 j a (by omega)]
      exact htr j a (by omega)
  · have := hS σ hσ
    rw [e2, hp]
    omega
  · rw [f1 47 (by omega) (by omega)]; exact g5
  · rw [f1 47 (by omega) (by omega), f1 50 (by omega) (by omega)]; exact g6 hz
  · rw [f1 47 (by omega) (by omega)]; exact g7 hz
/-- behind the call -/
theorem se_back {g : HV} {st N k : Int} {m : Nat} {S : HV → Prop} {I I1 I2 I' I3 : MI} {J J1 J' : MJ} {A A' : AC} (hSI : SI g st N k m S I J A I1 J1) (f1 : ∀ c', c' ≠ 48 → c' ≠ 49 → I2 c' = I1 c') (f49 : ∀ j : Int, j ≠ k → I2 49 j = I1 49 j) (h : SI g st N (k + 1) m S I2 J1 A' I' J') (h3 : ∀ c', c' ≠ 48 → I3 c' = I' c') (h48 : I3 48 = I 48) : SI g st N k m S I J A' I3 J' := by
  obtain ⟨g1, g2, g3, g4, g5, g6, g7, g8, g9⟩ := hSI
  obtain ⟨q1, q2, q3, q4, q5, q6, q7, q8, q9⟩ := h
  refine ⟨fun c hc => ?_, h48, fun j a b => ?_, fun j a b => ?_, ?_, fun hz => ?_, fun hz => ?_, fun c hc => ?_, q9⟩
  · have hc2 := hc
    simp only [List.mem_cons, List.not_mem_nil, or_false, not_or] at hc
    rw [h3 c (by omega), q1 c hc2, f1 c (by omega) (by omega), g1 c hc2]
  · rw [h3 47 (by omega), q3 j a b, f1 47 (by omega) (by omega), g3 j a b]
  · rw [h3 49 (by omega), q4 j a (by omega), f49 j (by omega), g4 j a b]
  · rw [h3 47 (by omega)]; exact q5
  · rw [h3 47 (by omega), h3 50 (by omega)]; exact q6 hz
  · rw [h3 47 (by omega)]; exact q7 hz
  · rw [q8 c hc, g8 c hc]
