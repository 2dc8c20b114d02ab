/-! ===== what of the tie stays when cells stay ===== -/
theorem flI_ne {I : MI} {c c' : Nat} {i n v : Int} (h : c' ≠ c) : flI I c i n v c' = I c' := by
  funext j
  unfold flI
  rw [if_neg (fun z => h z.1)]
theorem flI_in {I : MI} {c : Nat} {i n v j : Int} (h1 : i ≤ j) (h2 : j < n) : flI I c i n v c j = v := by unfold flI; rw [if_pos ⟨rfl, h1, h2⟩]
theorem flI_out {I : MI} {c : Nat} {i n v j : Int} (h : j < i ∨ n ≤ j) : flI I c i n v c j = I c j := by unfold flI; rw [if_neg (fun z => by omega)]
theorem cpI_ne {I : MI} {q r c' : Nat} {b e a : Int} (h : c' ≠ q) : cpI I q b e r a c' = I c' := by
  funext j
  unfold cpI
  rw [if_neg (fun z => h z.1)]
theorem cpI_in {I : MI} {q r : Nat} {b e a j : Int} (h1 : b ≤ j) (h2 : j < b + e) : cpI I q b e r a q j = I r (a + (j - b)) := by unfold cpI; rw [if_pos ⟨rfl, h1, h2⟩]
theorem cpI_out {I : MI} {q r : Nat} {b e a j : Int} (h : j < b ∨ b + e ≤ j) : cpI I q b e r a q j = I q j := by unfold cpI; rw [if_neg (fun z => by omega)]
theorem cpI_0 {I : MI} {q r : Nat} {b a : Int} : cpI I q b 0 r a = I := mi_ext fun c j => by unfold cpI; rw [if_neg (by omega)]
theorem cpI_up {I : MI} {q r : Nat} {b e e2 a : Int} (h : q ≠ r) (he : 0 ≤ e) (he2 : e2 = e + 1) : cpI (up I q b (I r a)) q (b + 1) e r (a + 1) = cpI I q b e2 r a := mi_ext fun c j => by
  unfold cpI up
  by_cases hc : c = q
  · subst hc
    by_cases h1 : j = b
    · rw [if_neg (by omega), if_pos (by omega), if_pos (by omega)]
      congr 1
      omega
    · by_cases h2 : b ≤ j ∧ j < b + e2
      · rw [if_pos (by omega), if_neg (by omega), if_pos (by omega)]
        congr 1
        omega
      · rw [if_neg (by omega), if_neg (by omega), if_neg (by omega)]
  · rw [if_neg (fun z => hc z.1), if_neg (fun z => hc z.1), if_neg (fun z => hc z.1)]
theorem RR1_cong {I I' : MI} {n : Nat} (h1 : I' (60 + 2 * n) = I (60 + 2 * n)) (h2 : I' (61 + 2 * n) = I (61 + 2 * n)) (h3 : I' 99 n = I 99 n) (h4 : I' 100 n = I 100 n) (h5 : ∀ k : Int, 0 ≤ k → k < 40 → I' 101 (40 * n + k) = I 101 (40 * n + k)) (h : RR1 I n) : RR1 I' n := by
  unfold RR1 at h ⊢
  rw [h1, h2, h3, h4]
  rcases h with h | ⟨a1, a2, a3, a4, a5, a6, a7, a8⟩
  · exact Or.inl h
  · exact Or.inr ⟨a1, a2, a3, a4, a5, a6, a7, fun k hk0 hk => by rw [h5 k hk0 hk]; exact a8 k hk0 hk⟩
theorem RRs_cong {I I' : MI} (h1 : ∀ c, 60 ≤ c → c < 76 → I' c = I c) (h3 : I' 99 = I 99) (h4 : I' 100 = I 100) (h5 : I' 101 = I 101) (h : RRs I) : RRs I' := fun n hn =>
  RR1_cong (h1 _ (by omega) (by omega)) (h1 _ (by omega) (by omega)) (by rw [h3]) (by rw [h4]) (fun k _ _ => by rw [h5]) (h n hn)
theorem RTp_cong {I I' : MI} (h1 : I' 19 3 = I 19 3) (h2 : I' 19 4 = I 19 4) (h3 : I' 20 = I 20) (h4 : I' 92 1 = I 92 1) (h5 : I' 92 14 = I 92 14) (h6 : I' 93 = I 93) (h : RTp I) : RTp I' := by
  unfold RTp at h ⊢
  rw [h1, h2, h3, h4, h5, h6]
  exact h
theorem RSt_cong {I I' : MI} (h1 : I' 0 10 = I 0 10) (h2 : I' 92 13 = I 92 13) (h : RSt I) : RSt I' := by
  unfold RSt at h ⊢
  rw [h1, h2]
  exact h
theorem RHd_cong {I I' : MI} {h0 : Nat} {g g' : HV} (h : ∀ c, h0 ≤ c → c < h0 + 8 → I' c = I c) (hg : g' = g) (hr : RHd I h0 g) : RHd I' h0 g' := by
  subst hg
  unfold RHd at hr ⊢
  rw [h h0 (by omega) (by omega), h (h0 + 1) (by omega) (by omega), h (h0 + 2) (by omega) (by omega), h (h0 + 3) (by omega) (by omega), h (h0 + 4) (by omega) (by omega), h (h0 + 5) (by omega) (by omega), h (h0 + 6) (by omega) (by omega), h (h0 + 7) (by omega) (by omega)]
  exact hr
theorem WIs_up {B B' : Int} {g : HV} (hB : B ≤ B') (h : WIs B g) : WIs B' g := by
  obtain ⟨h1, h2, h3, h4, h5, h6, h7, h8⟩ := h
  exact ⟨h1, by omega, h3, h4, h5, h6, fun w a b => by obtain ⟨q1, q2, q3, q4⟩ := h7 w a b; exact ⟨q1, by omega, q3, by omega⟩, h8⟩
theorem MOK_up {B B' : Int} {g : HV} (hB : B ≤ B') (hB2 : B' ≤ 100000) (h : MOK B g) : MOK B' g := ⟨h.1, WIs_up hB h.2.1, hB2⟩
theorem ROK_cong {B B' : Int} {I I' : MI} {h0 : Nat} {g g' : HV} (hB : B ≤ B') (hB2 : B' ≤ 100000) (h : ∀ c, h0 ≤ c → c < h0 + 8 → I' c = I c) (hg : g' = g) (hr : ROK B I h0 g) : ROK B' I' h0 g' :=
  ⟨hg ▸ MOK_up hB hB2 hr.1, RHd_cong h hg hr.2⟩
theorem RIm_cong {B B' : Int} {I I' : MI} (hB : B ≤ B') (hB2 : B' ≤ 100000) (h : ∀ c, 76 ≤ c → c < 92 → I' c = I c) (h1 : I' 97 = I 97) (h2 : I' 98 = I 98) (hr : RIm B I) : RIm B' I' := by
  unfold RIm at hr ⊢
  rw [h 76 (by omega) (by omega), h 84 (by omega) (by omega), h1, h2]
  obtain ⟨⟨a1, a2⟩, b1, b2⟩ := hr
  refine ⟨⟨a1, ?_⟩, b1, ?_⟩
  · rcases a2 with a2 | ⟨a3, a4, a5⟩
    · exact Or.inl a2
    · exact Or.inr ⟨a3, a4, ROK_cong hB hB2 (fun c h3 h4 => h c (by omega) (by omega)) rfl a5⟩
  · rcases b2 with a2 | ⟨a3, a4, a5⟩
    · exact Or.inl a2
    · exact Or.inr ⟨a3, a4, ROK_cong hB hB2 (fun c h3 h4 => h c (by omega) (by omega)) rfl a5⟩
theorem ringAt_lt (next : Int) (k : Nat) : ringAt next k < 24 := by unfold ringAt; omega
theorem RAs_cong {B B' : Int} {I I' : MI} (hB : B ≤ B') (h : ∀ c, 21 ≤ c → c < 47 → I' c = I c) (h1 : I' 92 5 = I 92 5) (h2 : I' 94 = I 94) (h3 : I' 96 = I 96) (hr : RAs B I) : RAs B' I' := by
  have hp : ∀ m, past I' m = past I m := fun m => by unfold past; rw [h2, h3]
  unfold RAs at hr ⊢
  rw [h 21 (by omega) (by omega), h1, h2]
  obtain ⟨a1, a2, a3, a4, a5, a7⟩ := hr
  refine ⟨a1, a2, a3, a4, a5, fun k hk => ?_⟩
  obtain ⟨b1, b2⟩ := a7 k hk
  rw [hp, hp]
  refine ⟨WIs_up hB b1, ?_⟩
  unfold RAc at b2 ⊢
  rw [h (23 + ringAt (I 21 1) k) (by omega) (by have := ringAt_lt (I 21 1) k; omega)]
  exact b2
theorem RTr_cong {I I' : MI} (h1 : I' 58 1 = I 58 1) (h2 : I' 59 = I 59) (h3 : I' 92 12 = I 92 12) (h4 : I' 102 = I 102) (h : RTr I) : RTr I' := by
  unfold RTr at h ⊢
  rw [h1, h2, h3, h4]
  exact h
theorem RAk_cong {B B' : Int} {I I' : MI} (hB : B ≤ B') (h1 : I' 6 = I 6) (h2 : I' 14 = I 14) (h3 : I' 80 = I 80) (h4 : I' 88 = I 88) (h : RAk B I) : RAk B' I' := by
  intro c hc w h0 h5
  have hq := h c hc w h0 h5
  have e : I' c = I c := by
    rcases hc with rfl | rfl | rfl | rfl
    · exact h1
    · exact h2
    · exact h3
    · exact h4
  rw [e]
  omega
theorem RPl_up {n : Nat} {J : MJ} (h : RPl n J) : RPl (n + 1) J := by
  obtain ⟨m, h1, h2⟩ := h
  exact ⟨m, by omega, h2⟩
/-- cells that the tie speaks of -/
def relC (c : Nat) : Prop := (2 ≤ c ∧ c ≤ 9) ∨ c = 14 ∨ (20 ≤ c ∧ c ≤ 46) ∨ (59 ≤ c ∧ c < 92) ∨ c = 93 ∨ c = 94 ∨ (96 ≤ c ∧ c ≤ 102)
def Sm (I I' : MI) : Prop := (∀ c, relC c → I' c = I c) ∧ I' 0 10 = I 0 10 ∧ I' 19 3 = I 19 3 ∧ I' 19 4 = I 19 4 ∧ I' 58 1 = I 58 1 ∧ I' 92 1 = I 92 1 ∧ I' 92 5 = I 92 5 ∧ I' 92 12 = I 92 12 ∧ I' 92 13 = I 92 13 ∧ I' 92 14 = I 92 14
theorem Sm_rfl {I : MI} : Sm I I := ⟨fun _ _ => rfl, rfl, rfl, rfl, rfl, rfl, rfl, rfl, rfl, rfl⟩
theorem Sm_trans {I I1 I2 : MI} (h1 : Sm I I1) (h2 : Sm I1 I2) : Sm I I2 := by
  obtain ⟨a0, a1, a2, a3, a4, a5, a6, a7, a8, a9⟩ := h1
  obtain ⟨b0, b1, b2, b3, b4, b5, b6, b7, b8, b9⟩ := h2
  exact ⟨fun c hc => (b0 c hc).trans (a0 c hc), b1.trans a1, b2.trans a2, b3.trans a3, b4.trans a4, b5.trans a5, b6.trans a6, b7.trans a7, b8.trans a8, b9.trans a9⟩
/-- only the cells of a list change -/
def Fr (S : List Nat) (I I' : MI) : Prop := ∀ c, c ∉ S → I' c = I c
theorem Fr_rfl {S : List Nat} {I : MI} : Fr S I I := fun _ _ => rfl
theorem Fr_trans {S : List Nat} {I I1 I2 : MI} (h1 : Fr S I I1) (h2 : Fr S I1 I2) : Fr S I I2 := fun c hc => (h2 c hc).trans (h1 c hc)
theorem Fr_up {S : List Nat} {I : MI} {c : Nat} {j v : Int} (h : c ∈ S) : Fr S I (up I c j v) := fun c' hc => up_ne (fun e => hc (e ▸ h))
theorem Fr_mono {S S' : List Nat} {I I' : MI} (hS : ∀ c, c ∈ S → c ∈ S') (h : Fr S I I') : Fr S' I I' := fun c hc => h c (fun q => hc (hS c q))
theorem Sm_Fr {S : List Nat} {I I' : MI} (hS : ∀ c, c ∈ S → ¬ relC c ∧ c ≠ 0 ∧ c ≠ 19 ∧ c ≠ 58 ∧ c ≠ 92) (h : Fr S I I') : Sm I I' := by
  have h1 : ∀ c, (relC c ∨ c = 0 ∨ c = 19 ∨ c = 58 ∨ c = 92) → I' c = I c := fun c hc => h c (fun q => by
    have h2 := hS c q
    rcases hc with h3 | h3 | h3 | h3 | h3
    · exact h2.1 h3
    · exact h2.2.1 h3
    · exact h2.2.2.1 h3
    · exact h2.2.2.2.1 h3
    · exact h2.2.2.2.2 h3)
  refine ⟨fun c hc => h1 c (Or.inl hc), ?_, ?_, ?_, ?_, ?_, ?_, ?_, ?_, ?_⟩
  · rw [h1 0 (by omega)]
  · rw [h1 19 (by omega)]
  · rw [h1 19 (by omega)]
  · rw [h1 58 (by omega)]
  · rw [h1 92 (by omega)]
  · rw [h1 92 (by omega)]
  · rw [h1 92 (by omega)]
  · rw [h1 92 (by omega)]
  · rw [h1 92 (by omega)]
theorem Inv_J {n : Nat} {I I' : MI} {J J' : MJ} (h : Inv n I J) (hn : n < 600) (hs : Sm I I') (hJ : RPl (n + 1) J') : Inv (n + 1) I' J' := by
  obtain ⟨h1, h2, h3, h4, h5, h6, h7, h8, h9⟩ := h
  obtain ⟨b0, b1, b2, b3, b4, b5, b6, b7, b8, b9⟩ := hs
  have q : ∀ c, ((2 ≤ c ∧ c ≤ 9) ∨ c = 14 ∨ (20 ≤ c ∧ c ≤ 46) ∨ (59 ≤ c ∧ c < 92) ∨ c = 93 ∨ c = 94 ∨ (96 ≤ c ∧ c ≤ 102)) → I' c = I c := b0
  exact ⟨RRs_cong (fun c _ _ => q c (by omega)) (q 99 (by omega)) (q 100 (by omega)) (q 101 (by omega)) h1, RTp_cong b2 b3 (q 20 (by omega)) b5 b9 (q 93 (by omega)) h2, RSt_cong b1 b8 h3,
    ROK_cong (by omega) (by omega) (fun c _ _ => q c (by omega)) (q 94 (by omega)) h4, RIm_cong (by omega) (by omega) (fun c _ _ => q c (by omega)) (q 97 (by omega)) (q 98 (by omega)) h5,
    RAs_cong (by omega) (fun c _ _ => q c (by omega)) b6 (q 94 (by omega)) (q 96 (by omega)) h6, RTr_cong b4 (q 59 (by omega)) b7 (q 102 (by omega)) h7,
    RAk_cong (by omega) (q 6 (by omega)) (q 14 (by omega)) (q 80 (by omega)) (q 88 (by omega)) h8, hJ⟩
theorem Inv_Sm {n : Nat} {I I' : MI} {J : MJ} (h : Inv n I J) (hn : n < 600) (hs : Sm I I') : Inv (n + 1) I' J := Inv_J h hn hs (RPl_up h.2.2.2.2.2.2.2.2)
theorem Inv_up {n : Nat} {I : MI} {J : MJ} (h : Inv n I J) (hn : n < 600) : Inv (n + 1) I J := Inv_Sm h hn Sm_rfl
/-- calls of rows: the hedges, the tape and the rest stay -/
theorem Inv_rows {n : Nat} {I I' : MI} {J : MJ} (h : Inv n I J) (hn : n < 600) (hr : RRs I') (hs : RSt I') (hc : ∀ c, 1 ≤ c → c < 60 → I' c = I c) (hc2 : ∀ c, 76 ≤ c → c < 92 → I' c = I c) (h92 : ∀ j, j ≠ 13 → I' 92 j = I 92 j) (hm : ∀ c, 93 ≤ c → c < 99 → I' c = I c) (h102 : I' 102 = I 102) : Inv (n + 1) I' J := by
  obtain ⟨h1, h2, h3, h4, h5, h6, h7, h8, h9⟩ := h
  refine ⟨hr, RTp_cong (by rw [hc 19 (by omega) (by omega)]) (by rw [hc 19 (by omega) (by omega)]) (hc 20 (by omega) (by omega)) (h92 1 (by omega)) (h92 14 (by omega)) (hm 93 (by omega) (by omega)) h2, hs,
    ROK_cong (by omega) (by omega) (fun c a b => hc c (by omega) (by omega)) (by rw [hm 94 (by omega) (by omega)]) h4, RIm_cong (by omega) (by omega) hc2 (hm 97 (by omega) (by omega)) (hm 98 (by omega) (by omega)) h5,
    RAs_cong (by omega) (fun c a b => hc c (by omega) (by omega)) (h92 5 (by omega)) (hm 94 (by omega) (by omega)) (hm 96 (by omega) (by omega)) h6, RTr_cong (by rw [hc 58 (by omega) (by omega)]) (hc 59 (by omega) (by omega)) (h92 12 (by omega)) h102 h7,
    RAk_cong (by omega) (hc 6 (by omega) (by omega)) (hc 14 (by omega) (by omega)) (hc2 80 (by omega) (by omega)) (hc2 88 (by omega) (by omega)) h8, RPl_up h9⟩
