/-! ===== gone by: in how many ways ===== -/
def smN (p : Int → Int) : Nat → Int
  | 0 => 0
  | m + 1 => smN p m + p m
theorem smN_s {p : Int → Int} {m : Nat} : smN p (m + 1) = smN p m + p m := rfl
theorem smN_cong {p p' : Int → Int} : ∀ m : Nat, (∀ w : Int, 0 ≤ w → w < m → p w = p' w) → smN p m = smN p' m
  | 0, _ => rfl
  | m + 1, h => by rw [smN_s, smN_s, smN_cong m (fun w a b => h w a (by omega)), h m (by omega) (by omega)]
def wyN (ord : Int → Int) : Nat → Int → HV → Int
  | 0, _, _ => 1
  | m + 1, k, s => smN (fun w => if askB s (ord k) w = true then wyN ord m (k + 1) (askS s (ord k) w) else 0) (s 1).toNat
theorem wyN_s {ord : Int → Int} {m : Nat} {k : Int} {s : HV} : wyN ord (m + 1) k s = smN (fun w => if askB s (ord k) w = true then wyN ord m (k + 1) (askS s (ord k) w) else 0) (s 1).toNat := rfl
def bd8 : Nat → Int
  | 0 => 1
  | m + 1 => 8 * bd8 m
theorem smN_R {p : Int → Int} {c : Int} (hc : 0 ≤ c) : ∀ m : Nat, (∀ w : Int, 0 ≤ w → w < m → 0 ≤ p w ∧ p w ≤ c) → 0 ≤ smN p m ∧ smN p m ≤ (m : Int) * c
  | 0, _ => ⟨Int.le_refl 0, by show (0 : Int) ≤ ((0 : Nat) : Int) * c; simp⟩
  | m + 1, h => by
    have ih := smN_R hc m (fun w a b => h w a (by omega))
    have hm := h m (by omega) (by omega)
    rw [smN_s, show ((m + 1 : Nat) : Int) = (m : Int) + 1 from rfl, Int.add_mul, Int.one_mul]
    omega
theorem bd8_R : ∀ m : Nat, 1 ≤ bd8 m
  | 0 => Int.le_refl 1
  | m + 1 => by
    have ih := bd8_R m
    show 1 ≤ 8 * bd8 m
    omega
theorem wy_R {ord : Int → Int} : ∀ (m : Nat) (k : Int) (s : HV), 0 ≤ s 1 → s 1 ≤ 8 → 0 ≤ wyN ord m k s ∧ wyN ord m k s ≤ bd8 m
  | 0, k, s, _, _ => ⟨(by decide : (0 : Int) ≤ 1), Int.le_refl 1⟩
  | m + 1, k, s, h0, h1 => by
    have hb := bd8_R m
    rw [wyN_s]
    have h := smN_R (p := fun w => if askB s (ord k) w = true then wyN ord m (k + 1) (askS s (ord k) w) else 0) (c := bd8 m) (by omega) (s 1).toNat (fun w a b => by
      show 0 ≤ (if askB s (ord k) w = true then wyN ord m (k + 1) (askS s (ord k) w) else 0) ∧ (if askB s (ord k) w = true then wyN ord m (k + 1) (askS s (ord k) w) else 0) ≤ bd8 m
      split
      · rename_i hq
        by_cases ht : ord k = -47
        · exact wy_R m (k + 1) _ (by unfold askS; rw [if_neg (by omega), if_neg (by omega), if_neg (by omega), if_neg (by omega), if_neg (by omega), if_pos (by omega)]; omega) (by unfold askS; rw [if_neg (by omega), if_neg (by omega), if_neg (by omega), if_neg (by omega), if_neg (by omega), if_pos (by omega)]; omega)
        · have e : askS s (ord k) w 1 = s 1 := aS_n (by omega)
          exact wy_R m (k + 1) _ (by omega) (by omega)
      · omega)
    refine ⟨h.1, ?_⟩
    show _ ≤ 8 * bd8 m
    have h2 : (((s 1).toNat : Nat) : Int) * bd8 m ≤ 8 * bd8 m := Int.mul_le_mul_of_nonneg_right (by omega) (by omega)
    exact Int.le_trans h.2 h2
/-- told alike -/
def TE (g s : HV) : Prop := ∀ i : Int, 0 ≤ i → i < 29 → s i = g i
theorem TE_ask {g s : HV} {t w : Int} (h : TE g s) (ht : 0 ≤ t) (hw : 0 ≤ w) : TE g (askS s t w) := fun i a b => by rw [aS_n (by omega)]; exact h i a b
theorem TE_may {B : Int} {g s : HV} {wh : Int → Int} {a l w : Int} (M : MOK B g) (h : TE g s) (w0 : 0 ≤ w) (w1 : w < g 1) (l0 : -1 ≤ l) (l1 : l ≤ 3) : mayB g wh a l w = mayB s wh a l w := by
  have b1 := B_1 M
  unfold mayB wornB comesB
  rw [h (8 + w) (by omega) (by omega), h 3 (by omega) (by omega), h (16 + w) (by omega) (by omega)]
  by_cases hl : l < 0
  · rw [decide_eq_true hl]
    rfl
  · rw [h (4 + l) (by omega) (by omega)]
theorem open_can {B B2 t : Int} {g s : HV} (M : MOK B g) (M2 : MOK B2 s) (h : TE g s) (hp : passB s t = false) (t0 : 0 ≤ t) (t1 : t < 5) : andI (openN g (fun i => s (32 + i)) (s 29) (s 30) (g 1).toNat) (g (24 + t)) = canN s t (g 1).toNat := by
  have b1 := B_1 M
  have b30 := B_30 M2
  have hc := can_eq (t := t) M2 hp
  rw [h 1 (by omega) (by omega), h (24 + t) (by omega) (by omega)] at hc
  rw [← hc, openN_cong _ (fun w a b => TE_may M h a (by omega) b30.1 b30.2)]
theorem cnt_can {s : HV} {t : Int} {W : Nat} (hW : W ≤ 32) : ∀ m : Nat, m ≤ W → cnt (canN s t W) m = smN (fun w => if askB s t w = true then 1 else 0) m
  | 0, _ => rfl
  | m + 1, h => by
    rw [cnt_s, smN_s, cnt_can hW m (by omega), canN_tb (by omega) (by omega) W hW, decide_eq_true (by omega), Bool.true_and]
theorem cnt_can32 {s : HV} {t : Int} {W : Nat} (hW : W ≤ 32) : cnt (canN s t W) 32 = smN (fun w => if askB s t w = true then 1 else 0) W := by
  obtain ⟨k, hk⟩ : ∃ k, 32 = W + k := ⟨32 - W, by omega⟩
  rw [hk, cnt_more k (fun w a b => by rw [canN_tb (by omega) (by omega) W hW, decide_eq_false (by omega)]; rfl), cnt_can hW W (Nat.le_refl _)]
section
variable {x : RO} {d : Nat} {Q : QT} {I : MI} {J : MJ} {n : Nat} {g : HV}
theorem lp_69 {B L k : Int} {t : Int} {s : HV} {f : Int → Int} (H : ROK B I 2 g) (hT : TE g s) (s29 : 0 ≤ s 29) (s29b : s 29 ≤ 200000)
    (hrec : ∀ w : Int, 0 ≤ w → w < g 1 → askB s t w = true → ∀ Q : QT, EX x (d + 6) 69 [.inr (.inr (.inl 55)), .inr (.inr (.inl 2)), .inl (k + 1), .inl (s 29 + (if g (8 + w) = 5 then 2 else 1)), .inl (g (16 + w))] (up I 56 w (s 29)) J Q = Q (some (.inl (f w))) (up I 56 w (s 29)) J) :
    ∀ (q m : Nat) (u : Option AV), (m : Int) ≤ g 1 → (g 1 - m).toNat = q → GO x (d + 6) 69 Q 62 [some (.inr (.inr (.inl 55))), some (.inr (.inr (.inl 2))), some (.inl k), some (.inl (s 29)), some (.inl (s 30)), some (.inl (canN s t (g 1).toNat)), some (.inl (smN (fun w => if askB s t w = true then f w else 0) m)), some (.inl m), u] [] I J = Q (some (.inl (smN (fun w => if askB s t w = true then f w else 0) (g 1).toNat))) I J := by
  have hb := B_1 H.1
  have e3 := H_3 H
  intro q
  induction q with
  | zero =>
    intro m u h1 h2
    have e : (g 1).toNat = m := by omega
    rw [e, @g_69_62]
    simp (disch := omega) only [@g_69_0, @g_69_1, @g_69_2, @g_69_5, @g_69_8, @g_69_9, @g_69_10, @g_69_13, @g_69_14, @g_69_15, @g_69_16, @g_69_17, @g_69_20, @g_69_21, @g_69_23, @g_69_26, @g_69_27, @g_69_30, @g_69_31, @g_69_34, @g_69_35, @h_69_35, @g_69_36, @h_69_36, @g_69_37, @g_69_38, @g_69_40, @g_69_41, @g_69_42, @g_69_45, @g_69_46, @g_69_47, @g_69_50, @g_69_52, @g_69_55, @g_69_56, @g_69_57, @g_69_59, @g_69_60, @g_69_64, @g_69_65, @g_69_68, @g_69_71, @g_69_73, @g_69_75, @g_69_78, @g_69_81, @g_69_82, @g_69_85, @g_69_87, @h_69_87, @g_69_88, @g_69_90, @g_69_91, @g_69_94, @g_69_96, @g_69_97, @g_69_98, @g_69_100, @g_69_101, @g_69_102, @g_69_103, @g_69_104, @g_69_105, @g_69_106, @g_69_107, @g_69_109, @g_69_112, @g_69_113, @g_69_114, @g_69_117, @g_69_119, @h_69_119, @g_69_120, @g_69_123, @g_69_124, @g_69_126, @g_69_127, @g_69_130, @g_69_132, @g_69_134, @g_69_135, @g_69_138, @g_69_141, @g_69_143, @e_69, nlO_n, nlO_i, nlO_r, ret01_0, ret01_1, ret01_if, ret01_fi, true_and, Option.toList_some, Option.toList_none, List.cons_append, List.nil_append, ii_1, ii_0, ii_R, ij_1, ij_0, ij_R, ite_not, if_true, if_false, Int.one_ne_zero, one_e1, not_true_eq_false, not_false_eq_true, and_true, and_false, false_and, or_false, false_or, or_true, true_or, and_self, or_self, inr_n1000100, inr_n1000010, inr_n1000003, inr_n1000002, inr_n1000001, inr_n1000000, inr_n1, inr_0, inr_1, inr_2, inr_3, inr_4, inr_5, inr_6, inr_7, inr_8, inr_10, inr_11, inr_12, inr_13, inr_14, inr_15, inr_16, inr_20, inr_21, inr_22, inr_23, inr_24, inr_29, inr_30, inr_31, inr_32, inr_39, inr_40, inr_44, inr_48, inr_53, inr_54, inr_57, inr_59, inr_63, inr_97, inr_100, inr_101, inr_102, inr_104, inr_105, inr_106, inr_110, inr_112, inr_116, inr_120, inr_122, inr_144, inr_255, inr_256, inr_320, inr_552, inr_576, inr_999, inr_1000, inr_1023, inr_1024, inr_2048, inr_1000000, inr_252645135, inr_858993459, inr_1431655765, okO_2, okF_2_2, rfN_2_2, okF_2_4, rfN_2_4, okF_2_5, rfN_2_5, okF_2_6, rfN_2_6, okF_2_7, rfN_2_7, okF_2_9, rfN_2_9, okF_2_10, rfN_2_10, H_0 H, H_3 H, H_8 H, H_11 H, H_12 H, H_13 H, R_0 H.1, R_1 H.1, R_2 H.1, R_29 H.1, R_30 H.1, R_31 H.1, o_R, o_le, o_lt, o_nlt, o_nle, o_eq, o_ne]
  | succ q ih =>
    intro m u h1 h2
    have hk := B_w H.1 (w := m) (by omega) (by omega)
    obtain ⟨k1, k2, -, -⟩ := H_w H (w := m) (by omega) (by omega)
    have k1 : I 4 m = g (8 + m) := k1
    have k2 : I 5 m = g (16 + m) := k2
    have et := canN_tb (g := s) (t := t) (w := m) (by omega) (by omega) (g 1).toNat (by omega)
    rw [decide_eq_true (by omega), Bool.true_and] at et
    rw [@g_69_62]
    cases ha : askB s t m
    · have ih2 := ih (m + 1) u (by omega) (by omega)
      rw [show ((m + 1 : Nat) : Int) = (m : Int) + 1 from rfl, smN_s, ha, if_neg (by decide), Int.add_zero] at ih2
      rw [ha] at et
      simp (disch := omega) only [@g_69_0, @g_69_1, @g_69_2, @g_69_5, @g_69_8, @g_69_9, @g_69_10, @g_69_13, @g_69_14, @g_69_15, @g_69_16, @g_69_17, @g_69_20, @g_69_21, @g_69_23, @g_69_26, @g_69_27, @g_69_30, @g_69_31, @g_69_34, @g_69_35, @h_69_35, @g_69_36, @h_69_36, @g_69_37, @g_69_38, @g_69_40, @g_69_41, @g_69_42, @g_69_45, @g_69_46, @g_69_47, @g_69_50, @g_69_52, @g_69_55, @g_69_56, @g_69_57, @g_69_59, @g_69_60, @g_69_64, @g_69_65, @g_69_68, @g_69_71, @g_69_73, @g_69_75, @g_69_78, @g_69_81, @g_69_82, @g_69_85, @g_69_87, @h_69_87, @g_69_88, @g_69_90, @g_69_91, @g_69_94, @g_69_96, @g_69_97, @g_69_98, @g_69_100, @g_69_101, @g_69_102, @g_69_103, @g_69_104, @g_69_105, @g_69_106, @g_69_107, @g_69_109, @g_69_112, @g_69_113, @g_69_114, @g_69_117, @g_69_119, @h_69_119, @g_69_120, @g_69_123, @g_69_124, @g_69_126, @g_69_127, @g_69_130, @g_69_132, @g_69_134, @g_69_135, @g_69_138, @g_69_141, @g_69_143, nlO_n, nlO_i, nlO_r, ret01_0, ret01_1, ret01_if, ret01_fi, true_and, Option.toList_some, Option.toList_none, List.cons_append, List.nil_append, ii_1, ii_0, ii_R, ij_1, ij_0, ij_R, ite_not, if_true, if_false, Int.one_ne_zero, one_e1, not_true_eq_false, not_false_eq_true, and_true, and_false, false_and, or_false, false_or, or_true, true_or, and_self, or_self, inr_n1000100, inr_n1000010, inr_n1000003, inr_n1000002, inr_n1000001, inr_n1000000, inr_n1, inr_0, inr_1, inr_2, inr_3, inr_4, inr_5, inr_6, inr_7, inr_8, inr_10, inr_11, inr_12, inr_13, inr_14, inr_15, inr_16, inr_20, inr_21, inr_22, inr_23, inr_24, inr_29, inr_30, inr_31, inr_32, inr_39, inr_40, inr_44, inr_48, inr_53, inr_54, inr_57, inr_59, inr_63, inr_97, inr_100, inr_101, inr_102, inr_104, inr_105, inr_106, inr_110, inr_112, inr_116, inr_120, inr_122, inr_144, inr_255, inr_256, inr_320, inr_552, inr_576, inr_999, inr_1000, inr_1023, inr_1024, inr_2048, inr_1000000, inr_252645135, inr_858993459, inr_1431655765, okO_2, okF_2_2, rfN_2_2, okF_2_4, rfN_2_4, okF_2_5, rfN_2_5, okF_2_6, rfN_2_6, okF_2_7, rfN_2_7, okF_2_9, rfN_2_9, okF_2_10, rfN_2_10, okO_55, okF_55_0, rfN_55_0, okF_55_1, rfN_55_1, H_0 H, H_3 H, H_8 H, H_11 H, H_12 H, H_13 H, R_0 H.1, R_1 H.1, R_2 H.1, R_29 H.1, R_30 H.1, R_31 H.1, o_R, o_le, o_lt, o_nlt, o_nle, o_eq, o_ne, sp_105, et, if_true, if_false, Bool.false_eq_true, Bool.not_false, Bool.not_true, Bool.and_true, Bool.and_false, Bool.true_and, Bool.false_and, Bool.or_true, Bool.or_false, Bool.true_or, Bool.false_or, ite_self, ih2]
    · have ih2 := ih (m + 1) (some (.inl (I 56 m))) (by omega) (by omega)
      rw [show ((m + 1 : Nat) : Int) = (m : Int) + 1 from rfl, smN_s, ha, if_pos rfl] at ih2
      rw [ha] at et
      simp (disch := first | omega | (simp (disch := omega) only [up_ne, up_same, up_nj] <;> omega) | fail) only [@g_69_0, @g_69_1, @g_69_2, @g_69_5, @g_69_8, @g_69_9, @g_69_10, @g_69_13, @g_69_14, @g_69_15, @g_69_16, @g_69_17, @g_69_20, @g_69_21, @g_69_23, @g_69_26, @g_69_27, @g_69_30, @g_69_31, @g_69_34, @g_69_35, @h_69_35, @g_69_36, @h_69_36, @g_69_37, @g_69_38, @g_69_40, @g_69_41, @g_69_42, @g_69_45, @g_69_46, @g_69_47, @g_69_50, @g_69_52, @g_69_55, @g_69_56, @g_69_57, @g_69_59, @g_69_60, @g_69_64, @g_69_65, @g_69_68, @g_69_71, @g_69_73, @g_69_75, @g_69_78, @g_69_81, @g_69_82, @g_69_85, @g_69_87, @h_69_87, @g_69_88, @g_69_90, @g_69_91, @g_69_94, @g_69_96, @g_69_97, @g_69_98, @g_69_100, @g_69_101, @g_69_102, @g_69_103, @g_69_104, @g_69_105, @g_69_106, @g_69_107, @g_69_109, @g_69_112, @g_69_113, @g_69_114, @g_69_117, @g_69_119, @h_69_119, @g_69_120, @g_69_123, @g_69_124, @g_69_126, @g_69_127, @g_69_130, @g_69_132, @g_69_134, @g_69_135, @g_69_138, @g_69_141, @g_69_143, nlO_n, nlO_i, nlO_r, ret01_0, ret01_1, ret01_if, ret01_fi, true_and, Option.toList_some, Option.toList_none, List.cons_append, List.nil_append, ii_1, ii_0, ii_R, ij_1, ij_0, ij_R, ite_not, if_true, if_false, Int.one_ne_zero, one_e1, not_true_eq_false, not_false_eq_true, and_true, and_false, false_and, or_false, false_or, or_true, true_or, and_self, or_self, inr_n1000100, inr_n1000010, inr_n1000003, inr_n1000002, inr_n1000001, inr_n1000000, inr_n1, inr_0, inr_1, inr_2, inr_3, inr_4, inr_5, inr_6, inr_7, inr_8, inr_10, inr_11, inr_12, inr_13, inr_14, inr_15, inr_16, inr_20, inr_21, inr_22, inr_23, inr_24, inr_29, inr_30, inr_31, inr_32, inr_39, inr_40, inr_44, inr_48, inr_53, inr_54, inr_57, inr_59, inr_63, inr_97, inr_100, inr_101, inr_102, inr_104, inr_105, inr_106, inr_110, inr_112, inr_116, inr_120, inr_122, inr_144, inr_255, inr_256, inr_320, inr_552, inr_576, inr_999, inr_1000, inr_1023, inr_1024, inr_2048, inr_1000000, inr_252645135, inr_858993459, inr_1431655765, okO_2, okF_2_2, rfN_2_2, okF_2_4, rfN_2_4, okF_2_5, rfN_2_5, okF_2_6, rfN_2_6, okF_2_7, rfN_2_7, okF_2_9, rfN_2_9, okF_2_10, rfN_2_10, okA_3, lnN_3, okA_4, lnN_4, okA_5, lnN_5, okO_55, okF_55_0, rfN_55_0, okF_55_1, rfN_55_1, okA_56, lnN_56, H_0 H, H_3 H, H_8 H, H_11 H, H_12 H, H_13 H, R_0 H.1, R_1 H.1, R_2 H.1, R_29 H.1, R_30 H.1, R_31 H.1, o_R, o_le, o_lt, o_nlt, o_nle, o_eq, o_ne, sp_105, et, if_true, if_false, Bool.false_eq_true, Bool.not_false, Bool.not_true, Bool.and_true, Bool.and_false, Bool.true_and, Bool.false_and, Bool.or_true, Bool.or_false, Bool.true_or, Bool.false_or, ite_self, sp_25b, up_ne, k1, k2, hrec m (Int.natCast_nonneg m) (show (m : Int) < g 1 by omega) ha, up_up, up_e, ih2]
theorem sp_69 {B L : Int} {ord : Int → Int} (hL0 : 0 ≤ L) (hL1 : L ≤ 5) (hd : ∀ i j : Int, 0 ≤ i → i < j → j < L → ord i ≠ ord j) (hor : ∀ j : Int, 0 ≤ j → j < L → 0 ≤ ord j ∧ ord j < g 2) :
    ∀ (m D : Nat) (k B2 : Int) (s : HV) (I : MI), m + 7 ≤ D → k + m = L → 0 ≤ k → ROK B I 2 g → I 55 2 = L → (∀ j : Int, 0 ≤ j → j < L → I 57 j = ord j) → TE g s → MOK B2 s → B2 + 2 * m ≤ 100000 → (∀ w : Int, 0 ≤ w → w < g 1 → I 56 w = encN (s (32 + w))) → (∀ j : Int, k ≤ j → j < L → passB s (ord j) = false) → ∀ Q : QT, EX x D 69 [.inr (.inr (.inl 55)), .inr (.inr (.inl 2)), .inl k, .inl (s 29), .inl (s 30)] I J Q = Q (some (.inl (wyN ord m k s))) I J := by
  intro m
  induction m with
  | zero =>
    intro D k B2 s I hD hk k0 H h55 h57 hT M2 hB h56 hp Q
    obtain ⟨E, rfl⟩ : ∃ E, D = E + 7 := ⟨D - 7, by omega⟩
    rw [@e_69]
    simp (disch := omega) only [@g_69_0, @g_69_1, @g_69_2, @g_69_5, @g_69_8, @g_69_9, @g_69_10, @g_69_13, @g_69_14, @g_69_15, @g_69_16, @g_69_17, @g_69_20, @g_69_21, @g_69_23, @g_69_26, @g_69_27, @g_69_30, @g_69_31, @g_69_34, @g_69_35, @h_69_35, @g_69_36, @h_69_36, @g_69_37, @g_69_38, @g_69_40, @g_69_41, @g_69_42, @g_69_45, @g_69_46, @g_69_47, @g_69_50, @g_69_52, @g_69_55, @g_69_56, @g_69_57, @g_69_59, @g_69_60, @g_69_64, @g_69_65, @g_69_68, @g_69_71, @g_69_73, @g_69_75, @g_69_78, @g_69_81, @g_69_82, @g_69_85, @g_69_87, @h_69_87, @g_69_88, @g_69_90, @g_69_91, @g_69_94, @g_69_96, @g_69_97, @g_69_98, @g_69_100, @g_69_101, @g_69_102, @g_69_103, @g_69_104, @g_69_105, @g_69_106, @g_69_107, @g_69_109, @g_69_112, @g_69_113, @g_69_114, @g_69_117, @g_69_119, @h_69_119, @g_69_120, @g_69_123, @g_69_124, @g_69_126, @g_69_127, @g_69_130, @g_69_132, @g_69_134, @g_69_135, @g_69_138, @g_69_141, @g_69_143, nlO_n, nlO_i, nlO_r, ret01_0, ret01_1, ret01_if, ret01_fi, true_and, Option.toList_some, Option.toList_none, List.cons_append, List.nil_append, ii_1, ii_0, ii_R, ij_1, ij_0, ij_R, ite_not, if_true, if_false, Int.one_ne_zero, one_e1, not_true_eq_false, not_false_eq_true, and_true, and_false, false_and, or_false, false_or, or_true, true_or, and_self, or_self, inr_n1000100, inr_n1000010, inr_n1000003, inr_n1000002, inr_n1000001, inr_n1000000, inr_n1, inr_0, inr_1, inr_2, inr_3, inr_4, inr_5, inr_6, inr_7, inr_8, inr_10, inr_11, inr_12, inr_13, inr_14, inr_15, inr_16, inr_20, inr_21, inr_22, inr_23, inr_24, inr_29, inr_30, inr_31, inr_32, inr_39, inr_40, inr_44, inr_48, inr_53, inr_54, inr_57, inr_59, inr_63, inr_97, inr_100, inr_101, inr_102, inr_104, inr_105, inr_106, inr_110, inr_112, inr_116, inr_120, inr_122, inr_144, inr_255, inr_256, inr_320, inr_552, inr_576, inr_999, inr_1000, inr_1023, inr_1024, inr_2048, inr_1000000, inr_252645135, inr_858993459, inr_1431655765, okO_55, okF_55_0, rfN_55_0, okF_55_1, rfN_55_1, o_R, o_le, o_lt, o_nlt, o_nle, o_eq, o_ne, h55]
    rfl
  | succ m ih =>
    intro D k B2 s I hD hk k0 H h55 h57 hT M2 hB h56 hp Q
    obtain ⟨E, rfl⟩ : ∃ E, D = E + 7 := ⟨D - 7, by omega⟩
    have b1 := B_1 H.1
    have b2 := B_2 H.1
    have c29 := B_29 M2
    have c30 := B_30 M2
    have hB2 := M2.2.2
    obtain ⟨o1, o2⟩ := hor k k0 (by omega)
    have hp0 := hp k (Int.le_refl k) (by omega)
    have e57 := h57 k k0 (by omega)
    have e8 : I 8 (ord k) = g (24 + ord k) := (H_t H o1 o2).1
    have hA : ∀ w : Int, 0 ≤ w → w < g 1 → I 56 w = encN (s (32 + w)) ∧ -1 ≤ s (32 + w) ∧ s (32 + w) ≤ 200000 := fun w a b => by
      have hq := B_a M2 a (by rw [hT 1 (by omega) (by omega)]; exact b)
      exact ⟨h56 w a b, by omega, by omega⟩
    have hoc := open_can H.1 M2 hT hp0 o1 (by omega)
    rw [@e_69, wyN_s, hT 1 (by omega) (by omega)]
    by_cases hm : m = 0
    · subst hm
      simp (disch := omega) only [@g_69_0, @g_69_1, @g_69_2, @g_69_5, @g_69_8, @g_69_9, @g_69_10, @g_69_13, @g_69_14, @g_69_15, @g_69_16, @g_69_17, @g_69_20, @g_69_21, @g_69_23, @g_69_26, @g_69_27, @g_69_30, @g_69_31, @g_69_34, @g_69_35, @h_69_35, @g_69_36, @h_69_36, @g_69_37, @g_69_38, @g_69_40, @g_69_41, @g_69_42, @g_69_45, @g_69_46, @g_69_47, @g_69_50, @g_69_52, @g_69_55, @g_69_56, @g_69_57, @g_69_59, @g_69_60, @g_69_64, @g_69_65, @g_69_68, @g_69_71, @g_69_73, @g_69_75, @g_69_78, @g_69_81, @g_69_82, @g_69_85, @g_69_87, @h_69_87, @g_69_88, @g_69_90, @g_69_91, @g_69_94, @g_69_96, @g_69_97, @g_69_98, @g_69_100, @g_69_101, @g_69_102, @g_69_103, @g_69_104, @g_69_105, @g_69_106, @g_69_107, @g_69_109, @g_69_112, @g_69_113, @g_69_114, @g_69_117, @g_69_119, @h_69_119, @g_69_120, @g_69_123, @g_69_124, @g_69_126, @g_69_127, @g_69_130, @g_69_132, @g_69_134, @g_69_135, @g_69_138, @g_69_141, @g_69_143, nlO_n, nlO_i, nlO_r, ret01_0, ret01_1, ret01_if, ret01_fi, true_and, Option.toList_some, Option.toList_none, List.cons_append, List.nil_append, ii_1, ii_0, ii_R, ij_1, ij_0, ij_R, ite_not, if_true, if_false, Int.one_ne_zero, one_e1, not_true_eq_false, not_false_eq_true, and_true, and_false, false_and, or_false, false_or, or_true, true_or, and_self, or_self, inr_n1000100, inr_n1000010, inr_n1000003, inr_n1000002, inr_n1000001, inr_n1000000, inr_n1, inr_0, inr_1, inr_2, inr_3, inr_4, inr_5, inr_6, inr_7, inr_8, inr_10, inr_11, inr_12, inr_13, inr_14, inr_15, inr_16, inr_20, inr_21, inr_22, inr_23, inr_24, inr_29, inr_30, inr_31, inr_32, inr_39, inr_40, inr_44, inr_48, inr_53, inr_54, inr_57, inr_59, inr_63, inr_97, inr_100, inr_101, inr_102, inr_104, inr_105, inr_106, inr_110, inr_112, inr_116, inr_120, inr_122, inr_144, inr_255, inr_256, inr_320, inr_552, inr_576, inr_999, inr_1000, inr_1023, inr_1024, inr_2048, inr_1000000, inr_252645135, inr_858993459, inr_1431655765, okO_2, okF_2_2, rfN_2_2, okF_2_4, rfN_2_4, okF_2_5, rfN_2_5, okF_2_6, rfN_2_6, okF_2_7, rfN_2_7, okF_2_9, rfN_2_9, okF_2_10, rfN_2_10, okA_8, lnN_8, okO_55, okF_55_0, rfN_55_0, okF_55_1, rfN_55_1, okA_57, lnN_57, o_R, o_le, o_lt, o_nlt, o_nle, o_eq, o_ne, h55, sp_22 H (Or.inr (Or.inr rfl)) hA, e57, e8, hoc, sp_182, cnt_can32 (show (g 1).toNat ≤ 32 by omega)]
      rfl
    · simp (disch := omega) only [@g_69_0, @g_69_1, @g_69_2, @g_69_5, @g_69_8, @g_69_9, @g_69_10, @g_69_13, @g_69_14, @g_69_15, @g_69_16, @g_69_17, @g_69_20, @g_69_21, @g_69_23, @g_69_26, @g_69_27, @g_69_30, @g_69_31, @g_69_34, @g_69_35, @h_69_35, @g_69_36, @h_69_36, @g_69_37, @g_69_38, @g_69_40, @g_69_41, @g_69_42, @g_69_45, @g_69_46, @g_69_47, @g_69_50, @g_69_52, @g_69_55, @g_69_56, @g_69_57, @g_69_59, @g_69_60, @g_69_64, @g_69_65, @g_69_68, @g_69_71, @g_69_73, @g_69_75, @g_69_78, @g_69_81, @g_69_82, @g_69_85, @g_69_87, @h_69_87, @g_69_88, @g_69_90, @g_69_91, @g_69_94, @g_69_96, @g_69_97, @g_69_98, @g_69_100, @g_69_101, @g_69_102, @g_69_103, @g_69_104, @g_69_105, @g_69_106, @g_69_107, @g_69_109, @g_69_112, @g_69_113, @g_69_114, @g_69_117, @g_69_119, @h_69_119, @g_69_120, @g_69_123, @g_69_124, @g_69_126, @g_69_127, @g_69_130, @g_69_132, @g_69_134, @g_69_135, @g_69_138, @g_69_141, @g_69_143, nlO_n, nlO_i, nlO_r, ret01_0, ret01_1, ret01_if, ret01_fi, true_and, Option.toList_some, Option.toList_none, List.cons_append, List.nil_append, ii_1, ii_0, ii_R, ij_1, ij_0, ij_R, ite_not, if_true, if_false, Int.one_ne_zero, one_e1, not_true_eq_false, not_false_eq_true, and_true, and_false, false_and, or_false, false_or, or_true, true_or, and_self, or_self, inr_n1000100, inr_n1000010, inr_n1000003, inr_n1000002, inr_n1000001, inr_n1000000, inr_n1, inr_0, inr_1, inr_2, inr_3, inr_4, inr_5, inr_6, inr_7, inr_8, inr_10, inr_11, inr_12, inr_13, inr_14, inr_15, inr_16, inr_20, inr_21, inr_22, inr_23, inr_24, inr_29, inr_30, inr_31, inr_32, inr_39, inr_40, inr_44, inr_48, inr_53, inr_54, inr_57, inr_59, inr_63, inr_97, inr_100, inr_101, inr_102, inr_104, inr_105, inr_106, inr_110, inr_112, inr_116, inr_120, inr_122, inr_144, inr_255, inr_256, inr_320, inr_552, inr_576, inr_999, inr_1000, inr_1023, inr_1024, inr_2048, inr_1000000, inr_252645135, inr_858993459, inr_1431655765, okO_2, okF_2_2, rfN_2_2, okF_2_4, rfN_2_4, okF_2_5, rfN_2_5, okF_2_6, rfN_2_6, okF_2_7, rfN_2_7, okF_2_9, rfN_2_9, okF_2_10, rfN_2_10, okA_8, lnN_8, okO_55, okF_55_0, rfN_55_0, okF_55_1, rfN_55_1, okA_57, lnN_57, o_R, o_le, o_lt, o_nlt, o_nle, o_eq, o_ne, h55, sp_22 H (Or.inr (Or.inr rfl)) hA, e57, e8, hoc]
      refine lp_69 (L := L) (f := fun w => wyN ord m (k + 1) (askS s (ord k) w)) H hT c29.1 (by omega) (fun w w0 w1 ha Q => ?_) _ 0 none b1.1 rfl
      have hpp : s (48 + ord k) < 0 := by
        unfold passB at hp0
        have := of_decide_eq_false hp0
        omega
      have M3 := ask_ok (t := ord k) (w := w) M2 (by omega) o1 (by rw [hT 2 (by omega) (by omega)]; exact o2) w0 (by rw [hT 1 (by omega) (by omega)]; exact w1) hpp
      have i1 := ih (E + 6) (k + 1) (B2 + 2) (askS s (ord k) w) (up I 56 w (s 29)) (by omega) (by omega) (by omega) (ROK_cong (Int.le_refl _) H.1.2.2 (fun c a b => up_ne (by omega)) rfl H) (by rw [up_ne (by omega)]; exact h55) (fun j a b => by rw [up_ne (by omega)]; exact h57 j a b) (TE_ask hT o1 w0) M3 (by omega) (fun u a b => ?_) (fun j a b => ?_) Q
      · rw [aS_29, aS_30, hT (8 + w) (by omega) (by omega), hT (16 + w) (by omega) (by omega)] at i1
        exact i1
      · by_cases hu : u = w
        · subst hu
          rw [up_same, aS_32 w0, enc_pos c29.1]
        · rw [up_nj hu, aS_n (by omega)]
          exact h56 u a b
      · have q1 := hp j (by omega) b
        have q2 := hd k j k0 (by omega) b
        have q3 := hor j (by omega) b
        unfold passB at q1 ⊢
        rw [aS_n (by omega)]
        exact q1
end
