/-- an array filled with one number, its first n places -/
def m_fl (μ : MMem) (id v n : Int) : MMem := fun a b => if a = id ∧ 0 ≤ b ∧ b < n then v else μ a b
theorem fl_ne {μ : MMem} {id v n a : Int} (h : a ≠ id) : m_fl μ id v n a = μ a := by
  funext b
  unfold m_fl
  rw [if_neg (fun q => h q.1)]
theorem fl_at {μ : MMem} {id v n b : Int} (h0 : 0 ≤ b) (h1 : b < n) : m_fl μ id v n id b = v := if_pos ⟨rfl, h0, h1⟩
theorem fl_step (μ : MMem) (id v : Int) (n : Nat) : m_w (m_fl μ id v n) id n v = m_fl μ id v ((n : Int) + 1) := by
  funext a b
  unfold m_w m_fl
  grind
theorem fl_zero (μ : MMem) (id v : Int) : m_fl μ id v 0 = μ := by
  funext a b
  unfold m_fl
  grind
theorem j_fillL {μ : MMem} {id v : Int} {n : Nat} (h0 : 0 ≤ id) (hn : m_al id = n) (hs : n < 1000) {Q : MVal → MMem → Prop} (h : Q (14, 0) (m_fl μ id v n)) : ∀ d b : Nat, b + d = n → At 9 1 [(2, id), (0, v), (0, (b : Int)), (0, (n : Int))] [] (m_fl μ id v b) Q := by
  intro d
  induction d with
  | zero =>
    intro b hb
    have e : b = n := by omega
    subst e
    rw [t9_1]
    simp only [t9_0, t9_2, B9_0, B9_1, B9_2, Classical.not_not, Prod.mk.injEq, m_l, m_lp, m_lq, m_ps, m_ws, m_en, List.replicate, if_true, if_false, reduceIte, true_and, and_true, false_and, and_false, true_or, or_true, false_or, or_false, and_self, or_self, not_true_eq_false, not_false_eq_true, ne_eq, Nat.reduceLeDiff, Nat.reduceEqDiff, Nat.reduceAdd, Int.reduceLE, Int.reduceLT, Int.reduceEq, Int.reduceNe, Int.reduceAdd, Int.reduceNeg, Nat.reduceSub, Nat.succ_ne_zero, Nat.not_succ_le_zero, Nat.reduceMul, Int.reduceMul, Int.reduceSub, Int.reduceToNat, Nat.zero_le, Nat.reduceLT, r_0, r_1, r_2, r_3, r_4, r_5, r_6, r_7, r_9, r_10, r_11, r_12, r_13, r_14, r_15, r_16, r_17, r_18, r_19, r_20_0, r_21_0, r_20_1, r_21_1, r_20_2, r_21_2, r_20_3, r_21_3, r_20_4, r_21_4, r_20_5, r_21_5, r_22_0, r_22_1, r_23, r_24, r_25, r_26, r_27, r_28, r_29, r_30_0, r_30_1, r_30_2, r_31, r_31b, r_32, r_33, r_33b, r_33c, r_34, r_34b, r_35, r_45, r_46, r_47_0, r_47_1, r_40, r_50, r_51, r_41_0, r_41_1, r_42, r_43, r_44, r_36_0, r_37_0, r_38_0, r_48_0, r_36_1, r_37_1, r_38_1, r_48_1, r_36_2, r_37_2, r_38_2, r_48_2, r_36_3, r_37_3, r_36_4, r_37_4, r_36_5, r_37_5, r_39, r_8, al_13, al_14, al_15, al_16, al_18, al_19, al_25, al_26, al_27, al_28, al_29, al_30, al_31, al_32, al_33, al_34, al_35, al_36, al_37, al_38, al_39, al_40, al_41, al_42, al_43, al_44, al_45, al_46, al_48, al_49, al_50, al_51, al_52, al_53, al_54, al_55, al_56, al_57, al_58, al_59, al_60, al_61, al_62, al_63, al_64, al_65, al_66, al_67, al_68, al_69, al_70, rf_0_0, rf_0_1, rf_0_2, rf_0_3, rf_0_4, rf_0_5, rf_0_6, rf_0_7, rf_0_8, rf_0_10, rf_0_11, rf_1_0, rf_1_1, rf_1_2, rf_2_0, rf_2_1, rf_2_2, rf_3_0, rf_3_1, rf_3_2, rf_4_0, rf_4_1, rf_4_2, rf_5_0, rf_5_1, rf_5_2, rf_6_0, rf_6_1, rf_7_0, rf_7_1, rf_8_0, rf_8_1, rf_8_5, rf_8_6, rf_8_7, rf_8_8, rf_8_9, rf_9_0, rf_10_0, rf_11_0, rf_12_0, rf_47_0, rf_47_1, rf_47_2, rf_47_3, rf_47_5, rf_47_6, rf_47_8, rf_47_10, rf_47_12, rf_47_14, rf_47_15, rf_47_16, rf_47_17, rf_47_18, rf_47_19, rf_47_20, rf_47_21, rf_47_22, rf_47_23, rf_47_24, rf_47_26, rf_47_27, rf_47_29, rf_17, rf_20, rf_21, rf_22, rf_23, rf_24, rl_17, rl_20, rl_21, rl_22, rl_23, rl_24]
    grind
  | succ d ih =>
    intro b hb
    have ih := ih (b + 1) (by omega)
    rw [t9_1]
    simp only [t9_0, t9_2, B9_0, B9_1, B9_2, Classical.not_not, Prod.mk.injEq, m_l, m_lp, m_lq, m_ps, m_ws, m_en, List.replicate, if_true, if_false, reduceIte, true_and, and_true, false_and, and_false, true_or, or_true, false_or, or_false, and_self, or_self, not_true_eq_false, not_false_eq_true, ne_eq, Nat.reduceLeDiff, Nat.reduceEqDiff, Nat.reduceAdd, Int.reduceLE, Int.reduceLT, Int.reduceEq, Int.reduceNe, Int.reduceAdd, Int.reduceNeg, Nat.reduceSub, Nat.succ_ne_zero, Nat.not_succ_le_zero, Nat.reduceMul, Int.reduceMul, Int.reduceSub, Int.reduceToNat, Nat.zero_le, Nat.reduceLT, r_0, r_1, r_2, r_3, r_4, r_5, r_6, r_7, r_9, r_10, r_11, r_12, r_13, r_14, r_15, r_16, r_17, r_18, r_19, r_20_0, r_21_0, r_20_1, r_21_1, r_20_2, r_21_2, r_20_3, r_21_3, r_20_4, r_21_4, r_20_5, r_21_5, r_22_0, r_22_1, r_23, r_24, r_25, r_26, r_27, r_28, r_29, r_30_0, r_30_1, r_30_2, r_31, r_31b, r_32, r_33, r_33b, r_33c, r_34, r_34b, r_35, r_45, r_46, r_47_0, r_47_1, r_40, r_50, r_51, r_41_0, r_41_1, r_42, r_43, r_44, r_36_0, r_37_0, r_38_0, r_48_0, r_36_1, r_37_1, r_38_1, r_48_1, r_36_2, r_37_2, r_38_2, r_48_2, r_36_3, r_37_3, r_36_4, r_37_4, r_36_5, r_37_5, r_39, r_8, al_13, al_14, al_15, al_16, al_18, al_19, al_25, al_26, al_27, al_28, al_29, al_30, al_31, al_32, al_33, al_34, al_35, al_36, al_37, al_38, al_39, al_40, al_41, al_42, al_43, al_44, al_45, al_46, al_48, al_49, al_50, al_51, al_52, al_53, al_54, al_55, al_56, al_57, al_58, al_59, al_60, al_61, al_62, al_63, al_64, al_65, al_66, al_67, al_68, al_69, al_70, rf_0_0, rf_0_1, rf_0_2, rf_0_3, rf_0_4, rf_0_5, rf_0_6, rf_0_7, rf_0_8, rf_0_10, rf_0_11, rf_1_0, rf_1_1, rf_1_2, rf_2_0, rf_2_1, rf_2_2, rf_3_0, rf_3_1, rf_3_2, rf_4_0, rf_4_1, rf_4_2, rf_5_0, rf_5_1, rf_5_2, rf_6_0, rf_6_1, rf_7_0, rf_7_1, rf_8_0, rf_8_1, rf_8_5, rf_8_6, rf_8_7, rf_8_8, rf_8_9, rf_9_0, rf_10_0, rf_11_0, rf_12_0, rf_47_0, rf_47_1, rf_47_2, rf_47_3, rf_47_5, rf_47_6, rf_47_8, rf_47_10, rf_47_12, rf_47_14, rf_47_15, rf_47_16, rf_47_17, rf_47_18, rf_47_19, rf_47_20, rf_47_21, rf_47_22, rf_47_23, rf_47_24, rf_47_26, rf_47_27, rf_47_29, rf_17, rf_20, rf_21, rf_22, rf_23, rf_24, rl_17, rl_20, rl_21, rl_22, rl_23, rl_24, hn]
    rw [m_i0 (by omega) (by omega), fl_step]
    push_cast at ih
    grind
theorem j_fill (μ : MMem) (id v : Int) (n : Nat) (h0 : 0 ≤ id) (hn : m_al id = n) (hs : n < 1000) (Q : MVal → MMem → Prop) : Cal 9 [(2, id), (0, v)] μ Q = Q (14, 0) (m_fl μ id v n) := by
  refine cal_eq rfl ?_ Q
  show Rn 9 B9_0 [(2, id), (0, v), (14, 0), (14, 0)] [] μ _
  have := j_fillL (μ := μ) (v := v) h0 hn hs (Q := fun a b => a = (14, 0) ∧ b = m_fl μ id v n) ⟨rfl, rfl⟩ n 0 (by omega)
  rw [show ((0 : Nat) : Int) = 0 from rfl, fl_zero] at this
  simp only [t9_0, t9_2, B9_0, B9_1, B9_2, Classical.not_not, Prod.mk.injEq, m_l, m_lp, m_lq, m_ps, m_ws, m_en, List.replicate, if_true, if_false, reduceIte, true_and, and_true, false_and, and_false, true_or, or_true, false_or, or_false, and_self, or_self, not_true_eq_false, not_false_eq_true, ne_eq, Nat.reduceLeDiff, Nat.reduceEqDiff, Nat.reduceAdd, Int.reduceLE, Int.reduceLT, Int.reduceEq, Int.reduceNe, Int.reduceAdd, Int.reduceNeg, Nat.reduceSub, Nat.succ_ne_zero, Nat.not_succ_le_zero, Nat.reduceMul, Int.reduceMul, Int.reduceSub, Int.reduceToNat, Nat.zero_le, Nat.reduceLT, r_0, r_1, r_2, r_3, r_4, r_5, r_6, r_7, r_9, r_10, r_11, r_12, r_13, r_14, r_15, r_16, r_17, r_18, r_19, r_20_0, r_21_0, r_20_1, r_21_1, r_20_2, r_21_2, r_20_3, r_21_3, r_20_4, r_21_4, r_20_5, r_21_5, r_22_0, r_22_1, r_23, r_24, r_25, r_26, r_27, r_28, r_29, r_30_0, r_30_1, r_30_2, r_31, r_31b, r_32, r_33, r_33b, r_33c, r_34, r_34b, r_35, r_45, r_46, r_47_0, r_47_1, r_40, r_50, r_51, r_41_0, r_41_1, r_42, r_43, r_44, r_36_0, r_37_0, r_38_0, r_48_0, r_36_1, r_37_1, r_38_1, r_48_1, r_36_2, r_37_2, r_38_2, r_48_2, r_36_3, r_37_3, r_36_4, r_37_4, r_36_5, r_37_5, r_39, r_8, al_13, al_14, al_15, al_16, al_18, al_19, al_25, al_26, al_27, al_28, al_29, al_30, al_31, al_32, al_33, al_34, al_35, al_36, al_37, al_38, al_39, al_40, al_41, al_42, al_43, al_44, al_45, al_46, al_48, al_49, al_50, al_51, al_52, al_53, al_54, al_55, al_56, al_57, al_58, al_59, al_60, al_61, al_62, al_63, al_64, al_65, al_66, al_67, al_68, al_69, al_70, rf_0_0, rf_0_1, rf_0_2, rf_0_3, rf_0_4, rf_0_5, rf_0_6, rf_0_7, rf_0_8, rf_0_10, rf_0_11, rf_1_0, rf_1_1, rf_1_2, rf_2_0, rf_2_1, rf_2_2, rf_3_0, rf_3_1, rf_3_2, rf_4_0, rf_4_1, rf_4_2, rf_5_0, rf_5_1, rf_5_2, rf_6_0, rf_6_1, rf_7_0, rf_7_1, rf_8_0, rf_8_1, rf_8_5, rf_8_6, rf_8_7, rf_8_8, rf_8_9, rf_9_0, rf_10_0, rf_11_0, rf_12_0, rf_47_0, rf_47_1, rf_47_2, rf_47_3, rf_47_5, rf_47_6, rf_47_8, rf_47_10, rf_47_12, rf_47_14, rf_47_15, rf_47_16, rf_47_17, rf_47_18, rf_47_19, rf_47_20, rf_47_21, rf_47_22, rf_47_23, rf_47_24, rf_47_26, rf_47_27, rf_47_29, rf_17, rf_20, rf_21, rf_22, rf_23, rf_24, rl_17, rl_20, rl_21, rl_22, rl_23, rl_24, hn]
  grind
/-- T with some events gone -/
def gn (T : MMem) (m : Int) : MMem := m_w T 0 3 m
theorem gn_at (T : MMem) (m : Int) {j : Int} (h : j ≠ 3) : gn T m 0 j = T 0 j := by
  unfold gn
  rw [mw_at, if_neg h]
theorem gn_ne (T : MMem) (m : Int) {a : Int} (h : a ≠ 0) : gn T m a = T a := mw_ne h
theorem gn_3 (T : MMem) (m : Int) : gn T m 0 3 = m := by
  unfold gn
  rw [mw_at, if_pos rfl]
theorem gn_self {T : MMem} {m : Int} (h : T 0 3 = m) : gn T m = T := by
  unfold gn m_w
  funext a b
  grind
theorem TW.gn {T : MMem} (h : TW T) (m : Int) : TW (gn T m) := by
  unfold TW at *
  rw [gn_at T m (show (0 : Int) ≠ 3 by decide), gn_at T m (show (1 : Int) ≠ 3 by decide), gn_at T m (show (2 : Int) ≠ 3 by decide), gn_ne T m (show (1 : Int) ≠ 0 by decide), gn_ne T m (show (2 : Int) ≠ 0 by decide), gn_ne T m (show (3 : Int) ≠ 0 by decide), gn_ne T m (show (4 : Int) ≠ 0 by decide), gn_ne T m (show (5 : Int) ≠ 0 by decide), gn_ne T m (show (6 : Int) ≠ 0 by decide), gn_ne T m (show (7 : Int) ≠ 0 by decide), gn_ne T m (show (8 : Int) ≠ 0 by decide), gn_ne T m (show (9 : Int) ≠ 0 by decide)]
  exact h
theorem CT.gn {μ T : MMem} (h : CT μ T) (m : Int) : CT μ (gn T m) := by
  unfold CT at *
  rw [gn_at T m (show (0 : Int) ≠ 3 by decide), gn_at T m (show (1 : Int) ≠ 3 by decide), gn_ne T m (show (1 : Int) ≠ 0 by decide), gn_ne T m (show (2 : Int) ≠ 0 by decide), gn_ne T m (show (3 : Int) ≠ 0 by decide), gn_ne T m (show (4 : Int) ≠ 0 by decide), gn_ne T m (show (5 : Int) ≠ 0 by decide), gn_ne T m (show (6 : Int) ≠ 0 by decide)]
  exact h
theorem CE.gn {μ T : MMem} {ev : Int} (h : CE μ T ev) (m : Int) : CE μ (gn T m) ev := by
  unfold CE at *
  rw [gn_at T m (show (2 : Int) ≠ 3 by decide), gn_ne T m (show (7 : Int) ≠ 0 by decide), gn_ne T m (show (8 : Int) ≠ 0 by decide), gn_ne T m (show (9 : Int) ≠ 0 by decide)]
  exact h
/-- the houses open at the end without some events -/
def ow (T : MMem) (m : Int) : Int := opN (gn T m) (sm (gn T m) 24) (nh T)
/-- what the memo holds -/
def MO (μ T : MMem) : Prop := (μ 0 9 = 0 ∨ μ 0 9 = 1) ∧ (μ 0 9 = 0 → ∀ m, 0 ≤ m → m < 256 → μ 18 m = -1 ∨ μ 18 m = ow T m)
/-- what a question may change on the first side -/
def FQ (μ μ' : MMem) : Prop := (∀ a, a ≠ 0 → a ≠ 4 → a ≠ 8 → a ≠ 18 → a ≠ 19 → (a < 34 ∨ 36 < a) → (a < 42 ∨ 46 < a) → μ' a = μ a) ∧ ∀ j, j ≠ 9 → μ' 0 j = μ 0 j
theorem FQ.rf (μ : MMem) : FQ μ μ := ⟨fun _ _ _ _ _ _ _ _ => rfl, fun _ _ => rfl⟩
theorem FQ.tr {μ ν ξ : MMem} (h : FQ μ ν) (g : FQ ν ξ) : FQ μ ξ := ⟨fun a h1 h2 h3 h4 h5 h6 h7 => (g.1 a h1 h2 h3 h4 h5 h6 h7).trans (h.1 a h1 h2 h3 h4 h5 h6 h7), fun j hj => (g.2 j hj).trans (h.2 j hj)⟩
theorem FB.fq {μ ν : MMem} (h : FB μ ν) : FQ μ ν := ⟨fun a _ _ h3 _ _ _ h7 => h a h3 h7, fun j _ => by rw [h 0 (by decide) (by decide)]⟩
theorem FB.mo {μ ν T : MMem} (h : FB μ ν) (hM : MO μ T) : MO ν T := by
  unfold MO at *
  rw [h 0 (by decide) (by decide), h 18 (by decide) (by decide)]
  exact hM
theorem CI.fq {μ ν T : MMem} (h : CI μ T) (hf : FQ μ ν) : CI ν T := by
  unfold CI CT CE at *
  rw [hf.1 1 (by decide) (by decide) (by decide) (by decide) (by decide) (by decide) (by decide), hf.1 2 (by decide) (by decide) (by decide) (by decide) (by decide) (by decide) (by decide), hf.1 3 (by decide) (by decide) (by decide) (by decide) (by decide) (by decide) (by decide), hf.1 25 (by decide) (by decide) (by decide) (by decide) (by decide) (by decide) (by decide), hf.1 26 (by decide) (by decide) (by decide) (by decide) (by decide) (by decide) (by decide), hf.1 27 (by decide) (by decide) (by decide) (by decide) (by decide) (by decide) (by decide), hf.1 28 (by decide) (by decide) (by decide) (by decide) (by decide) (by decide) (by decide), hf.1 29 (by decide) (by decide) (by decide) (by decide) (by decide) (by decide) (by decide), hf.1 30 (by decide) (by decide) (by decide) (by decide) (by decide) (by decide) (by decide), hf.1 31 (by decide) (by decide) (by decide) (by decide) (by decide) (by decide) (by decide), hf.1 32 (by decide) (by decide) (by decide) (by decide) (by decide) (by decide) (by decide), hf.1 33 (by decide) (by decide) (by decide) (by decide) (by decide) (by decide) (by decide)]
  obtain ⟨h1, h2, ⟨h3, h4⟩, h5⟩ := h
  refine ⟨h1, h2, ⟨h3, ?_⟩, h5⟩
  rcases h4 with h4 | h4
  · exact Or.inl h4
  · omega
/-- houses open, work without the memo -/
theorem c_owL {μ T : MMem} (hI : CI μ T) (hM : MO μ T) (h9 : μ 0 9 = 0) {m : Int} (hm : 0 ≤ m ∧ m < 256) {Q : MVal → MMem → Prop} (h : ∀ μ', FQ μ μ' → MO μ' T → Q (0, ow T m) μ') : At 101 2 [(9, 0), (0, m)] [] μ Q := by
  obtain ⟨hT, hC, hE, h3⟩ := id hI
  have hT2 := hT.gn m
  obtain ⟨μ1, ⟨p1, w1, f1⟩, c1⟩ := w_begin μ hT2 (hC.gn m) (hE.gn m) m (gn_3 T m).symm
  obtain ⟨μ2, ⟨w2, f2⟩, c2⟩ := w_pass μ1 hT2 p1 (sim0_SI hT2) w1 0 23 (sim0_ZC _ 0 0) (by decide) (by decide) 24 (by omega)
  have ho := w_open μ2 hT2 (p1.fw f2).1 w2
  have hfb := f1.tr f2.fb
  have e18 : μ2 18 = μ 18 := hfb 18 (by decide) (by decide)
  have e0 : μ2 0 = μ 0 := hfb 0 (by decide) (by decide)
  have enh : nh (gn T m) = nh T := by
    unfold nh
    rw [gn_at T m (by decide)]
  have eo : opN (gn T m) (yrs (gn T m) (sim0 (gn T m)) 0 24) (nh (gn T m)) = ow T m := by
    rw [enh]
    rfl
  rw [eo] at ho
  have hv := hM.2 h9 m hm.1 hm.2
  have q1 := h μ (FQ.rf μ) hM
  have q2 : Q (0, ow T m) (m_w μ2 18 m (ow T m)) := by
    refine h _ (hfb.fq.tr ⟨fun a _ _ _ h4 _ _ _ => mw_ne h4, fun j _ => by rw [mw_ne (by decide)]⟩) ⟨?_, fun q k k0 k1 => ?_⟩
    · rw [mw_ne (by decide), e0]; exact hM.1
    · rw [mw_at]
      split
      · rename_i z; rw [z]; exact Or.inr rfl
      · rw [e18]; exact hM.2 h9 k k0 k1
  rw [t101_2]
  simp only [t101_0, t101_1, t101_3, B101_0, B101_1, B101_2, B101_3, Classical.not_not, Prod.mk.injEq, m_l, m_lp, m_lq, m_ps, m_ws, m_en, List.replicate, if_true, if_false, reduceIte, true_and, and_true, false_and, and_false, true_or, or_true, false_or, or_false, and_self, or_self, not_true_eq_false, not_false_eq_true, ne_eq, Nat.reduceLeDiff, Nat.reduceEqDiff, Nat.reduceAdd, Int.reduceLE, Int.reduceLT, Int.reduceEq, Int.reduceNe, Int.reduceAdd, Int.reduceNeg, Nat.reduceSub, Nat.succ_ne_zero, Nat.not_succ_le_zero, Nat.reduceMul, Int.reduceMul, Int.reduceSub, Int.reduceToNat, Nat.zero_le, Nat.reduceLT, r_0, r_1, r_2, r_3, r_4, r_5, r_6, r_7, r_9, r_10, r_11, r_12, r_13, r_14, r_15, r_16, r_17, r_18, r_19, r_20_0, r_21_0, r_20_1, r_21_1, r_20_2, r_21_2, r_20_3, r_21_3, r_20_4, r_21_4, r_20_5, r_21_5, r_22_0, r_22_1, r_23, r_24, r_25, r_26, r_27, r_28, r_29, r_30_0, r_30_1, r_30_2, r_31, r_31b, r_32, r_33, r_33b, r_33c, r_34, r_34b, r_35, r_45, r_46, r_47_0, r_47_1, r_40, r_50, r_51, r_41_0, r_41_1, r_42, r_43, r_44, r_36_0, r_37_0, r_38_0, r_48_0, r_36_1, r_37_1, r_38_1, r_48_1, r_36_2, r_37_2, r_38_2, r_48_2, r_36_3, r_37_3, r_36_4, r_37_4, r_36_5, r_37_5, r_39, r_8, al_13, al_14, al_15, al_16, al_18, al_19, al_25, al_26, al_27, al_28, al_29, al_30, al_31, al_32, al_33, al_34, al_35, al_36, al_37, al_38, al_39, al_40, al_41, al_42, al_43, al_44, al_45, al_46, al_48, al_49, al_50, al_51, al_52, al_53, al_54, al_55, al_56, al_57, al_58, al_59, al_60, al_61, al_62, al_63, al_64, al_65, al_66, al_67, al_68, al_69, al_70, rf_0_0, rf_0_1, rf_0_2, rf_0_3, rf_0_4, rf_0_5, rf_0_6, rf_0_7, rf_0_8, rf_0_10, rf_0_11, rf_1_0, rf_1_1, rf_1_2, rf_2_0, rf_2_1, rf_2_2, rf_3_0, rf_3_1, rf_3_2, rf_4_0, rf_4_1, rf_4_2, rf_5_0, rf_5_1, rf_5_2, rf_6_0, rf_6_1, rf_7_0, rf_7_1, rf_8_0, rf_8_1, rf_8_5, rf_8_6, rf_8_7, rf_8_8, rf_8_9, rf_9_0, rf_10_0, rf_11_0, rf_12_0, rf_47_0, rf_47_1, rf_47_2, rf_47_3, rf_47_5, rf_47_6, rf_47_8, rf_47_10, rf_47_12, rf_47_14, rf_47_15, rf_47_16, rf_47_17, rf_47_18, rf_47_19, rf_47_20, rf_47_21, rf_47_22, rf_47_23, rf_47_24, rf_47_26, rf_47_27, rf_47_29, rf_17, rf_20, rf_21, rf_22, rf_23, rf_24, rl_17, rl_20, rl_21, rl_22, rl_23, rl_24, c1, c2, ho, mw_at]
  grind
theorem c_openWithout {T : MMem} (μ : MMem) (hI : CI μ T) (hM : MO μ T) (m : Int) : ∃ μ' : MMem, (FQ μ μ' ∧ MO μ' T) ∧ ∀ Q : MVal → MMem → Prop, Cal 101 [(9, 0), (0, m)] μ Q = Q (0, if 0 ≤ m ∧ m < 256 then ow T m else 0) μ' := by
  obtain ⟨hT, hC, hE, h3⟩ := id hI
  refine cal_ex (P := fun μ' => FQ μ μ' ∧ MO μ' T) rfl ?_
  show Rn 101 B101_0 [(9, 0), (0, m)] [] μ _
  have h1 : ∀ ν, FQ μ ν → MO ν T → ν 0 9 = 0 → At 101 1 [(9, 0), (0, m)] [] ν (fun a μ' => a = (0, if 0 ≤ m ∧ m < 256 then ow T m else 0) ∧ FQ μ μ' ∧ MO μ' T) := by
    intro ν f1 m1 z1
    rw [t101_1]
    simp only [t101_0, t101_3, B101_0, B101_1, B101_2, B101_3, Classical.not_not, Prod.mk.injEq, m_l, m_lp, m_lq, m_ps, m_ws, m_en, List.replicate, if_true, if_false, reduceIte, true_and, and_true, false_and, and_false, true_or, or_true, false_or, or_false, and_self, or_self, not_true_eq_false, not_false_eq_true, ne_eq, Nat.reduceLeDiff, Nat.reduceEqDiff, Nat.reduceAdd, Int.reduceLE, Int.reduceLT, Int.reduceEq, Int.reduceNe, Int.reduceAdd, Int.reduceNeg, Nat.reduceSub, Nat.succ_ne_zero, Nat.not_succ_le_zero, Nat.reduceMul, Int.reduceMul, Int.reduceSub, Int.reduceToNat, Nat.zero_le, Nat.reduceLT, r_0, r_1, r_2, r_3, r_4, r_5, r_6, r_7, r_9, r_10, r_11, r_12, r_13, r_14, r_15, r_16, r_17, r_18, r_19, r_20_0, r_21_0, r_20_1, r_21_1, r_20_2, r_21_2, r_20_3, r_21_3, r_20_4, r_21_4, r_20_5, r_21_5, r_22_0, r_22_1, r_23, r_24, r_25, r_26, r_27, r_28, r_29, r_30_0, r_30_1, r_30_2, r_31, r_31b, r_32, r_33, r_33b, r_33c, r_34, r_34b, r_35, r_45, r_46, r_47_0, r_47_1, r_40, r_50, r_51, r_41_0, r_41_1, r_42, r_43, r_44, r_36_0, r_37_0, r_38_0, r_48_0, r_36_1, r_37_1, r_38_1, r_48_1, r_36_2, r_37_2, r_38_2, r_48_2, r_36_3, r_37_3, r_36_4, r_37_4, r_36_5, r_37_5, r_39, r_8, al_13, al_14, al_15, al_16, al_18, al_19, al_25, al_26, al_27, al_28, al_29, al_30, al_31, al_32, al_33, al_34, al_35, al_36, al_37, al_38, al_39, al_40, al_41, al_42, al_43, al_44, al_45, al_46, al_48, al_49, al_50, al_51, al_52, al_53, al_54, al_55, al_56, al_57, al_58, al_59, al_60, al_61, al_62, al_63, al_64, al_65, al_66, al_67, al_68, al_69, al_70, rf_0_0, rf_0_1, rf_0_2, rf_0_3, rf_0_4, rf_0_5, rf_0_6, rf_0_7, rf_0_8, rf_0_10, rf_0_11, rf_1_0, rf_1_1, rf_1_2, rf_2_0, rf_2_1, rf_2_2, rf_3_0, rf_3_1, rf_3_2, rf_4_0, rf_4_1, rf_4_2, rf_5_0, rf_5_1, rf_5_2, rf_6_0, rf_6_1, rf_7_0, rf_7_1, rf_8_0, rf_8_1, rf_8_5, rf_8_6, rf_8_7, rf_8_8, rf_8_9, rf_9_0, rf_10_0, rf_11_0, rf_12_0, rf_47_0, rf_47_1, rf_47_2, rf_47_3, rf_47_5, rf_47_6, rf_47_8, rf_47_10, rf_47_12, rf_47_14, rf_47_15, rf_47_16, rf_47_17, rf_47_18, rf_47_19, rf_47_20, rf_47_21, rf_47_22, rf_47_23, rf_47_24, rf_47_26, rf_47_27, rf_47_29, rf_17, rf_20, rf_21, rf_22, rf_23, rf_24, rl_17, rl_20, rl_21, rl_22, rl_23, rl_24, c_isBelow, b0, b1]
    by_cases hm : 0 ≤ m ∧ m < 256
    · simp only [hm, Classical.not_not, Prod.mk.injEq, m_l, m_lp, m_lq, m_ps, m_ws, m_en, List.replicate, if_true, if_false, reduceIte, true_and, and_true, false_and, and_false, true_or, or_true, false_or, or_false, and_self, or_self, not_true_eq_false, not_false_eq_true, ne_eq, Nat.reduceLeDiff, Nat.reduceEqDiff, Nat.reduceAdd, Int.reduceLE, Int.reduceLT, Int.reduceEq, Int.reduceNe, Int.reduceAdd, Int.reduceNeg, Nat.reduceSub, Nat.succ_ne_zero, Nat.not_succ_le_zero, Nat.reduceMul, Int.reduceMul, Int.reduceSub, Int.reduceToNat, Nat.zero_le, Nat.reduceLT]
      exact c_owL (hI.fq f1) m1 z1 hm (fun μ' f2 m2 => ⟨rfl, f1.tr f2, m2⟩)
    · simp only [hm, Classical.not_not, Prod.mk.injEq, m_l, m_lp, m_lq, m_ps, m_ws, m_en, List.replicate, if_true, if_false, reduceIte, true_and, and_true, false_and, and_false, true_or, or_true, false_or, or_false, and_self, or_self, not_true_eq_false, not_false_eq_true, ne_eq, Nat.reduceLeDiff, Nat.reduceEqDiff, Nat.reduceAdd, Int.reduceLE, Int.reduceLT, Int.reduceEq, Int.reduceNe, Int.reduceAdd, Int.reduceNeg, Nat.reduceSub, Nat.succ_ne_zero, Nat.not_succ_le_zero, Nat.reduceMul, Int.reduceMul, Int.reduceSub, Int.reduceToNat, Nat.zero_le, Nat.reduceLT]
      exact ⟨f1, m1⟩
  have h2 := h1 μ (FQ.rf μ) hM
  have h3 : At 101 1 [(9, 0), (0, m)] [] (m_w (m_fl μ 18 (-1) ((256 : Nat) : Int)) 0 9 0) (fun a μ' => a = (0, if 0 ≤ m ∧ m < 256 then ow T m else 0) ∧ FQ μ μ' ∧ MO μ' T) := by
    refine h1 _ ⟨fun a h1 _ _ h4 _ _ _ => by rw [mw_ne h1, fl_ne h4], fun j hj => by rw [mw_at, if_neg hj, fl_ne (by decide)]⟩ ⟨?_, fun q k k0 k1 => ?_⟩ ?_
    · rw [mw_at, if_pos rfl]; exact Or.inl rfl
    · rw [mw_ne (by decide), fl_at (n := ((256 : Nat) : Int)) k0 k1]; exact Or.inl rfl
    · rw [mw_at, if_pos rfl]
  have hf := j_fill μ 18 (-1) 256 (by decide) rfl (by decide)
  simp only [t101_0, t101_3, B101_0, B101_1, B101_2, B101_3, Classical.not_not, Prod.mk.injEq, m_l, m_lp, m_lq, m_ps, m_ws, m_en, List.replicate, if_true, if_false, reduceIte, true_and, and_true, false_and, and_false, true_or, or_true, false_or, or_false, and_self, or_self, not_true_eq_false, not_false_eq_true, ne_eq, Nat.reduceLeDiff, Nat.reduceEqDiff, Nat.reduceAdd, Int.reduceLE, Int.reduceLT, Int.reduceEq, Int.reduceNe, Int.reduceAdd, Int.reduceNeg, Nat.reduceSub, Nat.succ_ne_zero, Nat.not_succ_le_zero, Nat.reduceMul, Int.reduceMul, Int.reduceSub, Int.reduceToNat, Nat.zero_le, Nat.reduceLT, r_0, r_1, r_2, r_3, r_4, r_5, r_6, r_7, r_9, r_10, r_11, r_12, r_13, r_14, r_15, r_16, r_17, r_18, r_19, r_20_0, r_21_0, r_20_1, r_21_1, r_20_2, r_21_2, r_20_3, r_21_3, r_20_4, r_21_4, r_20_5, r_21_5, r_22_0, r_22_1, r_23, r_24, r_25, r_26, r_27, r_28, r_29, r_30_0, r_30_1, r_30_2, r_31, r_31b, r_32, r_33, r_33b, r_33c, r_34, r_34b, r_35, r_45, r_46, r_47_0, r_47_1, r_40, r_50, r_51, r_41_0, r_41_1, r_42, r_43, r_44, r_36_0, r_37_0, r_38_0, r_48_0, r_36_1, r_37_1, r_38_1, r_48_1, r_36_2, r_37_2, r_38_2, r_48_2, r_36_3, r_37_3, r_36_4, r_37_4, r_36_5, r_37_5, r_39, r_8, al_13, al_14, al_15, al_16, al_18, al_19, al_25, al_26, al_27, al_28, al_29, al_30, al_31, al_32, al_33, al_34, al_35, al_36, al_37, al_38, al_39, al_40, al_41, al_42, al_43, al_44, al_45, al_46, al_48, al_49, al_50, al_51, al_52, al_53, al_54, al_55, al_56, al_57, al_58, al_59, al_60, al_61, al_62, al_63, al_64, al_65, al_66, al_67, al_68, al_69, al_70, rf_0_0, rf_0_1, rf_0_2, rf_0_3, rf_0_4, rf_0_5, rf_0_6, rf_0_7, rf_0_8, rf_0_10, rf_0_11, rf_1_0, rf_1_1, rf_1_2, rf_2_0, rf_2_1, rf_2_2, rf_3_0, rf_3_1, rf_3_2, rf_4_0, rf_4_1, rf_4_2, rf_5_0, rf_5_1, rf_5_2, rf_6_0, rf_6_1, rf_7_0, rf_7_1, rf_8_0, rf_8_1, rf_8_5, rf_8_6, rf_8_7, rf_8_8, rf_8_9, rf_9_0, rf_10_0, rf_11_0, rf_12_0, rf_47_0, rf_47_1, rf_47_2, rf_47_3, rf_47_5, rf_47_6, rf_47_8, rf_47_10, rf_47_12, rf_47_14, rf_47_15, rf_47_16, rf_47_17, rf_47_18, rf_47_19, rf_47_20, rf_47_21, rf_47_22, rf_47_23, rf_47_24, rf_47_26, rf_47_27, rf_47_29, rf_17, rf_20, rf_21, rf_22, rf_23, rf_24, rl_17, rl_20, rl_21, rl_22, rl_23, rl_24, hf]
  have := hM.1
  grind
