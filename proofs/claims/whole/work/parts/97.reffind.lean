set_option maxRecDepth 100000 in
theorem pop_up : ∀ n : Fin 8, ∀ x : Fin 256, x.val < 2 ^ n.val → bcS (m_i 4 (x.val : Int) (m_i 5 1 (n.val : Int))) = bcS (x.val : Int) + 1 ∧ m_i 4 (x.val : Int) (m_i 5 1 (n.val : Int)) = (x.val : Int) + 2 ^ n.val := by decide +kernel
set_option maxRecDepth 100000 in
theorem pop_dn : ∀ x : Fin 256, x.val ≠ 0 → 0 ≤ m_i 3 (x.val : Int) (m_i 1 (x.val : Int) 1) ∧ m_i 3 (x.val : Int) (m_i 1 (x.val : Int) 1) < (x.val : Int) ∧ bcS (x.val : Int) = bcS (m_i 3 (x.val : Int) (m_i 1 (x.val : Int) 1)) + 1 := by decide +kernel
theorem pw8 : ∀ n : Fin 9, (2 : Int) ^ n.val ≤ 256 ∧ ((2 : Nat) ^ n.val : Nat) = ((2 : Int) ^ n.val) := by decide +kernel
theorem bt_ct (σ : MMem) (w : Int) : ∀ n : Nat, n ≤ 8 → (0 ≤ btN σ w n ∧ btN σ w n < 2 ^ n) ∧ bcS (btN σ w n) = ctN σ w n
  | 0, _ => by
    refine ⟨⟨by simp [btN], by simp [btN]⟩, ?_⟩
    exact pair_0.1
  | n + 1, h => by
    have ih := bt_ct σ w n (by omega)
    have hp := pw8 ⟨n, by omega⟩
    have hp2 := pw8 ⟨n + 1, by omega⟩
    have e2 : (2 : Int) ^ (n + 1) = 2 ^ n * 2 := Int.pow_succ 2 n
    have hn0 : (0 : Int) < 2 ^ n := Int.pow_pos (by decide)
    rw [btN, ctN]
    by_cases q : σ 1 n = w
    · rw [if_pos q, if_pos q]
      have hu := pop_up ⟨n, by omega⟩ ⟨(btN σ w n).toNat, by have := hp.1; simp only at this; omega⟩ (by
        have := hp.2
        simp only at this ⊢
        omega)
      simp only [show (((btN σ w n).toNat : Nat) : Int) = btN σ w n by omega] at hu
      rw [hu.1, hu.2, ih.2]
      exact ⟨⟨by omega, by omega⟩, rfl⟩
    · rw [if_neg q, if_neg q]
      exact ⟨⟨by omega, by omega⟩, ih.2⟩
theorem bcS_in : ∀ x : Fin 256, 0 ≤ bcS (x.val : Int) ∧ bcS (x.val : Int) ≤ 8 := by decide +kernel
theorem d_onesL {μ : MMem} {x0 r : Int} (hr8 : r ≤ 8) {Q : MVal → MMem → Prop} (h : Q (0, r) μ) : ∀ (m x : Nat) (n : Int), x < m → x < 256 → 0 ≤ n → n + bcS (x : Int) = r → At 106 1 [(0, x0), (0, n), (0, (x : Int))] [] μ Q := by
  intro m
  induction m with
  | zero => intro x n hm; omega
  | succ m ih =>
    intro x n hm hx h0 hr
    have hin0 := bcS_in ⟨x, hx⟩
    simp only at hin0
    have hin := bcS_in ⟨x, hx⟩
    rw [t106_1]
    by_cases q : x = 0
    · subst q
      have e : bcS ((0 : Nat) : Int) = 0 := pair_0.1
      simp only [t106_0, t106_2, B106_0, B106_1, B106_2, Classical.not_not, Prod.mk.injEq, m_l, m_lp, m_lq, m_ps, m_ws, m_en, List.replicate, if_true, if_false, reduceIte, true_and, and_true, false_and, and_false, true_or, or_true, false_or, or_false, and_self, or_self, not_true_eq_false, not_false_eq_true, ne_eq, Nat.reduceLeDiff, Nat.reduceEqDiff, Nat.reduceAdd, Int.reduceLE, Int.reduceLT, Int.reduceEq, Int.reduceNe, Int.reduceAdd, Int.reduceNeg, Nat.reduceSub, Nat.succ_ne_zero, Nat.not_succ_le_zero, Nat.reduceMul, Int.reduceMul, Int.reduceSub, Int.reduceToNat, Nat.zero_le, Nat.reduceLT, r_0, r_1, r_2, r_3, r_4, r_5, r_6, r_7, r_9, r_10, r_11, r_12, r_13, r_14, r_15, r_16, r_17, r_18, r_19, r_20_0, r_21_0, r_20_1, r_21_1, r_20_2, r_21_2, r_20_3, r_21_3, r_20_4, r_21_4, r_20_5, r_21_5, r_22_0, r_22_1, r_23, r_24, r_25, r_26, r_27, r_28, r_29, r_30_0, r_30_1, r_30_2, r_31, r_31b, r_32, r_33, r_33b, r_33c, r_34, r_34b, r_35, r_45, r_46, r_47_0, r_47_1, r_40, r_50, r_51, r_41_0, r_41_1, r_42, r_43, r_44, r_36_0, r_37_0, r_38_0, r_48_0, r_36_1, r_37_1, r_38_1, r_48_1, r_36_2, r_37_2, r_38_2, r_48_2, r_36_3, r_37_3, r_36_4, r_37_4, r_36_5, r_37_5, r_39, r_8, al_13, al_14, al_15, al_16, al_18, al_19, al_25, al_26, al_27, al_28, al_29, al_30, al_31, al_32, al_33, al_34, al_35, al_36, al_37, al_38, al_39, al_40, al_41, al_42, al_43, al_44, al_45, al_46, al_48, al_49, al_50, al_51, al_52, al_53, al_54, al_55, al_56, al_57, al_58, al_59, al_60, al_61, al_62, al_63, al_64, al_65, al_66, al_67, al_68, al_69, al_70, rf_0_0, rf_0_1, rf_0_2, rf_0_3, rf_0_4, rf_0_5, rf_0_6, rf_0_7, rf_0_8, rf_0_10, rf_0_11, rf_1_0, rf_1_1, rf_1_2, rf_2_0, rf_2_1, rf_2_2, rf_3_0, rf_3_1, rf_3_2, rf_4_0, rf_4_1, rf_4_2, rf_5_0, rf_5_1, rf_5_2, rf_6_0, rf_6_1, rf_7_0, rf_7_1, rf_8_0, rf_8_1, rf_8_5, rf_8_6, rf_8_7, rf_8_8, rf_8_9, rf_9_0, rf_10_0, rf_11_0, rf_12_0, rf_47_0, rf_47_1, rf_47_2, rf_47_3, rf_47_5, rf_47_6, rf_47_8, rf_47_10, rf_47_12, rf_47_14, rf_47_15, rf_47_16, rf_47_17, rf_47_18, rf_47_19, rf_47_20, rf_47_21, rf_47_22, rf_47_23, rf_47_24, rf_47_26, rf_47_27, rf_47_29, rf_17, rf_20, rf_21, rf_22, rf_23, rf_24, rl_17, rl_20, rl_21, rl_22, rl_23, rl_24, nc0]
      rw [show n = r by omega]
      exact h
    · have hd := pop_dn ⟨x, hx⟩ q
      simp only at hd hin
      have ih := ih (m_i 3 (x : Int) (m_i 1 (x : Int) 1)).toNat (n + 1) (by omega) (by omega) (by omega)
      have ez : ((x : Int) = 0) = False := eq_false (by omega)
      have hin2 := bcS_in ⟨(m_i 3 (x : Int) (m_i 1 (x : Int) 1)).toNat, by omega⟩
      rw [show (((m_i 3 (x : Int) (m_i 1 (x : Int) 1)).toNat : Nat) : Int) = m_i 3 (x : Int) (m_i 1 (x : Int) 1) by omega] at ih
      simp only [show (((m_i 3 (x : Int) (m_i 1 (x : Int) 1)).toNat : Nat) : Int) = m_i 3 (x : Int) (m_i 1 (x : Int) 1) by omega] at hin2
      simp only [t106_0, t106_2, B106_0, B106_1, B106_2, Classical.not_not, Prod.mk.injEq, m_l, m_lp, m_lq, m_ps, m_ws, m_en, List.replicate, if_true, if_false, reduceIte, true_and, and_true, false_and, and_false, true_or, or_true, false_or, or_false, and_self, or_self, not_true_eq_false, not_false_eq_true, ne_eq, Nat.reduceLeDiff, Nat.reduceEqDiff, Nat.reduceAdd, Int.reduceLE, Int.reduceLT, Int.reduceEq, Int.reduceNe, Int.reduceAdd, Int.reduceNeg, Nat.reduceSub, Nat.succ_ne_zero, Nat.not_succ_le_zero, Nat.reduceMul, Int.reduceMul, Int.reduceSub, Int.reduceToNat, Nat.zero_le, Nat.reduceLT, r_0, r_1, r_2, r_3, r_4, r_5, r_6, r_7, r_9, r_10, r_11, r_12, r_13, r_14, r_15, r_16, r_17, r_18, r_19, r_20_0, r_21_0, r_20_1, r_21_1, r_20_2, r_21_2, r_20_3, r_21_3, r_20_4, r_21_4, r_20_5, r_21_5, r_22_0, r_22_1, r_23, r_24, r_25, r_26, r_27, r_28, r_29, r_30_0, r_30_1, r_30_2, r_31, r_31b, r_32, r_33, r_33b, r_33c, r_34, r_34b, r_35, r_45, r_46, r_47_0, r_47_1, r_40, r_50, r_51, r_41_0, r_41_1, r_42, r_43, r_44, r_36_0, r_37_0, r_38_0, r_48_0, r_36_1, r_37_1, r_38_1, r_48_1, r_36_2, r_37_2, r_38_2, r_48_2, r_36_3, r_37_3, r_36_4, r_37_4, r_36_5, r_37_5, r_39, r_8, al_13, al_14, al_15, al_16, al_18, al_19, al_25, al_26, al_27, al_28, al_29, al_30, al_31, al_32, al_33, al_34, al_35, al_36, al_37, al_38, al_39, al_40, al_41, al_42, al_43, al_44, al_45, al_46, al_48, al_49, al_50, al_51, al_52, al_53, al_54, al_55, al_56, al_57, al_58, al_59, al_60, al_61, al_62, al_63, al_64, al_65, al_66, al_67, al_68, al_69, al_70, rf_0_0, rf_0_1, rf_0_2, rf_0_3, rf_0_4, rf_0_5, rf_0_6, rf_0_7, rf_0_8, rf_0_10, rf_0_11, rf_1_0, rf_1_1, rf_1_2, rf_2_0, rf_2_1, rf_2_2, rf_3_0, rf_3_1, rf_3_2, rf_4_0, rf_4_1, rf_4_2, rf_5_0, rf_5_1, rf_5_2, rf_6_0, rf_6_1, rf_7_0, rf_7_1, rf_8_0, rf_8_1, rf_8_5, rf_8_6, rf_8_7, rf_8_8, rf_8_9, rf_9_0, rf_10_0, rf_11_0, rf_12_0, rf_47_0, rf_47_1, rf_47_2, rf_47_3, rf_47_5, rf_47_6, rf_47_8, rf_47_10, rf_47_12, rf_47_14, rf_47_15, rf_47_16, rf_47_17, rf_47_18, rf_47_19, rf_47_20, rf_47_21, rf_47_22, rf_47_23, rf_47_24, rf_47_26, rf_47_27, rf_47_29, rf_17, rf_20, rf_21, rf_22, rf_23, rf_24, rl_17, rl_20, rl_21, rl_22, rl_23, rl_24, ez]
      rw [m_i0 (by omega) (by omega)]
      exact ih (by omega)
theorem d_ones (x : Int) (hx : 0 ≤ x ∧ x < 256) (μ : MMem) (Q : MVal → MMem → Prop) : Cal 106 [(0, x)] μ Q = Q (0, bcS x) μ := by
  refine cal_eq rfl ?_ Q
  show Rn 106 B106_0 [(0, x), (14, 0), (14, 0)] [] μ _
  simp only [r_0, r_1, r_2, r_3, r_4, r_5, r_6, r_7, r_9, r_10, r_11, r_12, r_13, r_14, r_15, r_16, r_17, r_18, r_19, r_20_0, r_21_0, r_20_1, r_21_1, r_20_2, r_21_2, r_20_3, r_21_3, r_20_4, r_21_4, r_20_5, r_21_5, r_22_0, r_22_1, r_23, r_24, r_25, r_26, r_27, r_28, r_29, r_30_0, r_30_1, r_30_2, r_31, r_31b, r_32, r_33, r_33b, r_33c, r_34, r_34b, r_35, r_45, r_46, r_47_0, r_47_1, r_40, r_50, r_51, r_41_0, r_41_1, r_42, r_43, r_44, r_36_0, r_37_0, r_38_0, r_48_0, r_36_1, r_37_1, r_38_1, r_48_1, r_36_2, r_37_2, r_38_2, r_48_2, r_36_3, r_37_3, r_36_4, r_37_4, r_36_5, r_37_5, r_39, r_8, al_13, al_14, al_15, al_16, al_18, al_19, al_25, al_26, al_27, al_28, al_29, al_30, al_31, al_32, al_33, al_34, al_35, al_36, al_37, al_38, al_39, al_40, al_41, al_42, al_43, al_44, al_45, al_46, al_48, al_49, al_50, al_51, al_52, al_53, al_54, al_55, al_56, al_57, al_58, al_59, al_60, al_61, al_62, al_63, al_64, al_65, al_66, al_67, al_68, al_69, al_70, rf_0_0, rf_0_1, rf_0_2, rf_0_3, rf_0_4, rf_0_5, rf_0_6, rf_0_7, rf_0_8, rf_0_10, rf_0_11, rf_1_0, rf_1_1, rf_1_2, rf_2_0, rf_2_1, rf_2_2, rf_3_0, rf_3_1, rf_3_2, rf_4_0, rf_4_1, rf_4_2, rf_5_0, rf_5_1, rf_5_2, rf_6_0, rf_6_1, rf_7_0, rf_7_1, rf_8_0, rf_8_1, rf_8_5, rf_8_6, rf_8_7, rf_8_8, rf_8_9, rf_9_0, rf_10_0, rf_11_0, rf_12_0, rf_47_0, rf_47_1, rf_47_2, rf_47_3, rf_47_5, rf_47_6, rf_47_8, rf_47_10, rf_47_12, rf_47_14, rf_47_15, rf_47_16, rf_47_17, rf_47_18, rf_47_19, rf_47_20, rf_47_21, rf_47_22, rf_47_23, rf_47_24, rf_47_26, rf_47_27, rf_47_29, rf_17, rf_20, rf_21, rf_22, rf_23, rf_24, rl_17, rl_20, rl_21, rl_22, rl_23, rl_24, Classical.not_not, Prod.mk.injEq, m_l, m_lp, m_lq, m_ps, m_ws, m_en, List.replicate, if_true, if_false, reduceIte, true_and, and_true, false_and, and_false, true_or, or_true, false_or, or_false, and_self, or_self, not_true_eq_false, not_false_eq_true, ne_eq, Nat.reduceLeDiff, Nat.reduceEqDiff, Nat.reduceAdd, Int.reduceLE, Int.reduceLT, Int.reduceEq, Int.reduceNe, Int.reduceAdd, Int.reduceNeg, Nat.reduceSub, Nat.succ_ne_zero, Nat.not_succ_le_zero, Nat.reduceMul, Int.reduceMul, Int.reduceSub, Int.reduceToNat, Nat.zero_le, Nat.reduceLT, t106_0, t106_2, B106_0, B106_1, B106_2]
  have hb := bcS_in ⟨x.toNat, by omega⟩
  simp only [show ((x.toNat : Nat) : Int) = x by omega] at hb
  have := d_onesL (μ := μ) (x0 := x) (r := bcS x) hb.2 (Q := fun a b => a = (0, bcS x) ∧ b = μ) ⟨rfl, rfl⟩ 256 x.toNat 0 (by omega) (by omega) (by omega) (by rw [show ((x.toNat : Nat) : Int) = x by omega]; omega)
  rw [show ((x.toNat : Nat) : Int) = x by omega] at this
  exact this
/-- what the reference's questions may change, told numbers put back -/
def FX (μ ν : MMem) : Prop := (∀ a, a ≠ 47 → a ≠ 51 → (a < 57 ∨ 67 < a) → a ≠ 69 → a ≠ 70 → ν a = μ a) ∧ ∀ j, j ≠ 28 → ν 47 j = μ 47 j
def FM (μ ν : MMem) : Prop := (∀ a, a ≠ 47 → a ≠ 51 → a ≠ 54 → a ≠ 55 → (a < 57 ∨ 67 < a) → a ≠ 69 → a ≠ 70 → ν a = μ a) ∧ ∀ j, j ≠ 7 → j ≠ 9 → j ≠ 28 → ν 47 j = μ 47 j
theorem FX.rf (μ : MMem) : FX μ μ := ⟨fun _ _ _ _ _ _ => rfl, fun _ _ => rfl⟩
theorem FM.rf (μ : MMem) : FM μ μ := ⟨fun _ _ _ _ _ _ _ _ => rfl, fun _ _ _ _ => rfl⟩
theorem FX.tr {μ ν ξ : MMem} (h : FX μ ν) (g : FX ν ξ) : FX μ ξ := ⟨fun a h1 h2 h3 h4 h5 => (g.1 a h1 h2 h3 h4 h5).trans (h.1 a h1 h2 h3 h4 h5), fun j hj => (g.2 j hj).trans (h.2 j hj)⟩
theorem FM.tr {μ ν ξ : MMem} (h : FM μ ν) (g : FM ν ξ) : FM μ ξ := ⟨fun a h1 h2 h3 h4 h5 h6 h7 => (g.1 a h1 h2 h3 h4 h5 h6 h7).trans (h.1 a h1 h2 h3 h4 h5 h6 h7), fun j h1 h2 h3 => (g.2 j h1 h2 h3).trans (h.2 j h1 h2 h3)⟩
theorem FX.fm {μ ν : MMem} (h : FX μ ν) : FM μ ν := ⟨fun a h1 h2 _ _ h5 h6 h7 => h.1 a h1 h2 h5 h6 h7, fun j _ _ h3 => h.2 j h3⟩
theorem FL.fx {μ ν : MMem} (h : FL μ ν) : FX μ ν := ⟨fun a _ _ h3 _ _ => h a h3, fun j _ => by rw [h 47 (by decide)]⟩
theorem DT.fx {μ ν T : MMem} (h : DT μ T) (hf : FX μ ν) : DT ν T := by
  unfold DT at *
  rw [hf.1 54 (by decide) (by decide) (by decide) (by decide) (by decide), hf.1 55 (by decide) (by decide) (by decide) (by decide) (by decide), hf.1 56 (by decide) (by decide) (by decide) (by decide) (by decide), hf.2 7 (by decide), hf.2 9 (by decide), hf.2 11 (by decide), hf.2 13 (by decide)]
  exact h
/-- both sides hold the same texts -/
def XR (μ : MMem) : Prop := μ 53 0 = μ 6 2 ∧ μ 53 1 = μ 7 2 ∧ (∀ i, 0 ≤ i → i < μ 6 2 → μ 52 i = μ 40 i) ∧ ∀ i, 0 ≤ i → i < μ 7 2 → μ 52 (40 + i) = μ 41 i
/-- and the same events -/
def DE (μ T : MMem) : Prop := μ 47 11 = T 0 2 ∧ μ 47 13 = T 0 3 ∧ ∀ j, 0 ≤ j → j < T 0 2 → μ 56 (3 * j) = T 7 j ∧ μ 56 (3 * j + 1) = T 8 j ∧ μ 56 (3 * j + 2) = T 9 j
def IN (μ T : MMem) : Prop := CI μ T ∧ XH μ ∧ XB μ ∧ XR μ ∧ DE μ T
theorem fcC_pos {vf : Int → Int → Int} {P : Nat} {s : Int → Int} {n : Nat} (h : 0 < fcC vf P s n) : fcF vf P s n = -1 ∧ fcC vf P s n = (((n + 1) / P : Nat) : Int) := by
  unfold fcC at *
  by_cases q : fcF vf P s n = -1
  · rw [if_pos q]
    exact ⟨q, rfl⟩
  · rw [if_neg q] at h
    omega
theorem d_rdH {μ T : MMem} (hC : CT μ T) (hX : XH μ) (hr : XR μ) : ∃ μ' : MMem, (FRH μ μ' ∧ μ' 47 7 = T 0 0 ∧ ∀ j, 0 ≤ j → j < T 0 0 → μ' 54 (2 * j) = T 1 j ∧ μ' 54 (2 * j + 1) = T 2 j) ∧ ∀ Q : MVal → MMem → Prop, Cal 125 [(10, 47)] μ Q = Q (0, μ 6 3) μ' := by
  obtain ⟨x1, x2, x3, x4, x5⟩ := hX
  obtain ⟨r1, r2, r3, r4⟩ := hr
  have en : (((μ 6 2).toNat : Nat) : Int) = μ 6 2 := by omega
  obtain ⟨μ1, ⟨t1, t2, t3⟩, c1⟩ := d_readsH (μ := μ) (n := (μ 6 2).toNat) (s := μ 40) (by omega) (by rw [r1]; omega) (fun i i0 i1 => by
    rw [en] at i1
    rw [Int.zero_add]
    exact ⟨r3 i i0 i1, x2 i i0 i1⟩)
  rw [← x3] at c1
  refine ⟨μ1, ⟨t3, ?_, fun j j0 j1 => ?_⟩, c1⟩
  · rw [t1, ← x4]
    exact hC.1
  · have hp : 0 < fcC hvS 3 (μ 40) (μ 6 2).toNat := by rw [← x4, hC.1]; omega
    obtain ⟨p1, p2⟩ := fcC_pos hp
    have hd := t2 p1
    have hw := x5 (by rw [x3]; exact p1)
    have hc := hC.2.2.1 j j0 j1
    have hj : (j : Int) < (((μ 6 2).toNat + 1) / 3 : Nat) := by rw [← p2, ← x4, hC.1]; exact j1
    have a1 := hd j.toNat 0 (by decide) (by omega)
    have a2 := hd j.toNat 1 (by decide) (by omega)
    have b1 := hw j.toNat 0 (by decide) (by omega)
    have b2 := hw j.toNat 1 (by decide) (by omega)
    have ej : ((j.toNat : Nat) : Int) = j := by omega
    simp only [ej, nc0, nc1, Int.add_zero] at a1 a2 b1 b2
    rw [a1, a2, ← b1, ← b2]
    exact hc
theorem d_rdB {μ T : MMem} (hC : CT μ T) (hX : XB μ) (hr : XR μ) : ∃ μ' : MMem, (FRB μ μ' ∧ μ' 47 9 = T 0 1 ∧ ∀ j, 0 ≤ j → j < T 0 1 → μ' 55 (4 * j) = T 3 j ∧ μ' 55 (4 * j + 1) = T 4 j ∧ μ' 55 (4 * j + 2) = T 5 j ∧ μ' 55 (4 * j + 3) = T 6 j) ∧ ∀ Q : MVal → MMem → Prop, Cal 128 [(10, 47)] μ Q = Q (0, μ 7 3) μ' := by
  obtain ⟨x1, x2, x3, x4, x5⟩ := hX
  obtain ⟨r1, r2, r3, r4⟩ := hr
  have en : (((μ 7 2).toNat : Nat) : Int) = μ 7 2 := by omega
  obtain ⟨μ1, ⟨t1, t2, t3⟩, c1⟩ := d_readsB (μ := μ) (n := (μ 7 2).toNat) (s := μ 41) (by omega) (by rw [r2]; omega) (fun i i0 i1 => by
    rw [en] at i1
    exact ⟨r4 i i0 i1, x2 i i0 i1⟩)
  rw [← x3] at c1
  refine ⟨μ1, ⟨t3, ?_, fun j j0 j1 => ?_⟩, c1⟩
  · rw [t1, ← x4]
    exact hC.2.1
  · have hp : 0 < fcC bvS 5 (μ 41) (μ 7 2).toNat := by rw [← x4, hC.2.1]; omega
    obtain ⟨p1, p2⟩ := fcC_pos hp
    have hd := t2 p1
    have hw := x5 (by rw [x3]; exact p1)
    have hc := hC.2.2.2 j j0 j1
    have hj : (j : Int) < (((μ 7 2).toNat + 1) / 5 : Nat) := by rw [← p2, ← x4, hC.2.1]; exact j1
    have a1 := hd j.toNat 0 (by decide) (by omega)
    have a2 := hd j.toNat 1 (by decide) (by omega)
    have a3 := hd j.toNat 2 (by decide) (by omega)
    have a4 := hd j.toNat 3 (by decide) (by omega)
    have b1 := hw j.toNat 0 (by decide) (by omega)
    have b2 := hw j.toNat 1 (by decide) (by omega)
    have b3 := hw j.toNat 2 (by decide) (by omega)
    have b4 := hw j.toNat 3 (by decide) (by omega)
    have ej : ((j.toNat : Nat) : Int) = j := by omega
    have nc3 : ((3 : Nat) : Int) = 3 := rfl
    simp only [ej, nc0, nc1, nc2, nc3, Int.add_zero] at a1 a2 a3 a4 b1 b2 b3 b4
    rw [a1, a2, a3, a4, ← b1, ← b2, ← b3, ← b4]
    exact hc
theorem XR.frh {μ ν : MMem} (h : XR μ) (hf : FRH μ ν) : XR ν := by
  unfold XR at *
  rw [hf.1 53 (by decide) (by decide), hf.1 6 (by decide) (by decide), hf.1 7 (by decide) (by decide), hf.1 52 (by decide) (by decide), hf.1 40 (by decide) (by decide), hf.1 41 (by decide) (by decide)]
  exact h
theorem XB.frh {μ ν : MMem} (h : XB μ) (hf : FRH μ ν) : XB ν := by
  unfold XB RWB at *
  have g : ∀ a : Int, a < 47 → ν a = μ a := fun a ha => hf.1 a (by omega) (by omega)
  rw [g 7 (by decide), g 41 (by decide), g 2 (by decide)]
  obtain ⟨h1, h2, h3, h4, h5⟩ := h
  refine ⟨h1, h2, h3, h4, fun q r c hc hr => ?_⟩
  rw [g (27 + (c : Int)) (by omega)]
  exact h5 q r c hc hr
theorem CT.frh {μ ν T : MMem} (h : CT μ T) (hf : ∀ a, a < 47 → ν a = μ a) : CT ν T := by
  unfold CT at *
  rw [hf 1 (by decide), hf 2 (by decide), hf 25 (by decide), hf 26 (by decide), hf 27 (by decide), hf 28 (by decide), hf 29 (by decide), hf 30 (by decide)]
  exact h
theorem d_find {T : MMem} (μ : MMem) (hI : IN μ T) : ∃ μ' : MMem, (FM μ μ' ∧ DT μ' T ∧ LV μ' T) ∧ ∀ Q : MVal → MMem → Prop, Cal 149 [(10, 47)] μ Q = Q (14, 0) μ' := by
  obtain ⟨⟨hT, hC, hE, h3⟩, hH, hB, hX, hD⟩ := hI
  obtain ⟨μ1, ⟨f1, s1, r1⟩, c1⟩ := d_rdH hC hH hX
  obtain ⟨μ2, ⟨f2, s2, r2⟩, c2⟩ := d_rdB (hC.frh (fun a ha => f1.1 a (by omega) (by omega))) (hB.frh f1) (hX.frh f1)
  have hDT : DT μ2 T := by
    refine ⟨?_, s2, ?_, ?_, ?_, r2, ?_⟩
    · rw [f2.2 7 (by decide)]; exact s1
    · rw [f2.2 11 (by decide), f1.2 11 (by decide)]; exact hD.1
    · rw [f2.2 13 (by decide), f1.2 13 (by decide)]; exact hD.2.1
    · rw [f2.1 54 (by decide) (by decide)]; exact r1
    · rw [f2.1 56 (by decide) (by decide), f1.1 56 (by decide) (by decide)]; exact hD.2.2
  obtain ⟨μ3, ⟨f3, l3⟩, c3⟩ := d_lives μ2 hT hDT
  refine cal_ex (P := fun μ' => FM μ μ' ∧ DT μ' T ∧ LV μ' T) rfl ?_
  show Rn 149 B149_0 [(10, 47)] [] μ _
  simp only [t149_0, B149_0, Classical.not_not, Prod.mk.injEq, m_l, m_lp, m_lq, m_ps, m_ws, m_en, List.replicate, if_true, if_false, reduceIte, true_and, and_true, false_and, and_false, true_or, or_true, false_or, or_false, and_self, or_self, not_true_eq_false, not_false_eq_true, ne_eq, Nat.reduceLeDiff, Nat.reduceEqDiff, Nat.reduceAdd, Int.reduceLE, Int.reduceLT, Int.reduceEq, Int.reduceNe, Int.reduceAdd, Int.reduceNeg, Nat.reduceSub, Nat.succ_ne_zero, Nat.not_succ_le_zero, Nat.reduceMul, Int.reduceMul, Int.reduceSub, Int.reduceToNat, Nat.zero_le, Nat.reduceLT, r_0, r_1, r_2, r_3, r_4, r_5, r_6, r_7, r_9, r_10, r_11, r_12, r_13, r_14, r_15, r_16, r_17, r_18, r_19, r_20_0, r_21_0, r_20_1, r_21_1, r_20_2, r_21_2, r_20_3, r_21_3, r_20_4, r_21_4, r_20_5, r_21_5, r_22_0, r_22_1, r_23, r_24, r_25, r_26, r_27, r_28, r_29, r_30_0, r_30_1, r_30_2, r_31, r_31b, r_32, r_33, r_33b, r_33c, r_34, r_34b, r_35, r_45, r_46, r_47_0, r_47_1, r_40, r_50, r_51, r_41_0, r_41_1, r_42, r_43, r_44, r_36_0, r_37_0, r_38_0, r_48_0, r_36_1, r_37_1, r_38_1, r_48_1, r_36_2, r_37_2, r_38_2, r_48_2, r_36_3, r_37_3, r_36_4, r_37_4, r_36_5, r_37_5, r_39, r_8, al_13, al_14, al_15, al_16, al_18, al_19, al_25, al_26, al_27, al_28, al_29, al_30, al_31, al_32, al_33, al_34, al_35, al_36, al_37, al_38, al_39, al_40, al_41, al_42, al_43, al_44, al_45, al_46, al_48, al_49, al_50, al_51, al_52, al_53, al_54, al_55, al_56, al_57, al_58, al_59, al_60, al_61, al_62, al_63, al_64, al_65, al_66, al_67, al_68, al_69, al_70, rf_0_0, rf_0_1, rf_0_2, rf_0_3, rf_0_4, rf_0_5, rf_0_6, rf_0_7, rf_0_8, rf_0_10, rf_0_11, rf_1_0, rf_1_1, rf_1_2, rf_2_0, rf_2_1, rf_2_2, rf_3_0, rf_3_1, rf_3_2, rf_4_0, rf_4_1, rf_4_2, rf_5_0, rf_5_1, rf_5_2, rf_6_0, rf_6_1, rf_7_0, rf_7_1, rf_8_0, rf_8_1, rf_8_5, rf_8_6, rf_8_7, rf_8_8, rf_8_9, rf_9_0, rf_10_0, rf_11_0, rf_12_0, rf_47_0, rf_47_1, rf_47_2, rf_47_3, rf_47_5, rf_47_6, rf_47_8, rf_47_10, rf_47_12, rf_47_14, rf_47_15, rf_47_16, rf_47_17, rf_47_18, rf_47_19, rf_47_20, rf_47_21, rf_47_22, rf_47_23, rf_47_24, rf_47_26, rf_47_27, rf_47_29, rf_17, rf_20, rf_21, rf_22, rf_23, rf_24, rl_17, rl_20, rl_21, rl_22, rl_23, rl_24, c1, c2, c3]
  refine ⟨?_, hDT.fl f3, l3⟩
  refine FM.tr ?_ f3.fx.fm
  refine ⟨fun a h1 h2 h4 h5 _ _ _ => (f2.1 a h1 h5).trans (f1.1 a h1 h4), fun j j1 j2 _ => (f2.2 j j2).trans (f1.2 j j1)⟩
