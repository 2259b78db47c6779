/-- the reference's rows with one number of a bride's changed -/
theorem DT.set {μ T : MMem} (h : DT μ T) {c k v : Int} (hc : c = 3 ∨ c = 4 ∨ c = 5) (hk : 0 ≤ k ∧ k < T 0 1) : DT (m_w μ 55 (4 * k + (c - 3)) v) (m_w T c k v) := by
  obtain ⟨h1, h2, h3, h4, h5, h6, h7⟩ := h
  have n0 : (0 : Int) ≠ c := by omega
  unfold DT
  rw [mw_ne n0, mw_ne (show (1 : Int) ≠ c by omega), mw_ne (show (2 : Int) ≠ c by omega), mw_ne (show (6 : Int) ≠ c by omega), mw_ne (show (7 : Int) ≠ c by omega), mw_ne (show (8 : Int) ≠ c by omega), mw_ne (show (9 : Int) ≠ c by omega), mw_ne (show (47 : Int) ≠ 55 by decide), mw_ne (show (54 : Int) ≠ 55 by decide), mw_ne (show (56 : Int) ≠ 55 by decide)]
  refine ⟨h1, h2, h3, h4, h5, fun j j0 j1 => ?_, h7⟩
  have := h6 j j0 j1
  simp only [mw8, true_and]
  rcases hc with rfl | rfl | rfl
  · have a1 : (4 * j = 4 * k + (3 - 3)) = (j = k) := propext ⟨fun q => by omega, fun q => by omega⟩
    have a2 : (4 * j + 1 = 4 * k + (3 - 3)) = False := eq_false (by omega)
    have a3 : (4 * j + 2 = 4 * k + (3 - 3)) = False := eq_false (by omega)
    have a4 : (4 * j + 3 = 4 * k + (3 - 3)) = False := eq_false (by omega)
    simp only [a1, a2, a3, a4, if_false, true_and, Int.reduceEq, false_and]
    grind
  · have a1 : (4 * j = 4 * k + (4 - 3)) = False := eq_false (by omega)
    have a2 : (4 * j + 1 = 4 * k + (4 - 3)) = (j = k) := propext ⟨fun q => by omega, fun q => by omega⟩
    have a3 : (4 * j + 2 = 4 * k + (4 - 3)) = False := eq_false (by omega)
    have a4 : (4 * j + 3 = 4 * k + (4 - 3)) = False := eq_false (by omega)
    simp only [a1, a2, a3, a4, if_false, true_and, Int.reduceEq, false_and]
    grind
  · have a1 : (4 * j = 4 * k + (5 - 3)) = False := eq_false (by omega)
    have a2 : (4 * j + 1 = 4 * k + (5 - 3)) = False := eq_false (by omega)
    have a3 : (4 * j + 2 = 4 * k + (5 - 3)) = (j = k) := propext ⟨fun q => by omega, fun q => by omega⟩
    have a4 : (4 * j + 3 = 4 * k + (5 - 3)) = False := eq_false (by omega)
    simp only [a1, a2, a3, a4, if_false, true_and, Int.reduceEq, false_and]
    grind
/-- while plans are tried: one place of the brides' row, and the world -/
def FZ (μ ν : MMem) (c p : Int) : Prop := (∀ a, a ≠ c → (a < 57 ∨ 67 < a) → ν a = μ a) ∧ ∀ j, j ≠ p → ν c j = μ c j
theorem FZ.fl {μ ν ξ : MMem} {c p : Int} (h : FZ μ ν c p) (hf : FL ν ξ) (hc : c < 57) : FZ μ ξ c p := ⟨fun a h1 h2 => (hf a h2).trans (h.1 a h1 h2), fun j hj => by rw [hf c (by omega)]; exact h.2 j hj⟩
theorem FZ.w {μ ν : MMem} {c p : Int} (h : FZ μ ν c p) (v : Int) : FZ μ (m_w ν c p v) c p := ⟨fun a h1 h2 => by rw [mw_ne h1]; exact h.1 a h1 h2, fun j hj => by rw [mw_at, if_neg hj]; exact h.2 j hj⟩
theorem FZ.end {μ ν : MMem} {c p : Int} (h : FZ μ ν c p) : FL μ (m_w ν c p (μ c p)) := by
  intro a ha
  by_cases e : a = c
  · subst e
    funext j
    rw [mw_at]
    split
    · rename_i q; rw [q]
    · rename_i q; exact h.2 j q
  · rw [mw_ne e]
    exact h.1 a e ha
theorem FZ.dt {μ ν T : MMem} {p v : Int} (h : FZ μ ν 55 p) (hD : DT (m_w μ 55 p v) T) : DT (m_w ν 55 p v) T := by
  have e55 : m_w ν 55 p v 55 = m_w μ 55 p v 55 := by
    funext j
    rw [mw_at, mw_at]
    split
    · rfl
    · rename_i q; exact h.2 j q
  have g : ∀ a : Int, a ≠ 55 → a < 57 → m_w ν 55 p v a = m_w μ 55 p v a := fun a h1 h2 => by rw [mw_ne h1, mw_ne h1]; exact h.1 a h1 (by omega)
  unfold DT at *
  rw [e55, g 47 (by decide) (by decide), g 54 (by decide) (by decide), g 56 (by decide) (by decide)]
  exact hD
def bsW (p : Int) : Int := if p = -1 then -1 else p % 32
def lsW (p : Int) : Int := if p = -1 then 999 else p / 32
theorem d_bestL {μ T : MMem} (hT : TW T) (hD : DT μ T) {c k n w col : Int} {v : Nat} (hcol : c = 3 + col) (hc : (c = 3 ∧ (v : Int) ≤ 6 ∧ n = -1) ∨ (c = 4 ∧ (v : Int) ≤ 24 ∧ n = -1) ∨ (c = 5 ∧ (v : Int) ≤ 9 ∧ n = k)) (hk : 0 ≤ k ∧ k < T 0 1) {Q : MVal → MMem → Prop} (h : ∀ μ', FL μ μ' → Q (0, ptS (bpN T c k v) w) μ') : ∀ (d b : Nat) (ν : MMem) (u : MVal), b + d = v → FZ μ ν 55 (4 * k + col) → (bpN T c k b = -1 ∨ (0 ≤ bpN T c k b ∧ bpN T c k b % 32 < b)) → At 166 1 [(10, 47), (0, k), (0, col), (0, (v : Int)), (0, n), (0, w), (0, 4 * k + col), (0, μ 55 (4 * k + col)), (0, bsW (bpN T c k b)), (0, lsW (bpN T c k b)), (0, (b : Int)), u] [] ν Q := by
  have h8 := hT.2.1
  intro d
  induction d with
  | zero =>
    intro b ν u hb hF hp
    have e : b = v := by omega
    subst e
    have := h _ hF.end
    have hpi := bpN_in hT (c := c) (k := k) b (by omega) (by omega) (by omega)
    rw [t166_1]
    simp only [t166_0, t166_2, t166_3, t166_4, t166_5, t166_6, t166_7, t166_8, B166_0, B166_1, B166_2, B166_3, B166_4, B166_5, B166_6, B166_7, B166_8, Classical.not_not, Prod.mk.injEq, m_l, m_lp, m_lq, m_ps, m_ws, m_en, List.replicate, if_true, if_false, reduceIte, true_and, and_true, false_and, and_false, true_or, or_true, false_or, or_false, and_self, or_self, not_true_eq_false, not_false_eq_true, ne_eq, Nat.reduceLeDiff, Nat.reduceEqDiff, Nat.reduceAdd, Int.reduceLE, Int.reduceLT, Int.reduceEq, Int.reduceNe, Int.reduceAdd, Int.reduceNeg, Nat.reduceSub, Nat.succ_ne_zero, Nat.not_succ_le_zero, Nat.reduceMul, Int.reduceMul, Int.reduceSub, Int.reduceToNat, Nat.zero_le, Nat.reduceLT, r_0, r_1, r_2, r_3, r_4, r_5, r_6, r_7, r_9, r_10, r_11, r_12, r_13, r_14, r_15, r_16, r_17, r_18, r_19, r_20_0, r_21_0, r_20_1, r_21_1, r_20_2, r_21_2, r_20_3, r_21_3, r_20_4, r_21_4, r_20_5, r_21_5, r_22_0, r_22_1, r_23, r_24, r_25, r_26, r_27, r_28, r_29, r_30_0, r_30_1, r_30_2, r_31, r_31b, r_32, r_33, r_33b, r_33c, r_34, r_34b, r_35, r_45, r_46, r_47_0, r_47_1, r_40, r_50, r_51, r_41_0, r_41_1, r_42, r_43, r_44, r_36_0, r_37_0, r_38_0, r_48_0, r_36_1, r_37_1, r_38_1, r_48_1, r_36_2, r_37_2, r_38_2, r_48_2, r_36_3, r_37_3, r_36_4, r_37_4, r_36_5, r_37_5, r_39, r_8, al_13, al_14, al_15, al_16, al_18, al_19, al_25, al_26, al_27, al_28, al_29, al_30, al_31, al_32, al_33, al_34, al_35, al_36, al_37, al_38, al_39, al_40, al_41, al_42, al_43, al_44, al_45, al_46, al_48, al_49, al_50, al_51, al_52, al_53, al_54, al_55, al_56, al_57, al_58, al_59, al_60, al_61, al_62, al_63, al_64, al_65, al_66, al_67, al_68, al_69, al_70, rf_0_0, rf_0_1, rf_0_2, rf_0_3, rf_0_4, rf_0_5, rf_0_6, rf_0_7, rf_0_8, rf_0_10, rf_0_11, rf_1_0, rf_1_1, rf_1_2, rf_2_0, rf_2_1, rf_2_2, rf_3_0, rf_3_1, rf_3_2, rf_4_0, rf_4_1, rf_4_2, rf_5_0, rf_5_1, rf_5_2, rf_6_0, rf_6_1, rf_7_0, rf_7_1, rf_8_0, rf_8_1, rf_8_5, rf_8_6, rf_8_7, rf_8_8, rf_8_9, rf_9_0, rf_10_0, rf_11_0, rf_12_0, rf_47_0, rf_47_1, rf_47_2, rf_47_3, rf_47_5, rf_47_6, rf_47_8, rf_47_10, rf_47_12, rf_47_14, rf_47_15, rf_47_16, rf_47_17, rf_47_18, rf_47_19, rf_47_20, rf_47_21, rf_47_22, rf_47_23, rf_47_24, rf_47_26, rf_47_27, rf_47_29, rf_17, rf_20, rf_21, rf_22, rf_23, rf_24, rl_17, rl_20, rl_21, rl_22, rl_23, rl_24]
    rw [if_pos (by omega)]
    unfold ptS at this
    unfold bsW lsW
    refine ⟨by omega, ?_⟩
    by_cases q : bpN T c k b = -1
    · rw [if_pos q] at this ⊢
      simp only [Classical.not_not, Prod.mk.injEq, m_l, m_lp, m_lq, m_ps, m_ws, m_en, List.replicate, if_true, if_false, reduceIte, true_and, and_true, false_and, and_false, true_or, or_true, false_or, or_false, and_self, or_self, not_true_eq_false, not_false_eq_true, ne_eq, Nat.reduceLeDiff, Nat.reduceEqDiff, Nat.reduceAdd, Int.reduceLE, Int.reduceLT, Int.reduceEq, Int.reduceNe, Int.reduceAdd, Int.reduceNeg, Nat.reduceSub, Nat.succ_ne_zero, Nat.not_succ_le_zero, Nat.reduceMul, Int.reduceMul, Int.reduceSub, Int.reduceToNat, Nat.zero_le, Nat.reduceLT]
      exact this
    · rw [if_neg q] at this ⊢
      rw [m_id0 (by omega) (by omega) (by decide) (by decide), m_id1 (by omega) (by omega) (by decide) (by decide)] at this
      have hm := Int.emod_nonneg (bpN T c k b) (show (32 : Int) ≠ 0 by decide)
      rw [if_neg (by omega), if_neg q]
      grind
  | succ d ih =>
    intro b ν u hb hF hp
    have mb : m_i 0 b 1 = (b : Int) + 1 := m_i0 (by omega) (by omega)
    have hpi := bpN_in hT (c := c) (k := k) b (by omega) (by omega) (by omega)
    have ih := fun ν' u' => ih (b + 1) ν' u' (by omega)
    rw [bpN] at ih
    push_cast at ih
    rw [t166_1]
    by_cases hs : c = 5 ∧ (b : Int) = k
    · have en : ((b : Int) = n) = True := eq_true (by omega)
      rw [if_pos hs] at ih
      simp only [t166_0, t166_2, t166_3, t166_4, t166_5, t166_6, t166_7, t166_8, B166_0, B166_1, B166_2, B166_3, B166_4, B166_5, B166_6, B166_7, B166_8, Classical.not_not, Prod.mk.injEq, m_l, m_lp, m_lq, m_ps, m_ws, m_en, List.replicate, if_true, if_false, reduceIte, true_and, and_true, false_and, and_false, true_or, or_true, false_or, or_false, and_self, or_self, not_true_eq_false, not_false_eq_true, ne_eq, Nat.reduceLeDiff, Nat.reduceEqDiff, Nat.reduceAdd, Int.reduceLE, Int.reduceLT, Int.reduceEq, Int.reduceNe, Int.reduceAdd, Int.reduceNeg, Nat.reduceSub, Nat.succ_ne_zero, Nat.not_succ_le_zero, Nat.reduceMul, Int.reduceMul, Int.reduceSub, Int.reduceToNat, Nat.zero_le, Nat.reduceLT, r_0, r_1, r_2, r_3, r_4, r_5, r_6, r_7, r_9, r_10, r_11, r_12, r_13, r_14, r_15, r_16, r_17, r_18, r_19, r_20_0, r_21_0, r_20_1, r_21_1, r_20_2, r_21_2, r_20_3, r_21_3, r_20_4, r_21_4, r_20_5, r_21_5, r_22_0, r_22_1, r_23, r_24, r_25, r_26, r_27, r_28, r_29, r_30_0, r_30_1, r_30_2, r_31, r_31b, r_32, r_33, r_33b, r_33c, r_34, r_34b, r_35, r_45, r_46, r_47_0, r_47_1, r_40, r_50, r_51, r_41_0, r_41_1, r_42, r_43, r_44, r_36_0, r_37_0, r_38_0, r_48_0, r_36_1, r_37_1, r_38_1, r_48_1, r_36_2, r_37_2, r_38_2, r_48_2, r_36_3, r_37_3, r_36_4, r_37_4, r_36_5, r_37_5, r_39, r_8, al_13, al_14, al_15, al_16, al_18, al_19, al_25, al_26, al_27, al_28, al_29, al_30, al_31, al_32, al_33, al_34, al_35, al_36, al_37, al_38, al_39, al_40, al_41, al_42, al_43, al_44, al_45, al_46, al_48, al_49, al_50, al_51, al_52, al_53, al_54, al_55, al_56, al_57, al_58, al_59, al_60, al_61, al_62, al_63, al_64, al_65, al_66, al_67, al_68, al_69, al_70, rf_0_0, rf_0_1, rf_0_2, rf_0_3, rf_0_4, rf_0_5, rf_0_6, rf_0_7, rf_0_8, rf_0_10, rf_0_11, rf_1_0, rf_1_1, rf_1_2, rf_2_0, rf_2_1, rf_2_2, rf_3_0, rf_3_1, rf_3_2, rf_4_0, rf_4_1, rf_4_2, rf_5_0, rf_5_1, rf_5_2, rf_6_0, rf_6_1, rf_7_0, rf_7_1, rf_8_0, rf_8_1, rf_8_5, rf_8_6, rf_8_7, rf_8_8, rf_8_9, rf_9_0, rf_10_0, rf_11_0, rf_12_0, rf_47_0, rf_47_1, rf_47_2, rf_47_3, rf_47_5, rf_47_6, rf_47_8, rf_47_10, rf_47_12, rf_47_14, rf_47_15, rf_47_16, rf_47_17, rf_47_18, rf_47_19, rf_47_20, rf_47_21, rf_47_22, rf_47_23, rf_47_24, rf_47_26, rf_47_27, rf_47_29, rf_17, rf_20, rf_21, rf_22, rf_23, rf_24, rl_17, rl_20, rl_21, rl_22, rl_23, rl_24, en, mb]
      rw [if_neg (by omega)]
      exact ih ν u hF (by omega)
    · have en : ((b : Int) = n) = False := eq_false (by omega)
      rw [if_neg hs] at ih
      have hT2 := hT.set (c := c) (k := k) (v := b) (by omega)
      have hD2 : DT (m_w ν 55 (4 * k + col) b) (m_w T c k b) := by
        have := hD.set (c := c) (k := k) (v := b) (by omega) hk
        rw [show c - 3 = col by omega] at this
        exact hF.dt this
      obtain ⟨μ1, ⟨f1, l1⟩, c1⟩ := d_lives _ hT2 hD2
      have cd := d_draughtOf μ1 hT2 l1 (hD2.fl f1).1 23 (by decide)
      have hgd : gapN (m_w T c k b) (sm (m_w T c k b) (23 + 1)) (nh (m_w T c k b)) = dr (m_w T c k b) := rfl
      rw [hgd] at cd
      rw [show (((23 : Nat)) : Int) = 23 from rfl] at cd
      have hd := dr_in hT2
      have hF1 := (hF.w b).fl f1 (by decide)
      have i1 := fun u' => ih μ1 u' hF1
      simp only [t166_0, t166_2, t166_3, t166_4, t166_5, t166_6, t166_7, t166_8, B166_0, B166_1, B166_2, B166_3, B166_4, B166_5, B166_6, B166_7, B166_8, Classical.not_not, Prod.mk.injEq, m_l, m_lp, m_lq, m_ps, m_ws, m_en, List.replicate, if_true, if_false, reduceIte, true_and, and_true, false_and, and_false, true_or, or_true, false_or, or_false, and_self, or_self, not_true_eq_false, not_false_eq_true, ne_eq, Nat.reduceLeDiff, Nat.reduceEqDiff, Nat.reduceAdd, Int.reduceLE, Int.reduceLT, Int.reduceEq, Int.reduceNe, Int.reduceAdd, Int.reduceNeg, Nat.reduceSub, Nat.succ_ne_zero, Nat.not_succ_le_zero, Nat.reduceMul, Int.reduceMul, Int.reduceSub, Int.reduceToNat, Nat.zero_le, Nat.reduceLT, r_0, r_1, r_2, r_3, r_4, r_5, r_6, r_7, r_9, r_10, r_11, r_12, r_13, r_14, r_15, r_16, r_17, r_18, r_19, r_20_0, r_21_0, r_20_1, r_21_1, r_20_2, r_21_2, r_20_3, r_21_3, r_20_4, r_21_4, r_20_5, r_21_5, r_22_0, r_22_1, r_23, r_24, r_25, r_26, r_27, r_28, r_29, r_30_0, r_30_1, r_30_2, r_31, r_31b, r_32, r_33, r_33b, r_33c, r_34, r_34b, r_35, r_45, r_46, r_47_0, r_47_1, r_40, r_50, r_51, r_41_0, r_41_1, r_42, r_43, r_44, r_36_0, r_37_0, r_38_0, r_48_0, r_36_1, r_37_1, r_38_1, r_48_1, r_36_2, r_37_2, r_38_2, r_48_2, r_36_3, r_37_3, r_36_4, r_37_4, r_36_5, r_37_5, r_39, r_8, al_13, al_14, al_15, al_16, al_18, al_19, al_25, al_26, al_27, al_28, al_29, al_30, al_31, al_32, al_33, al_34, al_35, al_36, al_37, al_38, al_39, al_40, al_41, al_42, al_43, al_44, al_45, al_46, al_48, al_49, al_50, al_51, al_52, al_53, al_54, al_55, al_56, al_57, al_58, al_59, al_60, al_61, al_62, al_63, al_64, al_65, al_66, al_67, al_68, al_69, al_70, rf_0_0, rf_0_1, rf_0_2, rf_0_3, rf_0_4, rf_0_5, rf_0_6, rf_0_7, rf_0_8, rf_0_10, rf_0_11, rf_1_0, rf_1_1, rf_1_2, rf_2_0, rf_2_1, rf_2_2, rf_3_0, rf_3_1, rf_3_2, rf_4_0, rf_4_1, rf_4_2, rf_5_0, rf_5_1, rf_5_2, rf_6_0, rf_6_1, rf_7_0, rf_7_1, rf_8_0, rf_8_1, rf_8_5, rf_8_6, rf_8_7, rf_8_8, rf_8_9, rf_9_0, rf_10_0, rf_11_0, rf_12_0, rf_47_0, rf_47_1, rf_47_2, rf_47_3, rf_47_5, rf_47_6, rf_47_8, rf_47_10, rf_47_12, rf_47_14, rf_47_15, rf_47_16, rf_47_17, rf_47_18, rf_47_19, rf_47_20, rf_47_21, rf_47_22, rf_47_23, rf_47_24, rf_47_26, rf_47_27, rf_47_29, rf_17, rf_20, rf_21, rf_22, rf_23, rf_24, rl_17, rl_20, rl_21, rl_22, rl_23, rl_24, en, mb, c1, cd, d_lesser]
      rw [if_neg (by omega)]
      refine ⟨by omega, ?_⟩
      generalize dr (m_w T c k b) = dd at *
      generalize bpN T c k b = p at *
      have key : (p = -1 ∨ dd * 32 + b < p) = (dd < lsW p) := by
        unfold lsW
        refine propext ⟨fun q => ?_, fun q => ?_⟩
        · by_cases e : p = -1
          · rw [if_pos e]; omega
          · rw [if_neg e]; omega
        · by_cases e : p = -1
          · exact Or.inl e
          · rw [if_neg e] at q; exact Or.inr (by omega)
      by_cases q : dd < lsW p
      · rw [if_pos (key.mpr q)] at i1
        rw [if_pos q]
        have e1 : bsW (dd * 32 + b) = b := by unfold bsW; rw [if_neg (by omega)]; omega
        have e2 : lsW (dd * 32 + b) = dd := by unfold lsW; rw [if_neg (by omega)]; omega
        rw [e1, e2] at i1
        rw [if_neg (by omega)]
        exact i1 _ (Or.inr ⟨by omega, by omega⟩)
      · rw [if_neg (fun z => q (key.mp z))] at i1
        rw [if_neg q, if_pos (by omega)]
        exact i1 _ (by omega)
theorem d_bestOf {T : MMem} (μ : MMem) (hT : TW T) (hD : DT μ T) {c k n w col : Int} {v : Nat} (hcol : c = 3 + col) (hc : (c = 3 ∧ (v : Int) ≤ 6 ∧ n = -1) ∨ (c = 4 ∧ (v : Int) ≤ 24 ∧ n = -1) ∨ (c = 5 ∧ (v : Int) ≤ 9 ∧ n = k)) (hk : 0 ≤ k ∧ k < T 0 1) : ∃ μ' : MMem, FL μ μ' ∧ ∀ Q : MVal → MMem → Prop, Cal 166 [(10, 47), (0, k), (0, col), (0, (v : Int)), (0, n), (0, w)] μ Q = Q (0, ptS (bpN T c k v) w) μ' := by
  have h8 := hT.2.1
  refine cal_ex (P := fun μ' => FL μ μ') rfl ?_
  show Rn 166 B166_0 [(10, 47), (0, k), (0, col), (0, (v : Int)), (0, n), (0, w), (14, 0), (14, 0), (14, 0), (14, 0), (14, 0), (14, 0)] [] μ _
  have m4 : m_i 2 4 k = 4 * k := m_i2 (by omega) (by omega)
  have m4c : m_i 0 (4 * k) col = 4 * k + col := m_i0 (by omega) (by omega)
  simp only [t166_0, t166_2, t166_3, t166_4, t166_5, t166_6, t166_7, t166_8, B166_0, B166_1, B166_2, B166_3, B166_4, B166_5, B166_6, B166_7, B166_8, Classical.not_not, Prod.mk.injEq, m_l, m_lp, m_lq, m_ps, m_ws, m_en, List.replicate, if_true, if_false, reduceIte, true_and, and_true, false_and, and_false, true_or, or_true, false_or, or_false, and_self, or_self, not_true_eq_false, not_false_eq_true, ne_eq, Nat.reduceLeDiff, Nat.reduceEqDiff, Nat.reduceAdd, Int.reduceLE, Int.reduceLT, Int.reduceEq, Int.reduceNe, Int.reduceAdd, Int.reduceNeg, Nat.reduceSub, Nat.succ_ne_zero, Nat.not_succ_le_zero, Nat.reduceMul, Int.reduceMul, Int.reduceSub, Int.reduceToNat, Nat.zero_le, Nat.reduceLT, r_0, r_1, r_2, r_3, r_4, r_5, r_6, r_7, r_9, r_10, r_11, r_12, r_13, r_14, r_15, r_16, r_17, r_18, r_19, r_20_0, r_21_0, r_20_1, r_21_1, r_20_2, r_21_2, r_20_3, r_21_3, r_20_4, r_21_4, r_20_5, r_21_5, r_22_0, r_22_1, r_23, r_24, r_25, r_26, r_27, r_28, r_29, r_30_0, r_30_1, r_30_2, r_31, r_31b, r_32, r_33, r_33b, r_33c, r_34, r_34b, r_35, r_45, r_46, r_47_0, r_47_1, r_40, r_50, r_51, r_41_0, r_41_1, r_42, r_43, r_44, r_36_0, r_37_0, r_38_0, r_48_0, r_36_1, r_37_1, r_38_1, r_48_1, r_36_2, r_37_2, r_38_2, r_48_2, r_36_3, r_37_3, r_36_4, r_37_4, r_36_5, r_37_5, r_39, r_8, al_13, al_14, al_15, al_16, al_18, al_19, al_25, al_26, al_27, al_28, al_29, al_30, al_31, al_32, al_33, al_34, al_35, al_36, al_37, al_38, al_39, al_40, al_41, al_42, al_43, al_44, al_45, al_46, al_48, al_49, al_50, al_51, al_52, al_53, al_54, al_55, al_56, al_57, al_58, al_59, al_60, al_61, al_62, al_63, al_64, al_65, al_66, al_67, al_68, al_69, al_70, rf_0_0, rf_0_1, rf_0_2, rf_0_3, rf_0_4, rf_0_5, rf_0_6, rf_0_7, rf_0_8, rf_0_10, rf_0_11, rf_1_0, rf_1_1, rf_1_2, rf_2_0, rf_2_1, rf_2_2, rf_3_0, rf_3_1, rf_3_2, rf_4_0, rf_4_1, rf_4_2, rf_5_0, rf_5_1, rf_5_2, rf_6_0, rf_6_1, rf_7_0, rf_7_1, rf_8_0, rf_8_1, rf_8_5, rf_8_6, rf_8_7, rf_8_8, rf_8_9, rf_9_0, rf_10_0, rf_11_0, rf_12_0, rf_47_0, rf_47_1, rf_47_2, rf_47_3, rf_47_5, rf_47_6, rf_47_8, rf_47_10, rf_47_12, rf_47_14, rf_47_15, rf_47_16, rf_47_17, rf_47_18, rf_47_19, rf_47_20, rf_47_21, rf_47_22, rf_47_23, rf_47_24, rf_47_26, rf_47_27, rf_47_29, rf_17, rf_20, rf_21, rf_22, rf_23, rf_24, rl_17, rl_20, rl_21, rl_22, rl_23, rl_24, m4, m4c]
  exact ⟨by omega, d_bestL hT hD hcol hc hk (fun μ' f => ⟨rfl, f⟩) v 0 μ _ (by omega) ⟨fun _ _ _ => rfl, fun _ _ => rfl⟩ (Or.inl rfl)⟩
/-- the reference with some events gone -/
theorem DT.gn {μ T : MMem} (h : DT μ T) (m : Int) : DT (m_w μ 47 13 m) (gn T m) := by
  obtain ⟨h1, h2, h3, h4, h5, h6, h7⟩ := h
  unfold DT
  rw [gn_at T m (show (0 : Int) ≠ 3 by decide), gn_at T m (show (1 : Int) ≠ 3 by decide), gn_at T m (show (2 : Int) ≠ 3 by decide), gn_3, gn_ne T m (show (1 : Int) ≠ 0 by decide), gn_ne T m (show (2 : Int) ≠ 0 by decide), gn_ne T m (show (3 : Int) ≠ 0 by decide), gn_ne T m (show (4 : Int) ≠ 0 by decide), gn_ne T m (show (5 : Int) ≠ 0 by decide), gn_ne T m (show (6 : Int) ≠ 0 by decide), gn_ne T m (show (7 : Int) ≠ 0 by decide), gn_ne T m (show (8 : Int) ≠ 0 by decide), gn_ne T m (show (9 : Int) ≠ 0 by decide), mw_ne (show (54 : Int) ≠ 47 by decide), mw_ne (show (55 : Int) ≠ 47 by decide), mw_ne (show (56 : Int) ≠ 47 by decide)]
  simp only [mw8, Classical.not_not, Prod.mk.injEq, m_l, m_lp, m_lq, m_ps, m_ws, m_en, List.replicate, if_true, if_false, reduceIte, true_and, and_true, false_and, and_false, true_or, or_true, false_or, or_false, and_self, or_self, not_true_eq_false, not_false_eq_true, ne_eq, Nat.reduceLeDiff, Nat.reduceEqDiff, Nat.reduceAdd, Int.reduceLE, Int.reduceLT, Int.reduceEq, Int.reduceNe, Int.reduceAdd, Int.reduceNeg, Nat.reduceSub, Nat.succ_ne_zero, Nat.not_succ_le_zero, Nat.reduceMul, Int.reduceMul, Int.reduceSub, Int.reduceToNat, Nat.zero_le, Nat.reduceLT]
  exact ⟨h1, h2, h3, h5, h6, h7⟩
theorem gn_nh (T : MMem) (m : Int) : nh (gn T m) = nh T := by
  unfold nh
  rw [gn_at T m (by decide)]
theorem d_isSpared {T : MMem} (μ : MMem) (hT : TW T) (hD : DT μ T) (h3 : T 0 3 = 0) (m : Int) : ∃ μ' : MMem, FX μ μ' ∧ ∀ Q : MVal → MMem → Prop, Cal 170 [(10, 47), (0, m)] μ Q = Q (0, if ow T m = 0 then 1 else 0) μ' := by
  refine cal_ex (P := fun μ' => FX μ μ') rfl ?_
  show Rn 170 B170_0 [(10, 47), (0, m)] [] μ _
  have hT2 := hT.gn m
  have hD2 := hD.gn m
  obtain ⟨μ1, ⟨f1, l1⟩, c1⟩ := d_lives _ hT2 hD2
  have hD1 := hD2.fl f1
  have hL : LV (m_w μ1 47 13 0) (gn T m) := by
    unfold LV NT RS at *
    have g : ∀ a : Int, a ≠ 47 → m_w μ1 47 13 0 a = μ1 a := fun a ha => mw_ne ha
    rw [g 57 (by decide), g 58 (by decide), g 59 (by decide), g 60 (by decide), g 61 (by decide), g 62 (by decide), g 63 (by decide), g 64 (by decide), g 65 (by decide), g 66 (by decide), g 67 (by decide)]
    exact l1
  have e7 : m_w μ1 47 13 0 47 7 = gn T m 0 0 := by rw [mw_at, if_neg (by decide)]; exact hD1.1
  have e9 : m_w μ1 47 13 0 47 9 = gn T m 0 1 := by rw [mw_at, if_neg (by decide)]; exact hD1.2.1
  have cl := d_leftBy0 _ hT2 hL e7 e9
  rw [gn_nh] at cl
  have eo : opN (gn T m) (sm (gn T m) 24) (nh T) = ow T m := rfl
  rw [eo] at cl
  simp only [t170_0, B170_0, t170_1, B170_1, t170_2, B170_2, Classical.not_not, Prod.mk.injEq, m_l, m_lp, m_lq, m_ps, m_ws, m_en, List.replicate, if_true, if_false, reduceIte, true_and, and_true, false_and, and_false, true_or, or_true, false_or, or_false, and_self, or_self, not_true_eq_false, not_false_eq_true, ne_eq, Nat.reduceLeDiff, Nat.reduceEqDiff, Nat.reduceAdd, Int.reduceLE, Int.reduceLT, Int.reduceEq, Int.reduceNe, Int.reduceAdd, Int.reduceNeg, Nat.reduceSub, Nat.succ_ne_zero, Nat.not_succ_le_zero, Nat.reduceMul, Int.reduceMul, Int.reduceSub, Int.reduceToNat, Nat.zero_le, Nat.reduceLT, r_0, r_1, r_2, r_3, r_4, r_5, r_6, r_7, r_9, r_10, r_11, r_12, r_13, r_14, r_15, r_16, r_17, r_18, r_19, r_20_0, r_21_0, r_20_1, r_21_1, r_20_2, r_21_2, r_20_3, r_21_3, r_20_4, r_21_4, r_20_5, r_21_5, r_22_0, r_22_1, r_23, r_24, r_25, r_26, r_27, r_28, r_29, r_30_0, r_30_1, r_30_2, r_31, r_31b, r_32, r_33, r_33b, r_33c, r_34, r_34b, r_35, r_45, r_46, r_47_0, r_47_1, r_40, r_50, r_51, r_41_0, r_41_1, r_42, r_43, r_44, r_36_0, r_37_0, r_38_0, r_48_0, r_36_1, r_37_1, r_38_1, r_48_1, r_36_2, r_37_2, r_38_2, r_48_2, r_36_3, r_37_3, r_36_4, r_37_4, r_36_5, r_37_5, r_39, r_8, al_13, al_14, al_15, al_16, al_18, al_19, al_25, al_26, al_27, al_28, al_29, al_30, al_31, al_32, al_33, al_34, al_35, al_36, al_37, al_38, al_39, al_40, al_41, al_42, al_43, al_44, al_45, al_46, al_48, al_49, al_50, al_51, al_52, al_53, al_54, al_55, al_56, al_57, al_58, al_59, al_60, al_61, al_62, al_63, al_64, al_65, al_66, al_67, al_68, al_69, al_70, rf_0_0, rf_0_1, rf_0_2, rf_0_3, rf_0_4, rf_0_5, rf_0_6, rf_0_7, rf_0_8, rf_0_10, rf_0_11, rf_1_0, rf_1_1, rf_1_2, rf_2_0, rf_2_1, rf_2_2, rf_3_0, rf_3_1, rf_3_2, rf_4_0, rf_4_1, rf_4_2, rf_5_0, rf_5_1, rf_5_2, rf_6_0, rf_6_1, rf_7_0, rf_7_1, rf_8_0, rf_8_1, rf_8_5, rf_8_6, rf_8_7, rf_8_8, rf_8_9, rf_9_0, rf_10_0, rf_11_0, rf_12_0, rf_47_0, rf_47_1, rf_47_2, rf_47_3, rf_47_5, rf_47_6, rf_47_8, rf_47_10, rf_47_12, rf_47_14, rf_47_15, rf_47_16, rf_47_17, rf_47_18, rf_47_19, rf_47_20, rf_47_21, rf_47_22, rf_47_23, rf_47_24, rf_47_26, rf_47_27, rf_47_29, rf_17, rf_20, rf_21, rf_22, rf_23, rf_24, rl_17, rl_20, rl_21, rl_22, rl_23, rl_24, c1, cl]
  have hfx : FX μ (m_w μ1 47 13 0) := by
    refine ⟨fun a a1 a2 a3 _ _ => by rw [mw_ne a1, f1 a a3, mw_ne a1], fun j hj => ?_⟩
    rw [mw_at]
    by_cases q : j = 13
    · rw [if_pos q, q]
      rw [hD.2.2.2.1]
      exact h3.symm
    · rw [if_neg q, f1 47 (by decide), mw_at, if_neg q]
  by_cases q : ow T m = 0
  · simp only [q, Classical.not_not, Prod.mk.injEq, m_l, m_lp, m_lq, m_ps, m_ws, m_en, List.replicate, if_true, if_false, reduceIte, true_and, and_true, false_and, and_false, true_or, or_true, false_or, or_false, and_self, or_self, not_true_eq_false, not_false_eq_true, ne_eq, Nat.reduceLeDiff, Nat.reduceEqDiff, Nat.reduceAdd, Int.reduceLE, Int.reduceLT, Int.reduceEq, Int.reduceNe, Int.reduceAdd, Int.reduceNeg, Nat.reduceSub, Nat.succ_ne_zero, Nat.not_succ_le_zero, Nat.reduceMul, Int.reduceMul, Int.reduceSub, Int.reduceToNat, Nat.zero_le, Nat.reduceLT]
    exact hfx
  · simp only [q, Classical.not_not, Prod.mk.injEq, m_l, m_lp, m_lq, m_ps, m_ws, m_en, List.replicate, if_true, if_false, reduceIte, true_and, and_true, false_and, and_false, true_or, or_true, false_or, or_false, and_self, or_self, not_true_eq_false, not_false_eq_true, ne_eq, Nat.reduceLeDiff, Nat.reduceEqDiff, Nat.reduceAdd, Int.reduceLE, Int.reduceLT, Int.reduceEq, Int.reduceNe, Int.reduceAdd, Int.reduceNeg, Nat.reduceSub, Nat.succ_ne_zero, Nat.not_succ_le_zero, Nat.reduceMul, Int.reduceMul, Int.reduceSub, Int.reduceToNat, Nat.zero_le, Nat.reduceLT]
    exact hfx
