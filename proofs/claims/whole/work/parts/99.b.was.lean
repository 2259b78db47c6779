theorem DT.set2 {μ T : MMem} (h : DT μ T) {c k v : Int} (hc : c = 1 ∨ c = 2) (hk : 0 ≤ k ∧ k < T 0 0) : DT (m_w μ 54 (2 * k + (c - 1)) v) (m_w T c k v) := by
  obtain ⟨h1, h2, h3, h4, h5, h6, h7⟩ := h
  have n0 : (0 : Int) ≠ c := by omega
  unfold DT
  rw [mw_ne n0, mw_ne (show (3 : Int) ≠ c by omega), mw_ne (show (4 : Int) ≠ c by omega), mw_ne (show (5 : Int) ≠ c by omega), mw_ne (show (6 : Int) ≠ c by omega), mw_ne (show (7 : Int) ≠ c by omega), mw_ne (show (8 : Int) ≠ c by omega), mw_ne (show (9 : Int) ≠ c by omega), mw_ne (show (47 : Int) ≠ 54 by decide), mw_ne (show (55 : Int) ≠ 54 by decide), mw_ne (show (56 : Int) ≠ 54 by decide)]
  refine ⟨h1, h2, h3, h4, fun j j0 j1 => ?_, h6, h7⟩
  have := h5 j j0 j1
  simp only [mw8, true_and]
  rcases hc with rfl | rfl
  · have a1 : (2 * j = 2 * k + (1 - 1)) = (j = k) := propext ⟨fun q => by omega, fun q => by omega⟩
    have a2 : (2 * j + 1 = 2 * k + (1 - 1)) = False := eq_false (by omega)
    simp only [a1, a2, if_false, true_and, Int.reduceEq, false_and]
    grind
  · have a1 : (2 * j = 2 * k + (2 - 1)) = False := eq_false (by omega)
    have a2 : (2 * j + 1 = 2 * k + (2 - 1)) = (j = k) := propext ⟨fun q => by omega, fun q => by omega⟩
    simp only [a1, a2, if_false, true_and, Int.reduceEq, false_and]
    grind
/-- one place of the houses' row, the world and the gaps -/
def FY (μ ν : MMem) (p : Int) : Prop := (∀ a, a ≠ 54 → (a < 57 ∨ 67 < a) → a ≠ 69 → ν a = μ a) ∧ ∀ j, j ≠ p → ν 54 j = μ 54 j
theorem FY.rf (μ : MMem) (p : Int) : FY μ μ p := ⟨fun _ _ _ _ => rfl, fun _ _ => rfl⟩
theorem FY.fl {μ ν ξ : MMem} {p : Int} (h : FY μ ν p) (hf : FL ν ξ) : FY μ ξ p := ⟨fun a h1 h2 h3 => (hf a h2).trans (h.1 a h1 h2 h3), fun j hj => by rw [hf 54 (by decide)]; exact h.2 j hj⟩
theorem FY.w {μ ν : MMem} {p : Int} (h : FY μ ν p) (v : Int) : FY μ (m_w ν 54 p v) p := ⟨fun a h1 h2 h3 => by rw [mw_ne h1]; exact h.1 a h1 h2 h3, fun j hj => by rw [mw_at, if_neg hj]; exact h.2 j hj⟩
theorem FY.g {μ ν : MMem} {p : Int} (h : FY μ ν p) (k v : Int) : FY μ (m_w ν 69 k v) p := ⟨fun a h1 h2 h3 => by rw [mw_ne h3]; exact h.1 a h1 h2 h3, fun j hj => by rw [mw_ne (by decide)]; exact h.2 j hj⟩
theorem FY.end {μ ν : MMem} {p : Int} (h : FY μ ν p) : FX μ (m_w ν 54 p (μ 54 p)) := by
  refine ⟨fun a h1 h2 h3 h4 h5 => ?_, fun j _ => by rw [mw_ne (by decide), h.1 47 (by decide) (by decide) (by decide)]⟩
  by_cases e : a = 54
  · subst e
    funext j
    rw [mw_at]
    split
    · rename_i q; rw [q]
    · rename_i q; exact h.2 j q
  · rw [mw_ne e]
    exact h.1 a e h3 h4
theorem FY.dt {μ ν T : MMem} {p v : Int} (h : FY μ ν p) (hD : DT (m_w μ 54 p v) T) : DT (m_w ν 54 p v) T := by
  have e54 : m_w ν 54 p v 54 = m_w μ 54 p v 54 := by
    funext j
    rw [mw_at, mw_at]
    split
    · rfl
    · rename_i q; exact h.2 j q
  have g : ∀ a : Int, a ≠ 54 → a < 57 → m_w ν 54 p v a = m_w μ 54 p v a := fun a h1 h2 => by rw [mw_ne h1, mw_ne h1]; exact h.1 a h1 (by omega) (by omega)
  unfold DT at *
  rw [e54, g 47 (by decide) (by decide), g 55 (by decide) (by decide), g 56 (by decide) (by decide)]
  exact hD
theorem FY.ds {μ ν T : MMem} {p c k v : Int} (h : FY μ ν p) (hS : DS μ T) (hc : c = 1 ∨ c = 2) : DS (m_w ν 54 p v) (m_w T c k v) := by
  refine hS.fr ?_ ?_ ?_ ?_ ?_ ?_
  · rw [mw_ne (by decide)]; exact h.1 68 (by decide) (by decide) (by decide)
  · rw [mw_ne (by decide), h.1 47 (by decide) (by decide) (by decide)]
  · rw [mw_ne (by omega)]
  · exact mw_ne (by omega)
  · exact mw_ne (by omega)
  · exact mw_ne (by omega)
theorem ftN_0 (T : MMem) (c k f : Int) : ∀ n : Nat, m_i 4 (ftN T c k f n) 0 = ftN T c k f n
  | 0 => m_or00
  | n + 1 => by
    rw [ftN]
    split
    · exact m_or0 _ _
    · exact ftN_0 T c k f n
theorem ns_w (T : MMem) {c k v : Int} (hc : c = 1 ∨ c = 2) : ns (m_w T c k v) = ns T := by
  unfold ns
  rw [mw_ne (by omega)]
theorem d_sortL {μ T : MMem} (hT : TW T) (hD : DT μ T) (hS : DS μ T) {i : Int} (hi : 0 ≤ i ∧ i < T 0 0) {Q : MVal → MMem → Prop} (h : ∀ μ', FX μ μ' → Q (0, ftN T 1 i 0 3) μ') : ∀ (d b : Nat) (ν : MMem), b + d = 3 → FY μ ν (2 * i) → At 179 1 [(10, 47), (0, i), (0, μ 54 (2 * i)), (0, ftN T 1 i 0 b), (0, (b : Int))] [] ν Q := by
  have h6 := hT.1
  have m2 : m_i 2 2 i = 2 * i := m_i2 (by omega) (by omega)
  intro d
  induction d with
  | zero =>
    intro b ν hb hF
    have e : b = 3 := by omega
    subst e
    have := h _ hF.end
    rw [t179_1]
    simp only [t179_0, t179_2, t179_3, t179_4, B179_0, B179_1, B179_2, B179_3, B179_4, Classical.not_not, Prod.mk.injEq, m_l, m_lp, m_lq, m_ps, m_ws, m_en, List.replicate, if_true, if_false, reduceIte, true_and, and_true, false_and, and_false, true_or, or_true, false_or, or_false, and_self, or_self, not_true_eq_false, not_false_eq_true, ne_eq, Nat.reduceLeDiff, Nat.reduceEqDiff, Nat.reduceAdd, Int.reduceLE, Int.reduceLT, Int.reduceEq, Int.reduceNe, Int.reduceAdd, Int.reduceNeg, Nat.reduceSub, Nat.succ_ne_zero, Nat.not_succ_le_zero, Nat.reduceMul, Int.reduceMul, Int.reduceSub, Int.reduceToNat, Nat.zero_le, Nat.reduceLT, r_0, r_1, r_2, r_3, r_4, r_5, r_6, r_7, r_9, r_10, r_11, r_12, r_13, r_14, r_15, r_16, r_17, r_18, r_19, r_20_0, r_21_0, r_20_1, r_21_1, r_20_2, r_21_2, r_20_3, r_21_3, r_20_4, r_21_4, r_20_5, r_21_5, r_22_0, r_22_1, r_23, r_24, r_25, r_26, r_27, r_28, r_29, r_30_0, r_30_1, r_30_2, r_31, r_31b, r_32, r_33, r_33b, r_33c, r_34, r_34b, r_35, r_45, r_46, r_47_0, r_47_1, r_40, r_50, r_51, r_41_0, r_41_1, r_42, r_43, r_44, r_36_0, r_37_0, r_38_0, r_48_0, r_36_1, r_37_1, r_38_1, r_48_1, r_36_2, r_37_2, r_38_2, r_48_2, r_36_3, r_37_3, r_36_4, r_37_4, r_36_5, r_37_5, r_39, r_8, al_13, al_14, al_15, al_16, al_18, al_19, al_25, al_26, al_27, al_28, al_29, al_30, al_31, al_32, al_33, al_34, al_35, al_36, al_37, al_38, al_39, al_40, al_41, al_42, al_43, al_44, al_45, al_46, al_48, al_49, al_50, al_51, al_52, al_53, al_54, al_55, al_56, al_57, al_58, al_59, al_60, al_61, al_62, al_63, al_64, al_65, al_66, al_67, al_68, al_69, al_70, rf_0_0, rf_0_1, rf_0_2, rf_0_3, rf_0_4, rf_0_5, rf_0_6, rf_0_7, rf_0_8, rf_0_10, rf_0_11, rf_1_0, rf_1_1, rf_1_2, rf_2_0, rf_2_1, rf_2_2, rf_3_0, rf_3_1, rf_3_2, rf_4_0, rf_4_1, rf_4_2, rf_5_0, rf_5_1, rf_5_2, rf_6_0, rf_6_1, rf_7_0, rf_7_1, rf_8_0, rf_8_1, rf_8_5, rf_8_6, rf_8_7, rf_8_8, rf_8_9, rf_9_0, rf_10_0, rf_11_0, rf_12_0, rf_47_0, rf_47_1, rf_47_2, rf_47_3, rf_47_5, rf_47_6, rf_47_8, rf_47_10, rf_47_12, rf_47_14, rf_47_15, rf_47_16, rf_47_17, rf_47_18, rf_47_19, rf_47_20, rf_47_21, rf_47_22, rf_47_23, rf_47_24, rf_47_26, rf_47_27, rf_47_29, rf_17, rf_20, rf_21, rf_22, rf_23, rf_24, rl_17, rl_20, rl_21, rl_22, rl_23, rl_24, m2]
    rw [if_pos (by omega)]
    exact ⟨by omega, this⟩
  | succ d ih =>
    intro b ν hb hF
    have hT2 := hT.set2 (c := 1) (k := i) (v := b) (by omega)
    have hD2 : DT (m_w ν 54 (2 * i) b) (m_w T 1 i b) := by
      have := hD.set2 (c := 1) (k := i) (v := b) (by omega) hi
      rw [show 2 * i + (1 - 1) = 2 * i by omega] at this
      exact hF.dt this
    obtain ⟨μ1, ⟨f1, l1⟩, c1⟩ := d_isSeen _ hT2 hD2 (hF.ds hS (by omega))
    rw [ns_w T (by omega)] at c1
    have ih := ih (b + 1) μ1 (by omega) ((hF.w _).fl f1)
    have mb : m_i 0 b 1 = (b : Int) + 1 := m_i0 (by omega) (by omega)
    have h00 := ftN_0 T 1 i 0 b
    rw [ftN] at ih
    push_cast at ih
    rw [Int.zero_add] at ih
    unfold sh1 at ih
    rw [t179_1]
    simp only [t179_0, t179_2, t179_3, t179_4, B179_0, B179_1, B179_2, B179_3, B179_4, Classical.not_not, Prod.mk.injEq, m_l, m_lp, m_lq, m_ps, m_ws, m_en, List.replicate, if_true, if_false, reduceIte, true_and, and_true, false_and, and_false, true_or, or_true, false_or, or_false, and_self, or_self, not_true_eq_false, not_false_eq_true, ne_eq, Nat.reduceLeDiff, Nat.reduceEqDiff, Nat.reduceAdd, Int.reduceLE, Int.reduceLT, Int.reduceEq, Int.reduceNe, Int.reduceAdd, Int.reduceNeg, Nat.reduceSub, Nat.succ_ne_zero, Nat.not_succ_le_zero, Nat.reduceMul, Int.reduceMul, Int.reduceSub, Int.reduceToNat, Nat.zero_le, Nat.reduceLT, r_0, r_1, r_2, r_3, r_4, r_5, r_6, r_7, r_9, r_10, r_11, r_12, r_13, r_14, r_15, r_16, r_17, r_18, r_19, r_20_0, r_21_0, r_20_1, r_21_1, r_20_2, r_21_2, r_20_3, r_21_3, r_20_4, r_21_4, r_20_5, r_21_5, r_22_0, r_22_1, r_23, r_24, r_25, r_26, r_27, r_28, r_29, r_30_0, r_30_1, r_30_2, r_31, r_31b, r_32, r_33, r_33b, r_33c, r_34, r_34b, r_35, r_45, r_46, r_47_0, r_47_1, r_40, r_50, r_51, r_41_0, r_41_1, r_42, r_43, r_44, r_36_0, r_37_0, r_38_0, r_48_0, r_36_1, r_37_1, r_38_1, r_48_1, r_36_2, r_37_2, r_38_2, r_48_2, r_36_3, r_37_3, r_36_4, r_37_4, r_36_5, r_37_5, r_39, r_8, al_13, al_14, al_15, al_16, al_18, al_19, al_25, al_26, al_27, al_28, al_29, al_30, al_31, al_32, al_33, al_34, al_35, al_36, al_37, al_38, al_39, al_40, al_41, al_42, al_43, al_44, al_45, al_46, al_48, al_49, al_50, al_51, al_52, al_53, al_54, al_55, al_56, al_57, al_58, al_59, al_60, al_61, al_62, al_63, al_64, al_65, al_66, al_67, al_68, al_69, al_70, rf_0_0, rf_0_1, rf_0_2, rf_0_3, rf_0_4, rf_0_5, rf_0_6, rf_0_7, rf_0_8, rf_0_10, rf_0_11, rf_1_0, rf_1_1, rf_1_2, rf_2_0, rf_2_1, rf_2_2, rf_3_0, rf_3_1, rf_3_2, rf_4_0, rf_4_1, rf_4_2, rf_5_0, rf_5_1, rf_5_2, rf_6_0, rf_6_1, rf_7_0, rf_7_1, rf_8_0, rf_8_1, rf_8_5, rf_8_6, rf_8_7, rf_8_8, rf_8_9, rf_9_0, rf_10_0, rf_11_0, rf_12_0, rf_47_0, rf_47_1, rf_47_2, rf_47_3, rf_47_5, rf_47_6, rf_47_8, rf_47_10, rf_47_12, rf_47_14, rf_47_15, rf_47_16, rf_47_17, rf_47_18, rf_47_19, rf_47_20, rf_47_21, rf_47_22, rf_47_23, rf_47_24, rf_47_26, rf_47_27, rf_47_29, rf_17, rf_20, rf_21, rf_22, rf_23, rf_24, rl_17, rl_20, rl_21, rl_22, rl_23, rl_24, m2, c1, b0, mb]
    rw [if_neg (by omega)]
    grind
theorem d_sortOf {T : MMem} (μ : MMem) (hT : TW T) (hD : DT μ T) (hS : DS μ T) (i : Int) (hi : 0 ≤ i ∧ i < T 0 0) : ∃ μ' : MMem, FX μ μ' ∧ ∀ Q : MVal → MMem → Prop, Cal 179 [(10, 47), (0, i)] μ Q = Q (0, ftN T 1 i 0 3) μ' := by
  have h6 := hT.1
  refine cal_ex (P := fun μ' => FX μ μ') rfl ?_
  show Rn 179 B179_0 [(10, 47), (0, i), (14, 0), (14, 0), (14, 0)] [] μ _
  have m2 : m_i 2 2 i = 2 * i := m_i2 (by omega) (by omega)
  simp only [t179_0, t179_2, t179_3, t179_4, B179_0, B179_1, B179_2, B179_3, B179_4, Classical.not_not, Prod.mk.injEq, m_l, m_lp, m_lq, m_ps, m_ws, m_en, List.replicate, if_true, if_false, reduceIte, true_and, and_true, false_and, and_false, true_or, or_true, false_or, or_false, and_self, or_self, not_true_eq_false, not_false_eq_true, ne_eq, Nat.reduceLeDiff, Nat.reduceEqDiff, Nat.reduceAdd, Int.reduceLE, Int.reduceLT, Int.reduceEq, Int.reduceNe, Int.reduceAdd, Int.reduceNeg, Nat.reduceSub, Nat.succ_ne_zero, Nat.not_succ_le_zero, Nat.reduceMul, Int.reduceMul, Int.reduceSub, Int.reduceToNat, Nat.zero_le, Nat.reduceLT, r_0, r_1, r_2, r_3, r_4, r_5, r_6, r_7, r_9, r_10, r_11, r_12, r_13, r_14, r_15, r_16, r_17, r_18, r_19, r_20_0, r_21_0, r_20_1, r_21_1, r_20_2, r_21_2, r_20_3, r_21_3, r_20_4, r_21_4, r_20_5, r_21_5, r_22_0, r_22_1, r_23, r_24, r_25, r_26, r_27, r_28, r_29, r_30_0, r_30_1, r_30_2, r_31, r_31b, r_32, r_33, r_33b, r_33c, r_34, r_34b, r_35, r_45, r_46, r_47_0, r_47_1, r_40, r_50, r_51, r_41_0, r_41_1, r_42, r_43, r_44, r_36_0, r_37_0, r_38_0, r_48_0, r_36_1, r_37_1, r_38_1, r_48_1, r_36_2, r_37_2, r_38_2, r_48_2, r_36_3, r_37_3, r_36_4, r_37_4, r_36_5, r_37_5, r_39, r_8, al_13, al_14, al_15, al_16, al_18, al_19, al_25, al_26, al_27, al_28, al_29, al_30, al_31, al_32, al_33, al_34, al_35, al_36, al_37, al_38, al_39, al_40, al_41, al_42, al_43, al_44, al_45, al_46, al_48, al_49, al_50, al_51, al_52, al_53, al_54, al_55, al_56, al_57, al_58, al_59, al_60, al_61, al_62, al_63, al_64, al_65, al_66, al_67, al_68, al_69, al_70, rf_0_0, rf_0_1, rf_0_2, rf_0_3, rf_0_4, rf_0_5, rf_0_6, rf_0_7, rf_0_8, rf_0_10, rf_0_11, rf_1_0, rf_1_1, rf_1_2, rf_2_0, rf_2_1, rf_2_2, rf_3_0, rf_3_1, rf_3_2, rf_4_0, rf_4_1, rf_4_2, rf_5_0, rf_5_1, rf_5_2, rf_6_0, rf_6_1, rf_7_0, rf_7_1, rf_8_0, rf_8_1, rf_8_5, rf_8_6, rf_8_7, rf_8_8, rf_8_9, rf_9_0, rf_10_0, rf_11_0, rf_12_0, rf_47_0, rf_47_1, rf_47_2, rf_47_3, rf_47_5, rf_47_6, rf_47_8, rf_47_10, rf_47_12, rf_47_14, rf_47_15, rf_47_16, rf_47_17, rf_47_18, rf_47_19, rf_47_20, rf_47_21, rf_47_22, rf_47_23, rf_47_24, rf_47_26, rf_47_27, rf_47_29, rf_17, rf_20, rf_21, rf_22, rf_23, rf_24, rl_17, rl_20, rl_21, rl_22, rl_23, rl_24, m2]
  exact ⟨by omega, d_sortL hT hD hS hi (fun μ' f => ⟨rfl, f⟩) 3 0 μ (by omega) (FY.rf μ _)⟩
/-- the gaps by height and year -/
def GA (μ T : MMem) (i : Int) (n : Nat) : Prop := ∀ v : Nat, 1 ≤ v → v ≤ n → ∀ y : Nat, y < 24 → μ 69 (24 * (v : Int) + y) = gpA T i v y
theorem d_op4 {μ T : MMem} (hT : TW T) {i z x : Int} (hi : 0 ≤ i ∧ i < T 0 0) {n : Nat} (hn : n < 20) (hT2 : TW (m_w T 2 i ((n : Int) + 1))) {Q : MVal → MMem → Prop} (h : ∀ (ν : MMem) (u : MVal), FY μ ν (2 * i + 1) → GA ν T i (n + 1) → At 178 1 [(10, 47), (0, i), (0, z), (0, x), (0, (n : Int) + 1 + 1), u] [] ν Q) : ∀ (d b : Nat) (ν : MMem), b + d = 24 → FY μ ν (2 * i + 1) → LV ν (m_w T 2 i ((n : Int) + 1)) → GA ν T i n → (∀ y : Nat, y < b → ν 69 (24 * ((n : Int) + 1) + y) = gpA T i ((n : Int) + 1) y) → At 178 4 [(10, 47), (0, i), (0, z), (0, x), (0, (n : Int) + 1), (0, (b : Int))] [] ν Q := by
  intro d
  induction d with
  | zero =>
    intro b ν hb hF hL hG hy
    have e : b = 24 := by omega
    subst e
    have mn : m_i 0 ((n : Int) + 1) 1 = (n : Int) + 1 + 1 := m_i0 (by omega) (by omega)
    have := h ν (0, 24) hF (fun v v1 v2 y hy' => by
      by_cases q : v = n + 1
      · rw [q]
        push_cast
        exact hy y hy'
      · exact hG v v1 (by omega) y hy')
    rw [t178_4]
    simp only [t178_0, t178_2, t178_3, t178_5, t178_6, B178_0, B178_1, B178_2, B178_3, B178_4, B178_5, B178_6, Classical.not_not, Prod.mk.injEq, m_l, m_lp, m_lq, m_ps, m_ws, m_en, List.replicate, if_true, if_false, reduceIte, true_and, and_true, false_and, and_false, true_or, or_true, false_or, or_false, and_self, or_self, not_true_eq_false, not_false_eq_true, ne_eq, Nat.reduceLeDiff, Nat.reduceEqDiff, Nat.reduceAdd, Int.reduceLE, Int.reduceLT, Int.reduceEq, Int.reduceNe, Int.reduceAdd, Int.reduceNeg, Nat.reduceSub, Nat.succ_ne_zero, Nat.not_succ_le_zero, Nat.reduceMul, Int.reduceMul, Int.reduceSub, Int.reduceToNat, Nat.zero_le, Nat.reduceLT, r_0, r_1, r_2, r_3, r_4, r_5, r_6, r_7, r_9, r_10, r_11, r_12, r_13, r_14, r_15, r_16, r_17, r_18, r_19, r_20_0, r_21_0, r_20_1, r_21_1, r_20_2, r_21_2, r_20_3, r_21_3, r_20_4, r_21_4, r_20_5, r_21_5, r_22_0, r_22_1, r_23, r_24, r_25, r_26, r_27, r_28, r_29, r_30_0, r_30_1, r_30_2, r_31, r_31b, r_32, r_33, r_33b, r_33c, r_34, r_34b, r_35, r_45, r_46, r_47_0, r_47_1, r_40, r_50, r_51, r_41_0, r_41_1, r_42, r_43, r_44, r_36_0, r_37_0, r_38_0, r_48_0, r_36_1, r_37_1, r_38_1, r_48_1, r_36_2, r_37_2, r_38_2, r_48_2, r_36_3, r_37_3, r_36_4, r_37_4, r_36_5, r_37_5, r_39, r_8, al_13, al_14, al_15, al_16, al_18, al_19, al_25, al_26, al_27, al_28, al_29, al_30, al_31, al_32, al_33, al_34, al_35, al_36, al_37, al_38, al_39, al_40, al_41, al_42, al_43, al_44, al_45, al_46, al_48, al_49, al_50, al_51, al_52, al_53, al_54, al_55, al_56, al_57, al_58, al_59, al_60, al_61, al_62, al_63, al_64, al_65, al_66, al_67, al_68, al_69, al_70, rf_0_0, rf_0_1, rf_0_2, rf_0_3, rf_0_4, rf_0_5, rf_0_6, rf_0_7, rf_0_8, rf_0_10, rf_0_11, rf_1_0, rf_1_1, rf_1_2, rf_2_0, rf_2_1, rf_2_2, rf_3_0, rf_3_1, rf_3_2, rf_4_0, rf_4_1, rf_4_2, rf_5_0, rf_5_1, rf_5_2, rf_6_0, rf_6_1, rf_7_0, rf_7_1, rf_8_0, rf_8_1, rf_8_5, rf_8_6, rf_8_7, rf_8_8, rf_8_9, rf_9_0, rf_10_0, rf_11_0, rf_12_0, rf_47_0, rf_47_1, rf_47_2, rf_47_3, rf_47_5, rf_47_6, rf_47_8, rf_47_10, rf_47_12, rf_47_14, rf_47_15, rf_47_16, rf_47_17, rf_47_18, rf_47_19, rf_47_20, rf_47_21, rf_47_22, rf_47_23, rf_47_24, rf_47_26, rf_47_27, rf_47_29, rf_17, rf_20, rf_21, rf_22, rf_23, rf_24, rl_17, rl_20, rl_21, rl_22, rl_23, rl_24, mn]
    rw [if_pos (by omega)]
    exact this
  | succ d ih =>
    intro b ν hb hF hL hG hy
    have hi2 : 0 ≤ i ∧ i < m_w T 2 i ((n : Int) + 1) 0 0 := by rw [mw_ne (by decide)]; exact hi
    have cg := d_gapOf ν hT2 hL b (by omega) i hi2
    have eg : gap (m_w T 2 i ((n : Int) + 1)) (sm (m_w T 2 i ((n : Int) + 1)) (b + 1)) i = gpA T i ((n : Int) + 1) b := by
      unfold gpA
      rw [show ((b : Int)).toNat = b by omega]
    rw [eg] at cg
    have m24 : m_i 2 24 ((n : Int) + 1) = 24 * ((n : Int) + 1) := m_i2 (by omega) (by omega)
    have m24b : m_i 0 (24 * ((n : Int) + 1)) b = 24 * ((n : Int) + 1) + b := m_i0 (by omega) (by omega)
    have mb : m_i 0 b 1 = (b : Int) + 1 := m_i0 (by omega) (by omega)
    have ih := ih (b + 1) (m_w ν 69 (24 * ((n : Int) + 1) + b) (gpA T i ((n : Int) + 1) b)) (by omega) (hF.g _ _) ?_ ?_ ?_
    · push_cast at ih
      rw [t178_4]
      simp only [t178_0, t178_2, t178_3, t178_5, t178_6, B178_0, B178_1, B178_2, B178_3, B178_4, B178_5, B178_6, Classical.not_not, Prod.mk.injEq, m_l, m_lp, m_lq, m_ps, m_ws, m_en, List.replicate, if_true, if_false, reduceIte, true_and, and_true, false_and, and_false, true_or, or_true, false_or, or_false, and_self, or_self, not_true_eq_false, not_false_eq_true, ne_eq, Nat.reduceLeDiff, Nat.reduceEqDiff, Nat.reduceAdd, Int.reduceLE, Int.reduceLT, Int.reduceEq, Int.reduceNe, Int.reduceAdd, Int.reduceNeg, Nat.reduceSub, Nat.succ_ne_zero, Nat.not_succ_le_zero, Nat.reduceMul, Int.reduceMul, Int.reduceSub, Int.reduceToNat, Nat.zero_le, Nat.reduceLT, r_0, r_1, r_2, r_3, r_4, r_5, r_6, r_7, r_9, r_10, r_11, r_12, r_13, r_14, r_15, r_16, r_17, r_18, r_19, r_20_0, r_21_0, r_20_1, r_21_1, r_20_2, r_21_2, r_20_3, r_21_3, r_20_4, r_21_4, r_20_5, r_21_5, r_22_0, r_22_1, r_23, r_24, r_25, r_26, r_27, r_28, r_29, r_30_0, r_30_1, r_30_2, r_31, r_31b, r_32, r_33, r_33b, r_33c, r_34, r_34b, r_35, r_45, r_46, r_47_0, r_47_1, r_40, r_50, r_51, r_41_0, r_41_1, r_42, r_43, r_44, r_36_0, r_37_0, r_38_0, r_48_0, r_36_1, r_37_1, r_38_1, r_48_1, r_36_2, r_37_2, r_38_2, r_48_2, r_36_3, r_37_3, r_36_4, r_37_4, r_36_5, r_37_5, r_39, r_8, al_13, al_14, al_15, al_16, al_18, al_19, al_25, al_26, al_27, al_28, al_29, al_30, al_31, al_32, al_33, al_34, al_35, al_36, al_37, al_38, al_39, al_40, al_41, al_42, al_43, al_44, al_45, al_46, al_48, al_49, al_50, al_51, al_52, al_53, al_54, al_55, al_56, al_57, al_58, al_59, al_60, al_61, al_62, al_63, al_64, al_65, al_66, al_67, al_68, al_69, al_70, rf_0_0, rf_0_1, rf_0_2, rf_0_3, rf_0_4, rf_0_5, rf_0_6, rf_0_7, rf_0_8, rf_0_10, rf_0_11, rf_1_0, rf_1_1, rf_1_2, rf_2_0, rf_2_1, rf_2_2, rf_3_0, rf_3_1, rf_3_2, rf_4_0, rf_4_1, rf_4_2, rf_5_0, rf_5_1, rf_5_2, rf_6_0, rf_6_1, rf_7_0, rf_7_1, rf_8_0, rf_8_1, rf_8_5, rf_8_6, rf_8_7, rf_8_8, rf_8_9, rf_9_0, rf_10_0, rf_11_0, rf_12_0, rf_47_0, rf_47_1, rf_47_2, rf_47_3, rf_47_5, rf_47_6, rf_47_8, rf_47_10, rf_47_12, rf_47_14, rf_47_15, rf_47_16, rf_47_17, rf_47_18, rf_47_19, rf_47_20, rf_47_21, rf_47_22, rf_47_23, rf_47_24, rf_47_26, rf_47_27, rf_47_29, rf_17, rf_20, rf_21, rf_22, rf_23, rf_24, rl_17, rl_20, rl_21, rl_22, rl_23, rl_24, m24, m24b, mb, cg]
      rw [if_neg (by omega)]
      exact ⟨by omega, ih⟩
    · unfold LV NT RS at *
      have g : ∀ (k v : Int) (a : Int), a ≠ 69 → m_w ν 69 k v a = ν a := fun k v a ha => mw_ne ha
      rw [g _ _ 57 (by decide), g _ _ 58 (by decide), g _ _ 59 (by decide), g _ _ 60 (by decide), g _ _ 61 (by decide), g _ _ 62 (by decide), g _ _ 63 (by decide), g _ _ 64 (by decide), g _ _ 65 (by decide), g _ _ 66 (by decide), g _ _ 67 (by decide)]
      exact hL
    · intro v v1 v2 y hy'
      rw [mw_at, if_neg (by omega)]
      exact hG v v1 v2 y hy'
    · intro y hy'
      rw [mw_at]
      by_cases q : y = b
      · rw [if_pos (by omega), q]
      · rw [if_neg (by omega)]
        exact hy y (by omega)
theorem d_openL {μ T : MMem} (hT : TW T) (hD : DT μ T) (hS : DS μ T) {i : Int} (hi : 0 ≤ i ∧ i < T 0 0) {Q : MVal → MMem → Prop} (h : ∀ μ', FX μ μ' → GA μ' T i 20 → Q (0, ftN T 2 i 1 20) μ') : ∀ (d b : Nat) (ν : MMem) (u : MVal), b + d = 20 → FY μ ν (2 * i + 1) → GA ν T i b → At 178 1 [(10, 47), (0, i), (0, μ 54 (2 * i + 1)), (0, ftN T 2 i 1 b), (0, (b : Int) + 1), u] [] ν Q := by
  have h6 := hT.1
  have m2 : m_i 2 2 i = 2 * i := m_i2 (by omega) (by omega)
  have m21 : m_i 0 (2 * i) 1 = 2 * i + 1 := m_i0 (by omega) (by omega)
  intro d
  induction d with
  | zero =>
    intro b ν u hb hF hG
    have e : b = 20 := by omega
    subst e
    have := h _ hF.end (fun v v1 v2 y hy => by rw [mw_ne (by decide)]; exact hG v v1 v2 y hy)
    rw [t178_1]
    simp only [t178_0, t178_2, t178_3, t178_5, t178_6, B178_0, B178_1, B178_2, B178_3, B178_4, B178_5, B178_6, Classical.not_not, Prod.mk.injEq, m_l, m_lp, m_lq, m_ps, m_ws, m_en, List.replicate, if_true, if_false, reduceIte, true_and, and_true, false_and, and_false, true_or, or_true, false_or, or_false, and_self, or_self, not_true_eq_false, not_false_eq_true, ne_eq, Nat.reduceLeDiff, Nat.reduceEqDiff, Nat.reduceAdd, Int.reduceLE, Int.reduceLT, Int.reduceEq, Int.reduceNe, Int.reduceAdd, Int.reduceNeg, Nat.reduceSub, Nat.succ_ne_zero, Nat.not_succ_le_zero, Nat.reduceMul, Int.reduceMul, Int.reduceSub, Int.reduceToNat, Nat.zero_le, Nat.reduceLT, r_0, r_1, r_2, r_3, r_4, r_5, r_6, r_7, r_9, r_10, r_11, r_12, r_13, r_14, r_15, r_16, r_17, r_18, r_19, r_20_0, r_21_0, r_20_1, r_21_1, r_20_2, r_21_2, r_20_3, r_21_3, r_20_4, r_21_4, r_20_5, r_21_5, r_22_0, r_22_1, r_23, r_24, r_25, r_26, r_27, r_28, r_29, r_30_0, r_30_1, r_30_2, r_31, r_31b, r_32, r_33, r_33b, r_33c, r_34, r_34b, r_35, r_45, r_46, r_47_0, r_47_1, r_40, r_50, r_51, r_41_0, r_41_1, r_42, r_43, r_44, r_36_0, r_37_0, r_38_0, r_48_0, r_36_1, r_37_1, r_38_1, r_48_1, r_36_2, r_37_2, r_38_2, r_48_2, r_36_3, r_37_3, r_36_4, r_37_4, r_36_5, r_37_5, r_39, r_8, al_13, al_14, al_15, al_16, al_18, al_19, al_25, al_26, al_27, al_28, al_29, al_30, al_31, al_32, al_33, al_34, al_35, al_36, al_37, al_38, al_39, al_40, al_41, al_42, al_43, al_44, al_45, al_46, al_48, al_49, al_50, al_51, al_52, al_53, al_54, al_55, al_56, al_57, al_58, al_59, al_60, al_61, al_62, al_63, al_64, al_65, al_66, al_67, al_68, al_69, al_70, rf_0_0, rf_0_1, rf_0_2, rf_0_3, rf_0_4, rf_0_5, rf_0_6, rf_0_7, rf_0_8, rf_0_10, rf_0_11, rf_1_0, rf_1_1, rf_1_2, rf_2_0, rf_2_1, rf_2_2, rf_3_0, rf_3_1, rf_3_2, rf_4_0, rf_4_1, rf_4_2, rf_5_0, rf_5_1, rf_5_2, rf_6_0, rf_6_1, rf_7_0, rf_7_1, rf_8_0, rf_8_1, rf_8_5, rf_8_6, rf_8_7, rf_8_8, rf_8_9, rf_9_0, rf_10_0, rf_11_0, rf_12_0, rf_47_0, rf_47_1, rf_47_2, rf_47_3, rf_47_5, rf_47_6, rf_47_8, rf_47_10, rf_47_12, rf_47_14, rf_47_15, rf_47_16, rf_47_17, rf_47_18, rf_47_19, rf_47_20, rf_47_21, rf_47_22, rf_47_23, rf_47_24, rf_47_26, rf_47_27, rf_47_29, rf_17, rf_20, rf_21, rf_22, rf_23, rf_24, rl_17, rl_20, rl_21, rl_22, rl_23, rl_24, m2, m21]
    rw [if_pos (by omega)]
    exact ⟨by omega, this⟩
  | succ d ih =>
    intro b ν u hb hF hG
    have hT2 := hT.set2 (c := 2) (k := i) (v := (b : Int) + 1) (by omega)
    have hD2 : DT (m_w ν 54 (2 * i + 1) ((b : Int) + 1)) (m_w T 2 i ((b : Int) + 1)) := by
      have := hD.set2 (c := 2) (k := i) (v := (b : Int) + 1) (by omega) hi
      rw [show 2 * i + (2 - 1) = 2 * i + 1 by omega] at this
      exact hF.dt this
    obtain ⟨μ1, ⟨f1, l1⟩, c1⟩ := d_isSeen _ hT2 hD2 (hF.ds hS (by omega))
    rw [ns_w T (by omega)] at c1
    have h00 := ftN_0 T 2 i 1 b
    have e69 : μ1 69 = ν 69 := by rw [f1 69 (by decide), mw_ne (by decide)]
    have step := fun (ν' : MMem) (u' : MVal) f g => ih (b + 1) ν' u' (by omega) f g
    rw [ftN] at step
    push_cast at step
    rw [Int.add_comm 1 (b : Int)] at step
    have o4 := fun (x : Int) hx => d_op4 (μ := μ) hT (z := μ 54 (2 * i + 1)) (x := x) hi (n := b) (by omega) hT2 (Q := Q) hx 24 0 μ1 (by omega) ((hF.w _).fl f1) l1 (fun v v1 v2 y hy => by rw [e69]; exact hG v v1 v2 y hy) (fun y hy => by omega)
    unfold sh1 at step
    rw [t178_1]
    simp only [t178_0, t178_2, t178_3, t178_5, t178_6, B178_0, B178_1, B178_2, B178_3, B178_4, B178_5, B178_6, Classical.not_not, Prod.mk.injEq, m_l, m_lp, m_lq, m_ps, m_ws, m_en, List.replicate, if_true, if_false, reduceIte, true_and, and_true, false_and, and_false, true_or, or_true, false_or, or_false, and_self, or_self, not_true_eq_false, not_false_eq_true, ne_eq, Nat.reduceLeDiff, Nat.reduceEqDiff, Nat.reduceAdd, Int.reduceLE, Int.reduceLT, Int.reduceEq, Int.reduceNe, Int.reduceAdd, Int.reduceNeg, Nat.reduceSub, Nat.succ_ne_zero, Nat.not_succ_le_zero, Nat.reduceMul, Int.reduceMul, Int.reduceSub, Int.reduceToNat, Nat.zero_le, Nat.reduceLT, r_0, r_1, r_2, r_3, r_4, r_5, r_6, r_7, r_9, r_10, r_11, r_12, r_13, r_14, r_15, r_16, r_17, r_18, r_19, r_20_0, r_21_0, r_20_1, r_21_1, r_20_2, r_21_2, r_20_3, r_21_3, r_20_4, r_21_4, r_20_5, r_21_5, r_22_0, r_22_1, r_23, r_24, r_25, r_26, r_27, r_28, r_29, r_30_0, r_30_1, r_30_2, r_31, r_31b, r_32, r_33, r_33b, r_33c, r_34, r_34b, r_35, r_45, r_46, r_47_0, r_47_1, r_40, r_50, r_51, r_41_0, r_41_1, r_42, r_43, r_44, r_36_0, r_37_0, r_38_0, r_48_0, r_36_1, r_37_1, r_38_1, r_48_1, r_36_2, r_37_2, r_38_2, r_48_2, r_36_3, r_37_3, r_36_4, r_37_4, r_36_5, r_37_5, r_39, r_8, al_13, al_14, al_15, al_16, al_18, al_19, al_25, al_26, al_27, al_28, al_29, al_30, al_31, al_32, al_33, al_34, al_35, al_36, al_37, al_38, al_39, al_40, al_41, al_42, al_43, al_44, al_45, al_46, al_48, al_49, al_50, al_51, al_52, al_53, al_54, al_55, al_56, al_57, al_58, al_59, al_60, al_61, al_62, al_63, al_64, al_65, al_66, al_67, al_68, al_69, al_70, rf_0_0, rf_0_1, rf_0_2, rf_0_3, rf_0_4, rf_0_5, rf_0_6, rf_0_7, rf_0_8, rf_0_10, rf_0_11, rf_1_0, rf_1_1, rf_1_2, rf_2_0, rf_2_1, rf_2_2, rf_3_0, rf_3_1, rf_3_2, rf_4_0, rf_4_1, rf_4_2, rf_5_0, rf_5_1, rf_5_2, rf_6_0, rf_6_1, rf_7_0, rf_7_1, rf_8_0, rf_8_1, rf_8_5, rf_8_6, rf_8_7, rf_8_8, rf_8_9, rf_9_0, rf_10_0, rf_11_0, rf_12_0, rf_47_0, rf_47_1, rf_47_2, rf_47_3, rf_47_5, rf_47_6, rf_47_8, rf_47_10, rf_47_12, rf_47_14, rf_47_15, rf_47_16, rf_47_17, rf_47_18, rf_47_19, rf_47_20, rf_47_21, rf_47_22, rf_47_23, rf_47_24, rf_47_26, rf_47_27, rf_47_29, rf_17, rf_20, rf_21, rf_22, rf_23, rf_24, rl_17, rl_20, rl_21, rl_22, rl_23, rl_24, m2, m21, c1, b0]
    rw [if_neg (by omega)]
    refine ⟨by omega, ?_⟩
    by_cases q : seB (m_w T 2 i ((b : Int) + 1)) (ns T) = true
    · rw [if_pos q] at step
      rw [if_neg (fun z => z q)]
      exact o4 _ (fun ν' u' f g => step ν' u' f g)
    · rw [if_neg q] at step
      rw [if_pos q, h00]
      exact o4 _ (fun ν' u' f g => step ν' u' f g)
theorem d_openedOf {T : MMem} (μ : MMem) (hT : TW T) (hD : DT μ T) (hS : DS μ T) (i : Int) (hi : 0 ≤ i ∧ i < T 0 0) : ∃ μ' : MMem, (FX μ μ' ∧ GA μ' T i 20) ∧ ∀ Q : MVal → MMem → Prop, Cal 178 [(10, 47), (0, i)] μ Q = Q (0, ftN T 2 i 1 20) μ' := by
  have h6 := hT.1
  refine cal_ex (P := fun μ' => FX μ μ' ∧ GA μ' T i 20) rfl ?_
  show Rn 178 B178_0 [(10, 47), (0, i), (14, 0), (14, 0), (14, 0), (14, 0)] [] μ _
  have m2 : m_i 2 2 i = 2 * i := m_i2 (by omega) (by omega)
  have m21 : m_i 0 (2 * i) 1 = 2 * i + 1 := m_i0 (by omega) (by omega)
  simp only [t178_0, t178_2, t178_3, t178_5, t178_6, B178_0, B178_1, B178_2, B178_3, B178_4, B178_5, B178_6, Classical.not_not, Prod.mk.injEq, m_l, m_lp, m_lq, m_ps, m_ws, m_en, List.replicate, if_true, if_false, reduceIte, true_and, and_true, false_and, and_false, true_or, or_true, false_or, or_false, and_self, or_self, not_true_eq_false, not_false_eq_true, ne_eq, Nat.reduceLeDiff, Nat.reduceEqDiff, Nat.reduceAdd, Int.reduceLE, Int.reduceLT, Int.reduceEq, Int.reduceNe, Int.reduceAdd, Int.reduceNeg, Nat.reduceSub, Nat.succ_ne_zero, Nat.not_succ_le_zero, Nat.reduceMul, Int.reduceMul, Int.reduceSub, Int.reduceToNat, Nat.zero_le, Nat.reduceLT, r_0, r_1, r_2, r_3, r_4, r_5, r_6, r_7, r_9, r_10, r_11, r_12, r_13, r_14, r_15, r_16, r_17, r_18, r_19, r_20_0, r_21_0, r_20_1, r_21_1, r_20_2, r_21_2, r_20_3, r_21_3, r_20_4, r_21_4, r_20_5, r_21_5, r_22_0, r_22_1, r_23, r_24, r_25, r_26, r_27, r_28, r_29, r_30_0, r_30_1, r_30_2, r_31, r_31b, r_32, r_33, r_33b, r_33c, r_34, r_34b, r_35, r_45, r_46, r_47_0, r_47_1, r_40, r_50, r_51, r_41_0, r_41_1, r_42, r_43, r_44, r_36_0, r_37_0, r_38_0, r_48_0, r_36_1, r_37_1, r_38_1, r_48_1, r_36_2, r_37_2, r_38_2, r_48_2, r_36_3, r_37_3, r_36_4, r_37_4, r_36_5, r_37_5, r_39, r_8, al_13, al_14, al_15, al_16, al_18, al_19, al_25, al_26, al_27, al_28, al_29, al_30, al_31, al_32, al_33, al_34, al_35, al_36, al_37, al_38, al_39, al_40, al_41, al_42, al_43, al_44, al_45, al_46, al_48, al_49, al_50, al_51, al_52, al_53, al_54, al_55, al_56, al_57, al_58, al_59, al_60, al_61, al_62, al_63, al_64, al_65, al_66, al_67, al_68, al_69, al_70, rf_0_0, rf_0_1, rf_0_2, rf_0_3, rf_0_4, rf_0_5, rf_0_6, rf_0_7, rf_0_8, rf_0_10, rf_0_11, rf_1_0, rf_1_1, rf_1_2, rf_2_0, rf_2_1, rf_2_2, rf_3_0, rf_3_1, rf_3_2, rf_4_0, rf_4_1, rf_4_2, rf_5_0, rf_5_1, rf_5_2, rf_6_0, rf_6_1, rf_7_0, rf_7_1, rf_8_0, rf_8_1, rf_8_5, rf_8_6, rf_8_7, rf_8_8, rf_8_9, rf_9_0, rf_10_0, rf_11_0, rf_12_0, rf_47_0, rf_47_1, rf_47_2, rf_47_3, rf_47_5, rf_47_6, rf_47_8, rf_47_10, rf_47_12, rf_47_14, rf_47_15, rf_47_16, rf_47_17, rf_47_18, rf_47_19, rf_47_20, rf_47_21, rf_47_22, rf_47_23, rf_47_24, rf_47_26, rf_47_27, rf_47_29, rf_17, rf_20, rf_21, rf_22, rf_23, rf_24, rl_17, rl_20, rl_21, rl_22, rl_23, rl_24, m2, m21]
  exact ⟨by omega, d_openL hT hD hS hi (fun μ' f g => ⟨rfl, f, g⟩) 20 0 μ _ (by omega) (FY.rf μ _) (fun v v1 v2 => by omega)⟩
/-- how many heights of some have the gap of height a -/
def lkN (T : MMem) (i x y a : Int) : Nat → Int
  | 0 => 0
  | n + 1 => if tb x a ∧ tb x ((n : Int) + 1) ∧ gpA T i a y = gpA T i ((n : Int) + 1) y then lkN T i x y a n + 1 else lkN T i x y a n
def alN (T : MMem) (i x y : Int) : Nat → Int
  | 0 => 0
  | n + 1 => if lkN T i x y ((n : Int) + 1) 20 > alN T i x y n then lkN T i x y ((n : Int) + 1) 20 else alN T i x y n
theorem lkN_in (T : MMem) (i x y a : Int) : ∀ n : Nat, 0 ≤ lkN T i x y a n ∧ lkN T i x y a n ≤ n
  | 0 => by simp [lkN]
  | n + 1 => by
    have := lkN_in T i x y a n
    rw [lkN]
    split <;> omega
theorem lk_ty {T : MMem} {i x y a : Int} : ∀ n : Nat, lkN T i x y a n = if tb x a then tyN T i x y (gpA T i a y) n else 0
  | 0 => by simp [lkN, tyN]
  | n + 1 => by
    have ih := lk_ty (T := T) (i := i) (x := x) (y := y) (a := a) n
    rw [lkN, tyN, ih]
    by_cases q : tb x a = true
    · rw [if_pos q, if_pos q]
      by_cases q2 : tb x ((n : Int) + 1) = true ∧ gpA T i ((n : Int) + 1) y = gpA T i a y
      · rw [if_pos ⟨q, q2.1, q2.2.symm⟩, if_pos q2]
      · rw [if_neg (fun z => q2 ⟨z.2.1, z.2.2.symm⟩), if_neg q2]
    · rw [if_neg q, if_neg q, if_neg (fun z => q z.1)]
theorem gt_ge {T : MMem} {i x y : Int} : ∀ n : Nat, 0 ≤ gtN T i x y n ∧ ∀ v : Nat, v < n → tyN T i x y v 20 ≤ gtN T i x y n
  | 0 => ⟨by simp [gtN], fun v hv => by omega⟩
  | n + 1 => by
    have ih := gt_ge (T := T) (i := i) (x := x) (y := y) n
    rw [gtN]
    refine ⟨by split <;> omega, fun v hv => ?_⟩
    by_cases q : v = n
    · rw [q]; split <;> omega
    · have := ih.2 v (by omega)
      split <;> omega
theorem gt_is {T : MMem} {i x y : Int} : ∀ n : Nat, gtN T i x y n = 0 ∨ ∃ v : Nat, v < n ∧ gtN T i x y n = tyN T i x y v 20
  | 0 => Or.inl rfl
  | n + 1 => by
    have ih := gt_is (T := T) (i := i) (x := x) (y := y) n
    rw [gtN]
    split
    · exact Or.inr ⟨n, by omega, rfl⟩
    · rcases ih with q | ⟨v, h1, h2⟩
      · exact Or.inl q
      · exact Or.inr ⟨v, by omega, h2⟩
theorem al_ge {T : MMem} {i x y : Int} : ∀ n : Nat, 0 ≤ alN T i x y n ∧ ∀ a : Nat, a < n → lkN T i x y ((a : Int) + 1) 20 ≤ alN T i x y n
  | 0 => ⟨by simp [alN], fun v hv => by omega⟩
  | n + 1 => by
    have ih := al_ge (T := T) (i := i) (x := x) (y := y) n
    rw [alN]
    refine ⟨by split <;> omega, fun v hv => ?_⟩
    by_cases q : v = n
    · rw [q]; split <;> omega
    · have := ih.2 v (by omega)
      split <;> omega
theorem al_is {T : MMem} {i x y : Int} : ∀ n : Nat, alN T i x y n = 0 ∨ ∃ a : Nat, a < n ∧ alN T i x y n = lkN T i x y ((a : Int) + 1) 20
  | 0 => Or.inl rfl
  | n + 1 => by
    have ih := al_is (T := T) (i := i) (x := x) (y := y) n
    rw [alN]
    split
    · exact Or.inr ⟨n, by omega, rfl⟩
    · rcases ih with q | ⟨v, h1, h2⟩
      · exact Or.inl q
      · exact Or.inr ⟨v, by omega, h2⟩
theorem ty_pos {T : MMem} {i x y v : Int} : ∀ n : Nat, 0 < tyN T i x y v n → ∃ a : Nat, a < n ∧ tb x ((a : Int) + 1) = true ∧ gpA T i ((a : Int) + 1) y = v
  | 0, h => by simp [tyN] at h
  | n + 1, h => by
    rw [tyN] at h
    by_cases q : tb x ((n : Int) + 1) = true ∧ gpA T i ((n : Int) + 1) y = v
    · exact ⟨n, by omega, q⟩
    · rw [if_neg q] at h
      obtain ⟨a, h1, h2⟩ := ty_pos n h
      exact ⟨a, by omega, h2⟩
theorem gpA_in {T : MMem} (hT : TW T) {i : Int} (hi : 0 ≤ i ∧ i < T 0 0) {h : Int} (hh : 1 ≤ h ∧ h ≤ 20) (y : Int) : 0 ≤ gpA T i h y ∧ gpA T i h y ≤ 20 := by
  have hT2 := hT.set2 (c := 2) (k := i) (v := h) (by omega)
  exact gap_in hT2 (sm_SI hT2 _) (by rw [mw_ne (by decide)]; exact hi)
theorem al_gt {T : MMem} (hT : TW T) {i x y : Int} (hi : 0 ≤ i ∧ i < T 0 0) : alN T i x y 20 = gtN T i x y 21 := by
  have g1 := gt_ge (T := T) (i := i) (x := x) (y := y) 21
  have a1 := al_ge (T := T) (i := i) (x := x) (y := y) 20
  refine Int.le_antisymm ?_ ?_
  · rcases al_is (T := T) (i := i) (x := x) (y := y) 20 with q | ⟨a, h1, h2⟩
    · omega
    · rw [h2, lk_ty]
      split
      · have hg := gpA_in hT hi (h := (a : Int) + 1) (by omega) y
        have := g1.2 (gpA T i ((a : Int) + 1) y).toNat (by omega)
        rw [show (((gpA T i ((a : Int) + 1) y).toNat : Nat) : Int) = gpA T i ((a : Int) + 1) y by omega] at this
        exact this
      · omega
  · rcases gt_is (T := T) (i := i) (x := x) (y := y) 21 with q | ⟨v, h1, h2⟩
    · omega
    · by_cases z : 0 < tyN T i x y v 20
      · obtain ⟨a, b1, b2, b3⟩ := ty_pos 20 z
        have := a1.2 a b1
        rw [lk_ty, if_pos b2, b3] at this
        rw [h2]
        exact this
      · omega
theorem d_alk2 {μ T : MMem} {i x : Int} (hG : GA μ T i 20) {y : Nat} (hy : y < 24) {a : Nat} (ha : a < 20) {m : Int} {Q : MVal → MMem → Prop} (h : At 182 5 [(10, 47), (0, x), (0, (y : Int)), (0, m), (0, (a : Int) + 1), (0, lkN T i x y ((a : Int) + 1) 20), (0, 21)] [] μ Q) : ∀ d b : Nat, b + d = 20 → At 182 2 [(10, 47), (0, x), (0, (y : Int)), (0, m), (0, (a : Int) + 1), (0, lkN T i x y ((a : Int) + 1) b), (0, (b : Int) + 1)] [] μ Q := by
  intro d
  induction d with
  | zero =>
    intro b hb
    have e : b = 20 := by omega
    subst e
    rw [t182_2]
    simp only [t182_0, t182_3, t182_4, t182_6, B182_0, B182_1, B182_2, B182_3, B182_4, B182_5, B182_6, Classical.not_not, Prod.mk.injEq, m_l, m_lp, m_lq, m_ps, m_ws, m_en, List.replicate, if_true, if_false, reduceIte, true_and, and_true, false_and, and_false, true_or, or_true, false_or, or_false, and_self, or_self, not_true_eq_false, not_false_eq_true, ne_eq, Nat.reduceLeDiff, Nat.reduceEqDiff, Nat.reduceAdd, Int.reduceLE, Int.reduceLT, Int.reduceEq, Int.reduceNe, Int.reduceAdd, Int.reduceNeg, Nat.reduceSub, Nat.succ_ne_zero, Nat.not_succ_le_zero, Nat.reduceMul, Int.reduceMul, Int.reduceSub, Int.reduceToNat, Nat.zero_le, Nat.reduceLT, r_0, r_1, r_2, r_3, r_4, r_5, r_6, r_7, r_9, r_10, r_11, r_12, r_13, r_14, r_15, r_16, r_17, r_18, r_19, r_20_0, r_21_0, r_20_1, r_21_1, r_20_2, r_21_2, r_20_3, r_21_3, r_20_4, r_21_4, r_20_5, r_21_5, r_22_0, r_22_1, r_23, r_24, r_25, r_26, r_27, r_28, r_29, r_30_0, r_30_1, r_30_2, r_31, r_31b, r_32, r_33, r_33b, r_33c, r_34, r_34b, r_35, r_45, r_46, r_47_0, r_47_1, r_40, r_50, r_51, r_41_0, r_41_1, r_42, r_43, r_44, r_36_0, r_37_0, r_38_0, r_48_0, r_36_1, r_37_1, r_38_1, r_48_1, r_36_2, r_37_2, r_38_2, r_48_2, r_36_3, r_37_3, r_36_4, r_37_4, r_36_5, r_37_5, r_39, r_8, al_13, al_14, al_15, al_16, al_18, al_19, al_25, al_26, al_27, al_28, al_29, al_30, al_31, al_32, al_33, al_34, al_35, al_36, al_37, al_38, al_39, al_40, al_41, al_42, al_43, al_44, al_45, al_46, al_48, al_49, al_50, al_51, al_52, al_53, al_54, al_55, al_56, al_57, al_58, al_59, al_60, al_61, al_62, al_63, al_64, al_65, al_66, al_67, al_68, al_69, al_70, rf_0_0, rf_0_1, rf_0_2, rf_0_3, rf_0_4, rf_0_5, rf_0_6, rf_0_7, rf_0_8, rf_0_10, rf_0_11, rf_1_0, rf_1_1, rf_1_2, rf_2_0, rf_2_1, rf_2_2, rf_3_0, rf_3_1, rf_3_2, rf_4_0, rf_4_1, rf_4_2, rf_5_0, rf_5_1, rf_5_2, rf_6_0, rf_6_1, rf_7_0, rf_7_1, rf_8_0, rf_8_1, rf_8_5, rf_8_6, rf_8_7, rf_8_8, rf_8_9, rf_9_0, rf_10_0, rf_11_0, rf_12_0, rf_47_0, rf_47_1, rf_47_2, rf_47_3, rf_47_5, rf_47_6, rf_47_8, rf_47_10, rf_47_12, rf_47_14, rf_47_15, rf_47_16, rf_47_17, rf_47_18, rf_47_19, rf_47_20, rf_47_21, rf_47_22, rf_47_23, rf_47_24, rf_47_26, rf_47_27, rf_47_29, rf_17, rf_20, rf_21, rf_22, rf_23, rf_24, rl_17, rl_20, rl_21, rl_22, rl_23, rl_24]
    rw [if_pos (by omega)]
    exact h
  | succ d ih =>
    intro b hb
    have ih := ih (b + 1) (by omega)
    have hl := lkN_in T i x y ((a : Int) + 1) b
    have ga := hG (a + 1) (by omega) (by omega) y hy
    have gb := hG (b + 1) (by omega) (by omega) y hy
    push_cast at ga gb
    have ma : m_i 2 24 ((a : Int) + 1) = 24 * ((a : Int) + 1) := m_i2 (by omega) (by omega)
    have may : m_i 0 (24 * ((a : Int) + 1)) y = 24 * ((a : Int) + 1) + y := m_i0 (by omega) (by omega)
    have mb : m_i 2 24 ((b : Int) + 1) = 24 * ((b : Int) + 1) := m_i2 (by omega) (by omega)
    have mby : m_i 0 (24 * ((b : Int) + 1)) y = 24 * ((b : Int) + 1) + y := m_i0 (by omega) (by omega)
    have mb1 : m_i 0 ((b : Int) + 1) 1 = (b : Int) + 1 + 1 := m_i0 (by omega) (by omega)
    have ml1 : m_i 0 (lkN T i x y ((a : Int) + 1) b) 1 = lkN T i x y ((a : Int) + 1) b + 1 := m_i0 (by omega) (by omega)
    have ml0 : m_i 0 (lkN T i x y ((a : Int) + 1) b) 0 = lkN T i x y ((a : Int) + 1) b := by rw [m_i0 (by omega) (by omega)]; omega
    rw [lkN] at ih
    push_cast at ih
    rw [t182_2]
    simp only [t182_0, t182_3, t182_4, t182_6, B182_0, B182_1, B182_2, B182_3, B182_4, B182_5, B182_6, Classical.not_not, Prod.mk.injEq, m_l, m_lp, m_lq, m_ps, m_ws, m_en, List.replicate, if_true, if_false, reduceIte, true_and, and_true, false_and, and_false, true_or, or_true, false_or, or_false, and_self, or_self, not_true_eq_false, not_false_eq_true, ne_eq, Nat.reduceLeDiff, Nat.reduceEqDiff, Nat.reduceAdd, Int.reduceLE, Int.reduceLT, Int.reduceEq, Int.reduceNe, Int.reduceAdd, Int.reduceNeg, Nat.reduceSub, Nat.succ_ne_zero, Nat.not_succ_le_zero, Nat.reduceMul, Int.reduceMul, Int.reduceSub, Int.reduceToNat, Nat.zero_le, Nat.reduceLT, r_0, r_1, r_2, r_3, r_4, r_5, r_6, r_7, r_9, r_10, r_11, r_12, r_13, r_14, r_15, r_16, r_17, r_18, r_19, r_20_0, r_21_0, r_20_1, r_21_1, r_20_2, r_21_2, r_20_3, r_21_3, r_20_4, r_21_4, r_20_5, r_21_5, r_22_0, r_22_1, r_23, r_24, r_25, r_26, r_27, r_28, r_29, r_30_0, r_30_1, r_30_2, r_31, r_31b, r_32, r_33, r_33b, r_33c, r_34, r_34b, r_35, r_45, r_46, r_47_0, r_47_1, r_40, r_50, r_51, r_41_0, r_41_1, r_42, r_43, r_44, r_36_0, r_37_0, r_38_0, r_48_0, r_36_1, r_37_1, r_38_1, r_48_1, r_36_2, r_37_2, r_38_2, r_48_2, r_36_3, r_37_3, r_36_4, r_37_4, r_36_5, r_37_5, r_39, r_8, al_13, al_14, al_15, al_16, al_18, al_19, al_25, al_26, al_27, al_28, al_29, al_30, al_31, al_32, al_33, al_34, al_35, al_36, al_37, al_38, al_39, al_40, al_41, al_42, al_43, al_44, al_45, al_46, al_48, al_49, al_50, al_51, al_52, al_53, al_54, al_55, al_56, al_57, al_58, al_59, al_60, al_61, al_62, al_63, al_64, al_65, al_66, al_67, al_68, al_69, al_70, rf_0_0, rf_0_1, rf_0_2, rf_0_3, rf_0_4, rf_0_5, rf_0_6, rf_0_7, rf_0_8, rf_0_10, rf_0_11, rf_1_0, rf_1_1, rf_1_2, rf_2_0, rf_2_1, rf_2_2, rf_3_0, rf_3_1, rf_3_2, rf_4_0, rf_4_1, rf_4_2, rf_5_0, rf_5_1, rf_5_2, rf_6_0, rf_6_1, rf_7_0, rf_7_1, rf_8_0, rf_8_1, rf_8_5, rf_8_6, rf_8_7, rf_8_8, rf_8_9, rf_9_0, rf_10_0, rf_11_0, rf_12_0, rf_47_0, rf_47_1, rf_47_2, rf_47_3, rf_47_5, rf_47_6, rf_47_8, rf_47_10, rf_47_12, rf_47_14, rf_47_15, rf_47_16, rf_47_17, rf_47_18, rf_47_19, rf_47_20, rf_47_21, rf_47_22, rf_47_23, rf_47_24, rf_47_26, rf_47_27, rf_47_29, rf_17, rf_20, rf_21, rf_22, rf_23, rf_24, rl_17, rl_20, rl_21, rl_22, rl_23, rl_24, d_isIn, b0, ma, may, mb, mby, mb1, ml1, ml0, ga, gb]
    rw [if_neg (by omega)]
    grind
theorem d_alk1 {μ T : MMem} {i x : Int} (hG : GA μ T i 20) {y : Nat} (hy : y < 24) {Q : MVal → MMem → Prop} (h : Q (0, alN T i x y 20) μ) : ∀ (d b : Nat) (u v : MVal), b + d = 20 → At 182 1 [(10, 47), (0, x), (0, (y : Int)), (0, alN T i x y b), (0, (b : Int) + 1), u, v] [] μ Q := by
  intro d
  induction d with
  | zero =>
    intro b u v hb
    have e : b = 20 := by omega
    subst e
    rw [t182_1]
    simp only [t182_0, t182_3, t182_4, t182_6, B182_0, B182_1, B182_2, B182_3, B182_4, B182_5, B182_6, Classical.not_not, Prod.mk.injEq, m_l, m_lp, m_lq, m_ps, m_ws, m_en, List.replicate, if_true, if_false, reduceIte, true_and, and_true, false_and, and_false, true_or, or_true, false_or, or_false, and_self, or_self, not_true_eq_false, not_false_eq_true, ne_eq, Nat.reduceLeDiff, Nat.reduceEqDiff, Nat.reduceAdd, Int.reduceLE, Int.reduceLT, Int.reduceEq, Int.reduceNe, Int.reduceAdd, Int.reduceNeg, Nat.reduceSub, Nat.succ_ne_zero, Nat.not_succ_le_zero, Nat.reduceMul, Int.reduceMul, Int.reduceSub, Int.reduceToNat, Nat.zero_le, Nat.reduceLT, r_0, r_1, r_2, r_3, r_4, r_5, r_6, r_7, r_9, r_10, r_11, r_12, r_13, r_14, r_15, r_16, r_17, r_18, r_19, r_20_0, r_21_0, r_20_1, r_21_1, r_20_2, r_21_2, r_20_3, r_21_3, r_20_4, r_21_4, r_20_5, r_21_5, r_22_0, r_22_1, r_23, r_24, r_25, r_26, r_27, r_28, r_29, r_30_0, r_30_1, r_30_2, r_31, r_31b, r_32, r_33, r_33b, r_33c, r_34, r_34b, r_35, r_45, r_46, r_47_0, r_47_1, r_40, r_50, r_51, r_41_0, r_41_1, r_42, r_43, r_44, r_36_0, r_37_0, r_38_0, r_48_0, r_36_1, r_37_1, r_38_1, r_48_1, r_36_2, r_37_2, r_38_2, r_48_2, r_36_3, r_37_3, r_36_4, r_37_4, r_36_5, r_37_5, r_39, r_8, al_13, al_14, al_15, al_16, al_18, al_19, al_25, al_26, al_27, al_28, al_29, al_30, al_31, al_32, al_33, al_34, al_35, al_36, al_37, al_38, al_39, al_40, al_41, al_42, al_43, al_44, al_45, al_46, al_48, al_49, al_50, al_51, al_52, al_53, al_54, al_55, al_56, al_57, al_58, al_59, al_60, al_61, al_62, al_63, al_64, al_65, al_66, al_67, al_68, al_69, al_70, rf_0_0, rf_0_1, rf_0_2, rf_0_3, rf_0_4, rf_0_5, rf_0_6, rf_0_7, rf_0_8, rf_0_10, rf_0_11, rf_1_0, rf_1_1, rf_1_2, rf_2_0, rf_2_1, rf_2_2, rf_3_0, rf_3_1, rf_3_2, rf_4_0, rf_4_1, rf_4_2, rf_5_0, rf_5_1, rf_5_2, rf_6_0, rf_6_1, rf_7_0, rf_7_1, rf_8_0, rf_8_1, rf_8_5, rf_8_6, rf_8_7, rf_8_8, rf_8_9, rf_9_0, rf_10_0, rf_11_0, rf_12_0, rf_47_0, rf_47_1, rf_47_2, rf_47_3, rf_47_5, rf_47_6, rf_47_8, rf_47_10, rf_47_12, rf_47_14, rf_47_15, rf_47_16, rf_47_17, rf_47_18, rf_47_19, rf_47_20, rf_47_21, rf_47_22, rf_47_23, rf_47_24, rf_47_26, rf_47_27, rf_47_29, rf_17, rf_20, rf_21, rf_22, rf_23, rf_24, rl_17, rl_20, rl_21, rl_22, rl_23, rl_24]
    rw [if_pos (by omega)]
    exact h
  | succ d ih =>
    intro b u v hb
    have ih := fun u v => ih (b + 1) u v (by omega)
    have mb1 : m_i 0 ((b : Int) + 1) 1 = (b : Int) + 1 + 1 := m_i0 (by omega) (by omega)
    rw [alN] at ih
    push_cast at ih
    rw [t182_1]
    simp only [t182_0, t182_3, t182_4, t182_6, B182_0, B182_1, B182_2, B182_3, B182_4, B182_5, B182_6, Classical.not_not, Prod.mk.injEq, m_l, m_lp, m_lq, m_ps, m_ws, m_en, List.replicate, if_true, if_false, reduceIte, true_and, and_true, false_and, and_false, true_or, or_true, false_or, or_false, and_self, or_self, not_true_eq_false, not_false_eq_true, ne_eq, Nat.reduceLeDiff, Nat.reduceEqDiff, Nat.reduceAdd, Int.reduceLE, Int.reduceLT, Int.reduceEq, Int.reduceNe, Int.reduceAdd, Int.reduceNeg, Nat.reduceSub, Nat.succ_ne_zero, Nat.not_succ_le_zero, Nat.reduceMul, Int.reduceMul, Int.reduceSub, Int.reduceToNat, Nat.zero_le, Nat.reduceLT, r_0, r_1, r_2, r_3, r_4, r_5, r_6, r_7, r_9, r_10, r_11, r_12, r_13, r_14, r_15, r_16, r_17, r_18, r_19, r_20_0, r_21_0, r_20_1, r_21_1, r_20_2, r_21_2, r_20_3, r_21_3, r_20_4, r_21_4, r_20_5, r_21_5, r_22_0, r_22_1, r_23, r_24, r_25, r_26, r_27, r_28, r_29, r_30_0, r_30_1, r_30_2, r_31, r_31b, r_32, r_33, r_33b, r_33c, r_34, r_34b, r_35, r_45, r_46, r_47_0, r_47_1, r_40, r_50, r_51, r_41_0, r_41_1, r_42, r_43, r_44, r_36_0, r_37_0, r_38_0, r_48_0, r_36_1, r_37_1, r_38_1, r_48_1, r_36_2, r_37_2, r_38_2, r_48_2, r_36_3, r_37_3, r_36_4, r_37_4, r_36_5, r_37_5, r_39, r_8, al_13, al_14, al_15, al_16, al_18, al_19, al_25, al_26, al_27, al_28, al_29, al_30, al_31, al_32, al_33, al_34, al_35, al_36, al_37, al_38, al_39, al_40, al_41, al_42, al_43, al_44, al_45, al_46, al_48, al_49, al_50, al_51, al_52, al_53, al_54, al_55, al_56, al_57, al_58, al_59, al_60, al_61, al_62, al_63, al_64, al_65, al_66, al_67, al_68, al_69, al_70, rf_0_0, rf_0_1, rf_0_2, rf_0_3, rf_0_4, rf_0_5, rf_0_6, rf_0_7, rf_0_8, rf_0_10, rf_0_11, rf_1_0, rf_1_1, rf_1_2, rf_2_0, rf_2_1, rf_2_2, rf_3_0, rf_3_1, rf_3_2, rf_4_0, rf_4_1, rf_4_2, rf_5_0, rf_5_1, rf_5_2, rf_6_0, rf_6_1, rf_7_0, rf_7_1, rf_8_0, rf_8_1, rf_8_5, rf_8_6, rf_8_7, rf_8_8, rf_8_9, rf_9_0, rf_10_0, rf_11_0, rf_12_0, rf_47_0, rf_47_1, rf_47_2, rf_47_3, rf_47_5, rf_47_6, rf_47_8, rf_47_10, rf_47_12, rf_47_14, rf_47_15, rf_47_16, rf_47_17, rf_47_18, rf_47_19, rf_47_20, rf_47_21, rf_47_22, rf_47_23, rf_47_24, rf_47_26, rf_47_27, rf_47_29, rf_17, rf_20, rf_21, rf_22, rf_23, rf_24, rl_17, rl_20, rl_21, rl_22, rl_23, rl_24]
    rw [if_neg (by omega)]
    refine d_alk2 hG hy (a := b) (by omega) ?_ 20 0 (by omega)
    rw [t182_5]
    simp only [t182_0, t182_3, t182_4, t182_6, B182_0, B182_1, B182_2, B182_3, B182_4, B182_5, B182_6, Classical.not_not, Prod.mk.injEq, m_l, m_lp, m_lq, m_ps, m_ws, m_en, List.replicate, if_true, if_false, reduceIte, true_and, and_true, false_and, and_false, true_or, or_true, false_or, or_false, and_self, or_self, not_true_eq_false, not_false_eq_true, ne_eq, Nat.reduceLeDiff, Nat.reduceEqDiff, Nat.reduceAdd, Int.reduceLE, Int.reduceLT, Int.reduceEq, Int.reduceNe, Int.reduceAdd, Int.reduceNeg, Nat.reduceSub, Nat.succ_ne_zero, Nat.not_succ_le_zero, Nat.reduceMul, Int.reduceMul, Int.reduceSub, Int.reduceToNat, Nat.zero_le, Nat.reduceLT, r_0, r_1, r_2, r_3, r_4, r_5, r_6, r_7, r_9, r_10, r_11, r_12, r_13, r_14, r_15, r_16, r_17, r_18, r_19, r_20_0, r_21_0, r_20_1, r_21_1, r_20_2, r_21_2, r_20_3, r_21_3, r_20_4, r_21_4, r_20_5, r_21_5, r_22_0, r_22_1, r_23, r_24, r_25, r_26, r_27, r_28, r_29, r_30_0, r_30_1, r_30_2, r_31, r_31b, r_32, r_33, r_33b, r_33c, r_34, r_34b, r_35, r_45, r_46, r_47_0, r_47_1, r_40, r_50, r_51, r_41_0, r_41_1, r_42, r_43, r_44, r_36_0, r_37_0, r_38_0, r_48_0, r_36_1, r_37_1, r_38_1, r_48_1, r_36_2, r_37_2, r_38_2, r_48_2, r_36_3, r_37_3, r_36_4, r_37_4, r_36_5, r_37_5, r_39, r_8, al_13, al_14, al_15, al_16, al_18, al_19, al_25, al_26, al_27, al_28, al_29, al_30, al_31, al_32, al_33, al_34, al_35, al_36, al_37, al_38, al_39, al_40, al_41, al_42, al_43, al_44, al_45, al_46, al_48, al_49, al_50, al_51, al_52, al_53, al_54, al_55, al_56, al_57, al_58, al_59, al_60, al_61, al_62, al_63, al_64, al_65, al_66, al_67, al_68, al_69, al_70, rf_0_0, rf_0_1, rf_0_2, rf_0_3, rf_0_4, rf_0_5, rf_0_6, rf_0_7, rf_0_8, rf_0_10, rf_0_11, rf_1_0, rf_1_1, rf_1_2, rf_2_0, rf_2_1, rf_2_2, rf_3_0, rf_3_1, rf_3_2, rf_4_0, rf_4_1, rf_4_2, rf_5_0, rf_5_1, rf_5_2, rf_6_0, rf_6_1, rf_7_0, rf_7_1, rf_8_0, rf_8_1, rf_8_5, rf_8_6, rf_8_7, rf_8_8, rf_8_9, rf_9_0, rf_10_0, rf_11_0, rf_12_0, rf_47_0, rf_47_1, rf_47_2, rf_47_3, rf_47_5, rf_47_6, rf_47_8, rf_47_10, rf_47_12, rf_47_14, rf_47_15, rf_47_16, rf_47_17, rf_47_18, rf_47_19, rf_47_20, rf_47_21, rf_47_22, rf_47_23, rf_47_24, rf_47_26, rf_47_27, rf_47_29, rf_17, rf_20, rf_21, rf_22, rf_23, rf_24, rl_17, rl_20, rl_21, rl_22, rl_23, rl_24, d_greater, mb1]
    exact ih _ _
theorem d_alike {T : MMem} {i : Int} (x : Int) (μ : MMem) (hT : TW T) (hi : 0 ≤ i ∧ i < T 0 0) (hG : GA μ T i 20) (y : Nat) (hy : y < 24) (Q : MVal → MMem → Prop) : Cal 182 [(10, 47), (0, x), (0, (y : Int))] μ Q = Q (0, gtN T i x y 21) μ := by
  refine cal_eq rfl ?_ Q
  show Rn 182 B182_0 [(10, 47), (0, x), (0, (y : Int)), (14, 0), (14, 0), (14, 0), (14, 0)] [] μ _
  simp only [r_0, r_1, r_2, r_3, r_4, r_5, r_6, r_7, r_9, r_10, r_11, r_12, r_13, r_14, r_15, r_16, r_17, r_18, r_19, r_20_0, r_21_0, r_20_1, r_21_1, r_20_2, r_21_2, r_20_3, r_21_3, r_20_4, r_21_4, r_20_5, r_21_5, r_22_0, r_22_1, r_23, r_24, r_25, r_26, r_27, r_28, r_29, r_30_0, r_30_1, r_30_2, r_31, r_31b, r_32, r_33, r_33b, r_33c, r_34, r_34b, r_35, r_45, r_46, r_47_0, r_47_1, r_40, r_50, r_51, r_41_0, r_41_1, r_42, r_43, r_44, r_36_0, r_37_0, r_38_0, r_48_0, r_36_1, r_37_1, r_38_1, r_48_1, r_36_2, r_37_2, r_38_2, r_48_2, r_36_3, r_37_3, r_36_4, r_37_4, r_36_5, r_37_5, r_39, r_8, al_13, al_14, al_15, al_16, al_18, al_19, al_25, al_26, al_27, al_28, al_29, al_30, al_31, al_32, al_33, al_34, al_35, al_36, al_37, al_38, al_39, al_40, al_41, al_42, al_43, al_44, al_45, al_46, al_48, al_49, al_50, al_51, al_52, al_53, al_54, al_55, al_56, al_57, al_58, al_59, al_60, al_61, al_62, al_63, al_64, al_65, al_66, al_67, al_68, al_69, al_70, rf_0_0, rf_0_1, rf_0_2, rf_0_3, rf_0_4, rf_0_5, rf_0_6, rf_0_7, rf_0_8, rf_0_10, rf_0_11, rf_1_0, rf_1_1, rf_1_2, rf_2_0, rf_2_1, rf_2_2, rf_3_0, rf_3_1, rf_3_2, rf_4_0, rf_4_1, rf_4_2, rf_5_0, rf_5_1, rf_5_2, rf_6_0, rf_6_1, rf_7_0, rf_7_1, rf_8_0, rf_8_1, rf_8_5, rf_8_6, rf_8_7, rf_8_8, rf_8_9, rf_9_0, rf_10_0, rf_11_0, rf_12_0, rf_47_0, rf_47_1, rf_47_2, rf_47_3, rf_47_5, rf_47_6, rf_47_8, rf_47_10, rf_47_12, rf_47_14, rf_47_15, rf_47_16, rf_47_17, rf_47_18, rf_47_19, rf_47_20, rf_47_21, rf_47_22, rf_47_23, rf_47_24, rf_47_26, rf_47_27, rf_47_29, rf_17, rf_20, rf_21, rf_22, rf_23, rf_24, rl_17, rl_20, rl_21, rl_22, rl_23, rl_24, Classical.not_not, Prod.mk.injEq, m_l, m_lp, m_lq, m_ps, m_ws, m_en, List.replicate, if_true, if_false, reduceIte, true_and, and_true, false_and, and_false, true_or, or_true, false_or, or_false, and_self, or_self, not_true_eq_false, not_false_eq_true, ne_eq, Nat.reduceLeDiff, Nat.reduceEqDiff, Nat.reduceAdd, Int.reduceLE, Int.reduceLT, Int.reduceEq, Int.reduceNe, Int.reduceAdd, Int.reduceNeg, Nat.reduceSub, Nat.succ_ne_zero, Nat.not_succ_le_zero, Nat.reduceMul, Int.reduceMul, Int.reduceSub, Int.reduceToNat, Nat.zero_le, Nat.reduceLT, t182_0, t182_3, t182_4, t182_6, B182_0, B182_1, B182_2, B182_3, B182_4, B182_5, B182_6]
  rw [← al_gt hT hi]
  exact d_alk1 hG hy ⟨rfl, rfl⟩ 20 0 _ _ (by omega)
theorem d_askL {μ T : MMem} (hT : TW T) {i x : Int} (hi : 0 ≤ i ∧ i < T 0 0) (hG : GA μ T i 20) {Q : MVal → MMem → Prop} (h : Q (0, akN T i x 24) μ) : ∀ d b : Nat, b + d = 24 → 0 < b → At 183 1 [(10, 47), (0, i), (0, x), (0, akN T i x b), (0, (b : Int))] [] μ Q := by
  intro d
  induction d with
  | zero =>
    intro b hb h0
    have e : b = 24 := by omega
    subst e
    rw [t183_1]
    simp only [t183_0, t183_2, t183_3, t183_4, B183_0, B183_1, B183_2, B183_3, B183_4, Classical.not_not, Prod.mk.injEq, m_l, m_lp, m_lq, m_ps, m_ws, m_en, List.replicate, if_true, if_false, reduceIte, true_and, and_true, false_and, and_false, true_or, or_true, false_or, or_false, and_self, or_self, not_true_eq_false, not_false_eq_true, ne_eq, Nat.reduceLeDiff, Nat.reduceEqDiff, Nat.reduceAdd, Int.reduceLE, Int.reduceLT, Int.reduceEq, Int.reduceNe, Int.reduceAdd, Int.reduceNeg, Nat.reduceSub, Nat.succ_ne_zero, Nat.not_succ_le_zero, Nat.reduceMul, Int.reduceMul, Int.reduceSub, Int.reduceToNat, Nat.zero_le, Nat.reduceLT, r_0, r_1, r_2, r_3, r_4, r_5, r_6, r_7, r_9, r_10, r_11, r_12, r_13, r_14, r_15, r_16, r_17, r_18, r_19, r_20_0, r_21_0, r_20_1, r_21_1, r_20_2, r_21_2, r_20_3, r_21_3, r_20_4, r_21_4, r_20_5, r_21_5, r_22_0, r_22_1, r_23, r_24, r_25, r_26, r_27, r_28, r_29, r_30_0, r_30_1, r_30_2, r_31, r_31b, r_32, r_33, r_33b, r_33c, r_34, r_34b, r_35, r_45, r_46, r_47_0, r_47_1, r_40, r_50, r_51, r_41_0, r_41_1, r_42, r_43, r_44, r_36_0, r_37_0, r_38_0, r_48_0, r_36_1, r_37_1, r_38_1, r_48_1, r_36_2, r_37_2, r_38_2, r_48_2, r_36_3, r_37_3, r_36_4, r_37_4, r_36_5, r_37_5, r_39, r_8, al_13, al_14, al_15, al_16, al_18, al_19, al_25, al_26, al_27, al_28, al_29, al_30, al_31, al_32, al_33, al_34, al_35, al_36, al_37, al_38, al_39, al_40, al_41, al_42, al_43, al_44, al_45, al_46, al_48, al_49, al_50, al_51, al_52, al_53, al_54, al_55, al_56, al_57, al_58, al_59, al_60, al_61, al_62, al_63, al_64, al_65, al_66, al_67, al_68, al_69, al_70, rf_0_0, rf_0_1, rf_0_2, rf_0_3, rf_0_4, rf_0_5, rf_0_6, rf_0_7, rf_0_8, rf_0_10, rf_0_11, rf_1_0, rf_1_1, rf_1_2, rf_2_0, rf_2_1, rf_2_2, rf_3_0, rf_3_1, rf_3_2, rf_4_0, rf_4_1, rf_4_2, rf_5_0, rf_5_1, rf_5_2, rf_6_0, rf_6_1, rf_7_0, rf_7_1, rf_8_0, rf_8_1, rf_8_5, rf_8_6, rf_8_7, rf_8_8, rf_8_9, rf_9_0, rf_10_0, rf_11_0, rf_12_0, rf_47_0, rf_47_1, rf_47_2, rf_47_3, rf_47_5, rf_47_6, rf_47_8, rf_47_10, rf_47_12, rf_47_14, rf_47_15, rf_47_16, rf_47_17, rf_47_18, rf_47_19, rf_47_20, rf_47_21, rf_47_22, rf_47_23, rf_47_24, rf_47_26, rf_47_27, rf_47_29, rf_17, rf_20, rf_21, rf_22, rf_23, rf_24, rl_17, rl_20, rl_21, rl_22, rl_23, rl_24]
    rw [if_pos (by omega)]
    exact h
  | succ d ih =>
    intro b hb h0
    have ih := ih (b + 1) (by omega)
    rw [akN] at ih
    push_cast at ih
    have hin := akN_in T i x b
    have g1 := d_alike x μ hT hi hG b (by omega)
    have g2 := d_alike x μ hT hi hG (akN T i x b).toNat (by omega)
    rw [show (((akN T i x b).toNat : Nat) : Int) = akN T i x b by omega] at g2
    have mb : m_i 0 b 1 = (b : Int) + 1 := m_i0 (by omega) (by omega)
    rw [t183_1]
    simp only [t183_0, t183_2, t183_3, t183_4, B183_0, B183_1, B183_2, B183_3, B183_4, Classical.not_not, Prod.mk.injEq, m_l, m_lp, m_lq, m_ps, m_ws, m_en, List.replicate, if_true, if_false, reduceIte, true_and, and_true, false_and, and_false, true_or, or_true, false_or, or_false, and_self, or_self, not_true_eq_false, not_false_eq_true, ne_eq, Nat.reduceLeDiff, Nat.reduceEqDiff, Nat.reduceAdd, Int.reduceLE, Int.reduceLT, Int.reduceEq, Int.reduceNe, Int.reduceAdd, Int.reduceNeg, Nat.reduceSub, Nat.succ_ne_zero, Nat.not_succ_le_zero, Nat.reduceMul, Int.reduceMul, Int.reduceSub, Int.reduceToNat, Nat.zero_le, Nat.reduceLT, r_0, r_1, r_2, r_3, r_4, r_5, r_6, r_7, r_9, r_10, r_11, r_12, r_13, r_14, r_15, r_16, r_17, r_18, r_19, r_20_0, r_21_0, r_20_1, r_21_1, r_20_2, r_21_2, r_20_3, r_21_3, r_20_4, r_21_4, r_20_5, r_21_5, r_22_0, r_22_1, r_23, r_24, r_25, r_26, r_27, r_28, r_29, r_30_0, r_30_1, r_30_2, r_31, r_31b, r_32, r_33, r_33b, r_33c, r_34, r_34b, r_35, r_45, r_46, r_47_0, r_47_1, r_40, r_50, r_51, r_41_0, r_41_1, r_42, r_43, r_44, r_36_0, r_37_0, r_38_0, r_48_0, r_36_1, r_37_1, r_38_1, r_48_1, r_36_2, r_37_2, r_38_2, r_48_2, r_36_3, r_37_3, r_36_4, r_37_4, r_36_5, r_37_5, r_39, r_8, al_13, al_14, al_15, al_16, al_18, al_19, al_25, al_26, al_27, al_28, al_29, al_30, al_31, al_32, al_33, al_34, al_35, al_36, al_37, al_38, al_39, al_40, al_41, al_42, al_43, al_44, al_45, al_46, al_48, al_49, al_50, al_51, al_52, al_53, al_54, al_55, al_56, al_57, al_58, al_59, al_60, al_61, al_62, al_63, al_64, al_65, al_66, al_67, al_68, al_69, al_70, rf_0_0, rf_0_1, rf_0_2, rf_0_3, rf_0_4, rf_0_5, rf_0_6, rf_0_7, rf_0_8, rf_0_10, rf_0_11, rf_1_0, rf_1_1, rf_1_2, rf_2_0, rf_2_1, rf_2_2, rf_3_0, rf_3_1, rf_3_2, rf_4_0, rf_4_1, rf_4_2, rf_5_0, rf_5_1, rf_5_2, rf_6_0, rf_6_1, rf_7_0, rf_7_1, rf_8_0, rf_8_1, rf_8_5, rf_8_6, rf_8_7, rf_8_8, rf_8_9, rf_9_0, rf_10_0, rf_11_0, rf_12_0, rf_47_0, rf_47_1, rf_47_2, rf_47_3, rf_47_5, rf_47_6, rf_47_8, rf_47_10, rf_47_12, rf_47_14, rf_47_15, rf_47_16, rf_47_17, rf_47_18, rf_47_19, rf_47_20, rf_47_21, rf_47_22, rf_47_23, rf_47_24, rf_47_26, rf_47_27, rf_47_29, rf_17, rf_20, rf_21, rf_22, rf_23, rf_24, rl_17, rl_20, rl_21, rl_22, rl_23, rl_24, g1, g2, mb]
    rw [if_neg (by omega)]
    grind
theorem d_askOf {T : MMem} (μ : MMem) (hT : TW T) (hD : DT μ T) (hS : DS μ T) (i : Int) (hi : 0 ≤ i ∧ i < T 0 0) : ∃ μ' : MMem, FX μ μ' ∧ ∀ Q : MVal → MMem → Prop, Cal 183 [(10, 47), (0, i)] μ Q = Q (0, askS T i) μ' := by
  refine cal_ex (P := fun μ' => FX μ μ') rfl ?_
  show Rn 183 B183_0 [(10, 47), (0, i), (14, 0), (14, 0), (14, 0)] [] μ _
  obtain ⟨μ1, ⟨f1, g1⟩, c1⟩ := d_openedOf μ hT hD hS i hi
  simp only [t183_0, t183_2, t183_3, t183_4, B183_0, B183_1, B183_2, B183_3, B183_4, Classical.not_not, Prod.mk.injEq, m_l, m_lp, m_lq, m_ps, m_ws, m_en, List.replicate, if_true, if_false, reduceIte, true_and, and_true, false_and, and_false, true_or, or_true, false_or, or_false, and_self, or_self, not_true_eq_false, not_false_eq_true, ne_eq, Nat.reduceLeDiff, Nat.reduceEqDiff, Nat.reduceAdd, Int.reduceLE, Int.reduceLT, Int.reduceEq, Int.reduceNe, Int.reduceAdd, Int.reduceNeg, Nat.reduceSub, Nat.succ_ne_zero, Nat.not_succ_le_zero, Nat.reduceMul, Int.reduceMul, Int.reduceSub, Int.reduceToNat, Nat.zero_le, Nat.reduceLT, r_0, r_1, r_2, r_3, r_4, r_5, r_6, r_7, r_9, r_10, r_11, r_12, r_13, r_14, r_15, r_16, r_17, r_18, r_19, r_20_0, r_21_0, r_20_1, r_21_1, r_20_2, r_21_2, r_20_3, r_21_3, r_20_4, r_21_4, r_20_5, r_21_5, r_22_0, r_22_1, r_23, r_24, r_25, r_26, r_27, r_28, r_29, r_30_0, r_30_1, r_30_2, r_31, r_31b, r_32, r_33, r_33b, r_33c, r_34, r_34b, r_35, r_45, r_46, r_47_0, r_47_1, r_40, r_50, r_51, r_41_0, r_41_1, r_42, r_43, r_44, r_36_0, r_37_0, r_38_0, r_48_0, r_36_1, r_37_1, r_38_1, r_48_1, r_36_2, r_37_2, r_38_2, r_48_2, r_36_3, r_37_3, r_36_4, r_37_4, r_36_5, r_37_5, r_39, r_8, al_13, al_14, al_15, al_16, al_18, al_19, al_25, al_26, al_27, al_28, al_29, al_30, al_31, al_32, al_33, al_34, al_35, al_36, al_37, al_38, al_39, al_40, al_41, al_42, al_43, al_44, al_45, al_46, al_48, al_49, al_50, al_51, al_52, al_53, al_54, al_55, al_56, al_57, al_58, al_59, al_60, al_61, al_62, al_63, al_64, al_65, al_66, al_67, al_68, al_69, al_70, rf_0_0, rf_0_1, rf_0_2, rf_0_3, rf_0_4, rf_0_5, rf_0_6, rf_0_7, rf_0_8, rf_0_10, rf_0_11, rf_1_0, rf_1_1, rf_1_2, rf_2_0, rf_2_1, rf_2_2, rf_3_0, rf_3_1, rf_3_2, rf_4_0, rf_4_1, rf_4_2, rf_5_0, rf_5_1, rf_5_2, rf_6_0, rf_6_1, rf_7_0, rf_7_1, rf_8_0, rf_8_1, rf_8_5, rf_8_6, rf_8_7, rf_8_8, rf_8_9, rf_9_0, rf_10_0, rf_11_0, rf_12_0, rf_47_0, rf_47_1, rf_47_2, rf_47_3, rf_47_5, rf_47_6, rf_47_8, rf_47_10, rf_47_12, rf_47_14, rf_47_15, rf_47_16, rf_47_17, rf_47_18, rf_47_19, rf_47_20, rf_47_21, rf_47_22, rf_47_23, rf_47_24, rf_47_26, rf_47_27, rf_47_29, rf_17, rf_20, rf_21, rf_22, rf_23, rf_24, rl_17, rl_20, rl_21, rl_22, rl_23, rl_24, c1]
  have := d_askL hT hi g1 (x := ftN T 2 i 1 20) (Q := fun a b => a = (0, askS T i) ∧ FX μ b) ⟨rfl, f1⟩ 23 1 (by omega) (by omega)
  have e : akN T i (ftN T 2 i 1 20) 1 = 0 := by
    rw [akN]
    simp [akN]
  rw [e] at this
  exact this
