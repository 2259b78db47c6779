/-- events read from a row: how many come -/
def rdC (g : Int → Int) (z e : Int) : Nat → Nat → Nat
  | 0, n => n
  | d + 1, n => if 3 * (n : Int) + 3 ≤ z ∧ e + n < 8 ∧ ((0 ≤ g (3 * (n : Int)) ∧ g (3 * (n : Int)) < 3) ∧ (0 ≤ g (3 * (n : Int) + 1) ∧ g (3 * (n : Int) + 1) < 24) ∧ (0 ≤ g (3 * (n : Int) + 2) ∧ g (3 * (n : Int) + 2) < 6)) then rdC g z e d (n + 1) else n
def rdW (μ : MMem) (g : Int → Int) : Nat → MMem
  | 0 => μ
  | n + 1 => evW (rdW μ g n) (g (3 * (n : Int))) (g (3 * (n : Int) + 1)) (g (3 * (n : Int) + 2))
theorem evW_ne {μ : MMem} {k y i a : Int} (h3 : a ≠ 3) (h : a < 31 ∨ 33 < a) : evW μ k y i a = μ a := by
  unfold evW
  rw [mw_ne h3, mw_ne (by omega), mw_ne (by omega), mw_ne (by omega)]
theorem rdW_ne {μ : MMem} {g : Int → Int} {a : Int} (h3 : a ≠ 3) (h : a < 31 ∨ 33 < a) : ∀ n : Nat, rdW μ g n a = μ a
  | 0 => rfl
  | n + 1 => by rw [rdW, evW_ne h3 h]; exact rdW_ne h3 h n
theorem rdW_3 {μ : MMem} {g : Int → Int} : ∀ n : Nat, rdW μ g n 3 3 = μ 3 3 + n
  | 0 => by simp [rdW]
  | n + 1 => by rw [rdW, evW_3, rdW_3 n]; push_cast; omega
theorem c_readL {μ : MMem} {s : Int} (hs : 0 ≤ s ∧ s < 4) {g : Int → Int} (hz : 0 ≤ μ (9 + s) 3 ∧ μ (9 + s) 3 ≤ 60) (hg : ∀ i, 0 ≤ i → i < μ (9 + s) 3 → μ (13 + s) i = g i) (h3 : 0 ≤ μ 3 3 ∧ μ 3 3 ≤ 8) {Q : MVal → MMem → Prop} {N : Nat} (h : Q (0, (N : Int)) (m_w (rdW μ g N) 0 9 1)) : ∀ (d n : Nat) (u v w : MVal), n + d = 20 → rdC g (μ (9 + s) 3) (μ 3 3) d n = N → At 49 3 [(9, 0), (0, s), (6, 9 + s), (0, (n : Int)), (0, 3 * (n : Int)), u, v, w] [] (rdW μ g n) Q := by
  have h9 : (0 ≤ 9 + s) = True := eq_true (by omega)
  intro d
  induction d with
  | zero =>
    intro n u v w hn hN
    have e : n = 20 := by omega
    subst e
    have e1 := rdW_ne (μ := μ) (g := g) (a := 9 + s) (by omega) (by omega) 20
    rw [rdC] at hN
    rw [← hN] at h
    rw [t49_3]
    simp only [t49_0, t49_1, t49_2, t49_4, t49_5, B49_0, B49_1, B49_2, B49_3, B49_4, B49_5, Classical.not_not, Prod.mk.injEq, m_l, m_lp, m_lq, m_ps, m_ws, m_en, List.replicate, if_true, if_false, reduceIte, true_and, and_true, false_and, and_false, true_or, or_true, false_or, or_false, and_self, or_self, not_true_eq_false, not_false_eq_true, ne_eq, Nat.reduceLeDiff, Nat.reduceEqDiff, Nat.reduceAdd, Int.reduceLE, Int.reduceLT, Int.reduceEq, Int.reduceNe, Int.reduceAdd, Int.reduceNeg, Nat.reduceSub, Nat.succ_ne_zero, Nat.not_succ_le_zero, Nat.reduceMul, Int.reduceMul, Int.reduceSub, Int.reduceToNat, Nat.zero_le, Nat.reduceLT, r_0, r_1, r_2, r_3, r_4, r_5, r_6, r_7, r_9, r_10, r_11, r_12, r_13, r_14, r_15, r_16, r_17, r_18, r_19, r_20_0, r_21_0, r_20_1, r_21_1, r_20_2, r_21_2, r_20_3, r_21_3, r_20_4, r_21_4, r_20_5, r_21_5, r_22_0, r_22_1, r_23, r_24, r_25, r_26, r_27, r_28, r_29, r_30_0, r_30_1, r_30_2, r_31, r_31b, r_32, r_33, r_33b, r_33c, r_34, r_34b, r_35, r_45, r_46, r_47_0, r_47_1, r_40, r_50, r_51, r_41_0, r_41_1, r_42, r_43, r_44, r_36_0, r_37_0, r_38_0, r_48_0, r_36_1, r_37_1, r_38_1, r_48_1, r_36_2, r_37_2, r_38_2, r_48_2, r_36_3, r_37_3, r_36_4, r_37_4, r_36_5, r_37_5, r_39, r_8, al_13, al_14, al_15, al_16, al_18, al_19, al_25, al_26, al_27, al_28, al_29, al_30, al_31, al_32, al_33, al_34, al_35, al_36, al_37, al_38, al_39, al_40, al_41, al_42, al_43, al_44, al_45, al_46, al_48, al_49, al_50, al_51, al_52, al_53, al_54, al_55, al_56, al_57, al_58, al_59, al_60, al_61, al_62, al_63, al_64, al_65, al_66, al_67, al_68, al_69, al_70, rf_0_0, rf_0_1, rf_0_2, rf_0_3, rf_0_4, rf_0_5, rf_0_6, rf_0_7, rf_0_8, rf_0_10, rf_0_11, rf_1_0, rf_1_1, rf_1_2, rf_2_0, rf_2_1, rf_2_2, rf_3_0, rf_3_1, rf_3_2, rf_4_0, rf_4_1, rf_4_2, rf_5_0, rf_5_1, rf_5_2, rf_6_0, rf_6_1, rf_7_0, rf_7_1, rf_8_0, rf_8_1, rf_8_5, rf_8_6, rf_8_7, rf_8_8, rf_8_9, rf_9_0, rf_10_0, rf_11_0, rf_12_0, rf_47_0, rf_47_1, rf_47_2, rf_47_3, rf_47_5, rf_47_6, rf_47_8, rf_47_10, rf_47_12, rf_47_14, rf_47_15, rf_47_16, rf_47_17, rf_47_18, rf_47_19, rf_47_20, rf_47_21, rf_47_22, rf_47_23, rf_47_24, rf_47_26, rf_47_27, rf_47_29, rf_17, rf_20, rf_21, rf_22, rf_23, rf_24, rl_17, rl_20, rl_21, rl_22, rl_23, rl_24, h9, e1]
    rw [m_i0 (by omega) (by omega), if_pos (by omega)]
    exact h
  | succ d ih =>
    intro n u v w hn hN
    have e1 := rdW_ne (μ := μ) (g := g) (a := 9 + s) (by omega) (by omega) n
    have e2 := rdW_ne (μ := μ) (g := g) (a := 13 + s) (by omega) (by omega) n
    have e3 := rdW_3 (μ := μ) (g := g) n
    have ef : ∀ Q : MVal → MMem → Prop, Cal 17 [(7, 3)] (rdW μ g n) Q = Q (0, if 8 ≤ μ 3 3 + (n : Int) then 1 else 0) (rdW μ g n) := fun Q => by
      have := c_tFull 3 (by decide) (rdW μ g n) Q
      rw [e3] at this
      exact this
    rw [rdC] at hN
    rw [t49_3]
    simp only [t49_0, t49_1, t49_2, t49_4, t49_5, B49_0, B49_1, B49_2, B49_3, B49_4, B49_5, Classical.not_not, Prod.mk.injEq, m_l, m_lp, m_lq, m_ps, m_ws, m_en, List.replicate, if_true, if_false, reduceIte, true_and, and_true, false_and, and_false, true_or, or_true, false_or, or_false, and_self, or_self, not_true_eq_false, not_false_eq_true, ne_eq, Nat.reduceLeDiff, Nat.reduceEqDiff, Nat.reduceAdd, Int.reduceLE, Int.reduceLT, Int.reduceEq, Int.reduceNe, Int.reduceAdd, Int.reduceNeg, Nat.reduceSub, Nat.succ_ne_zero, Nat.not_succ_le_zero, Nat.reduceMul, Int.reduceMul, Int.reduceSub, Int.reduceToNat, Nat.zero_le, Nat.reduceLT, r_0, r_1, r_2, r_3, r_4, r_5, r_6, r_7, r_9, r_10, r_11, r_12, r_13, r_14, r_15, r_16, r_17, r_18, r_19, r_20_0, r_21_0, r_20_1, r_21_1, r_20_2, r_21_2, r_20_3, r_21_3, r_20_4, r_21_4, r_20_5, r_21_5, r_22_0, r_22_1, r_23, r_24, r_25, r_26, r_27, r_28, r_29, r_30_0, r_30_1, r_30_2, r_31, r_31b, r_32, r_33, r_33b, r_33c, r_34, r_34b, r_35, r_45, r_46, r_47_0, r_47_1, r_40, r_50, r_51, r_41_0, r_41_1, r_42, r_43, r_44, r_36_0, r_37_0, r_38_0, r_48_0, r_36_1, r_37_1, r_38_1, r_48_1, r_36_2, r_37_2, r_38_2, r_48_2, r_36_3, r_37_3, r_36_4, r_37_4, r_36_5, r_37_5, r_39, r_8, al_13, al_14, al_15, al_16, al_18, al_19, al_25, al_26, al_27, al_28, al_29, al_30, al_31, al_32, al_33, al_34, al_35, al_36, al_37, al_38, al_39, al_40, al_41, al_42, al_43, al_44, al_45, al_46, al_48, al_49, al_50, al_51, al_52, al_53, al_54, al_55, al_56, al_57, al_58, al_59, al_60, al_61, al_62, al_63, al_64, al_65, al_66, al_67, al_68, al_69, al_70, rf_0_0, rf_0_1, rf_0_2, rf_0_3, rf_0_4, rf_0_5, rf_0_6, rf_0_7, rf_0_8, rf_0_10, rf_0_11, rf_1_0, rf_1_1, rf_1_2, rf_2_0, rf_2_1, rf_2_2, rf_3_0, rf_3_1, rf_3_2, rf_4_0, rf_4_1, rf_4_2, rf_5_0, rf_5_1, rf_5_2, rf_6_0, rf_6_1, rf_7_0, rf_7_1, rf_8_0, rf_8_1, rf_8_5, rf_8_6, rf_8_7, rf_8_8, rf_8_9, rf_9_0, rf_10_0, rf_11_0, rf_12_0, rf_47_0, rf_47_1, rf_47_2, rf_47_3, rf_47_5, rf_47_6, rf_47_8, rf_47_10, rf_47_12, rf_47_14, rf_47_15, rf_47_16, rf_47_17, rf_47_18, rf_47_19, rf_47_20, rf_47_21, rf_47_22, rf_47_23, rf_47_24, rf_47_26, rf_47_27, rf_47_29, rf_17, rf_20, rf_21, rf_22, rf_23, rf_24, rl_17, rl_20, rl_21, rl_22, rl_23, rl_24, h9, e1, e2, rfS hs, alS hs, ef, c_mayBe, b0]
    rw [m_i0 (x := 3 * (n : Int)) (y := 2) (by omega) (by omega), m_i0 (x := 3 * (n : Int)) (y := 1) (by omega) (by omega), m_i0 (x := 3 * (n : Int)) (y := 3) (by omega) (by omega), m_i0 (x := (n : Int)) (y := 1) (by omega) (by omega)]
    by_cases q1 : μ (9 + s) 3 ≤ 3 * (n : Int) + 2
    · rw [if_pos q1]
      rw [if_neg (by omega)] at hN
      rw [← hN] at h
      exact h
    · rw [if_neg q1]
      rw [hg (3 * (n : Int)) (by omega) (by omega), hg (3 * (n : Int) + 1) (by omega) (by omega), hg (3 * (n : Int) + 2) (by omega) (by omega)]
      refine ⟨⟨by omega, by omega, by omega⟩, ⟨by omega, by omega, by omega⟩, ⟨by omega, by omega, by omega⟩, ?_⟩
      by_cases q2 : 8 ≤ μ 3 3 + n
      · rw [if_pos q2]
        rw [if_neg (by omega)] at hN
        rw [← hN] at h
        exact h
      · rw [if_neg q2]
        by_cases q3 : ((0 ≤ g (3 * (n : Int)) ∧ g (3 * (n : Int)) < 3) ∧ (0 ≤ g (3 * (n : Int) + 1) ∧ g (3 * (n : Int) + 1) < 24) ∧ (0 ≤ g (3 * (n : Int) + 2) ∧ g (3 * (n : Int) + 2) < 6))
        · rw [if_pos ⟨by omega, by omega, q3⟩] at hN
          have ih := ih (n + 1) (0, g (3 * (n : Int))) (0, g (3 * (n : Int) + 1)) (0, g (3 * (n : Int) + 2)) (by omega) hN
          rw [rdW] at ih
          push_cast at ih
          rw [show 3 * ((n : Int) + 1) = 3 * (n : Int) + 3 by omega] at ih
          have ca := c_add3 (g (3 * (n : Int))) (g (3 * (n : Int) + 1)) (g (3 * (n : Int) + 2)) (rdW μ g n) (by omega) (by omega)
          rw [if_pos q3]
          unfold evW at ih
          rw [ca]
          exact ih
        · rw [if_neg (fun q => q3 q.2.2)] at hN
          rw [← hN] at h
          rw [if_neg q3]
          exact h
theorem c_read_bad {μ : MMem} {s : Int} (hs : ¬ (0 ≤ s ∧ s < 4)) (Q : MVal → MMem → Prop) : Cal 49 [(9, 0), (0, s)] μ Q = Q (0, -2) μ := by
  refine cal_eq rfl ?_ Q
  show Rn 49 B49_0 [(9, 0), (0, s), (14, 0), (14, 0), (14, 0), (14, 0), (14, 0), (14, 0)] [] μ _
  simp only [t49_0, t49_1, t49_2, t49_4, t49_5, B49_0, B49_1, B49_2, B49_3, B49_4, B49_5, Classical.not_not, Prod.mk.injEq, m_l, m_lp, m_lq, m_ps, m_ws, m_en, List.replicate, if_true, if_false, reduceIte, true_and, and_true, false_and, and_false, true_or, or_true, false_or, or_false, and_self, or_self, not_true_eq_false, not_false_eq_true, ne_eq, Nat.reduceLeDiff, Nat.reduceEqDiff, Nat.reduceAdd, Int.reduceLE, Int.reduceLT, Int.reduceEq, Int.reduceNe, Int.reduceAdd, Int.reduceNeg, Nat.reduceSub, Nat.succ_ne_zero, Nat.not_succ_le_zero, Nat.reduceMul, Int.reduceMul, Int.reduceSub, Int.reduceToNat, Nat.zero_le, Nat.reduceLT, r_0, r_1, r_2, r_3, r_4, r_5, r_6, r_7, r_9, r_10, r_11, r_12, r_13, r_14, r_15, r_16, r_17, r_18, r_19, r_20_0, r_21_0, r_20_1, r_21_1, r_20_2, r_21_2, r_20_3, r_21_3, r_20_4, r_21_4, r_20_5, r_21_5, r_22_0, r_22_1, r_23, r_24, r_25, r_26, r_27, r_28, r_29, r_30_0, r_30_1, r_30_2, r_31, r_31b, r_32, r_33, r_33b, r_33c, r_34, r_34b, r_35, r_45, r_46, r_47_0, r_47_1, r_40, r_50, r_51, r_41_0, r_41_1, r_42, r_43, r_44, r_36_0, r_37_0, r_38_0, r_48_0, r_36_1, r_37_1, r_38_1, r_48_1, r_36_2, r_37_2, r_38_2, r_48_2, r_36_3, r_37_3, r_36_4, r_37_4, r_36_5, r_37_5, r_39, r_8, al_13, al_14, al_15, al_16, al_18, al_19, al_25, al_26, al_27, al_28, al_29, al_30, al_31, al_32, al_33, al_34, al_35, al_36, al_37, al_38, al_39, al_40, al_41, al_42, al_43, al_44, al_45, al_46, al_48, al_49, al_50, al_51, al_52, al_53, al_54, al_55, al_56, al_57, al_58, al_59, al_60, al_61, al_62, al_63, al_64, al_65, al_66, al_67, al_68, al_69, al_70, rf_0_0, rf_0_1, rf_0_2, rf_0_3, rf_0_4, rf_0_5, rf_0_6, rf_0_7, rf_0_8, rf_0_10, rf_0_11, rf_1_0, rf_1_1, rf_1_2, rf_2_0, rf_2_1, rf_2_2, rf_3_0, rf_3_1, rf_3_2, rf_4_0, rf_4_1, rf_4_2, rf_5_0, rf_5_1, rf_5_2, rf_6_0, rf_6_1, rf_7_0, rf_7_1, rf_8_0, rf_8_1, rf_8_5, rf_8_6, rf_8_7, rf_8_8, rf_8_9, rf_9_0, rf_10_0, rf_11_0, rf_12_0, rf_47_0, rf_47_1, rf_47_2, rf_47_3, rf_47_5, rf_47_6, rf_47_8, rf_47_10, rf_47_12, rf_47_14, rf_47_15, rf_47_16, rf_47_17, rf_47_18, rf_47_19, rf_47_20, rf_47_21, rf_47_22, rf_47_23, rf_47_24, rf_47_26, rf_47_27, rf_47_29, rf_17, rf_20, rf_21, rf_22, rf_23, rf_24, rl_17, rl_20, rl_21, rl_22, rl_23, rl_24, c_sheetOf, hs]
theorem c_read_null {μ : MMem} {s : Int} (hs : 0 ≤ s ∧ s < 4) (hl : μ (9 + s) 1 ≠ 0) (Q : MVal → MMem → Prop) : Cal 49 [(9, 0), (0, s)] μ Q = Q (0, -11) (m_w μ 0 12 1) := by
  refine cal_eq rfl ?_ Q
  show Rn 49 B49_0 [(9, 0), (0, s), (14, 0), (14, 0), (14, 0), (14, 0), (14, 0), (14, 0)] [] μ _
  have h9 : (0 ≤ 9 + s) = True := eq_true (by omega)
  simp only [t49_0, t49_1, t49_2, t49_4, t49_5, B49_0, B49_1, B49_2, B49_3, B49_4, B49_5, Classical.not_not, Prod.mk.injEq, m_l, m_lp, m_lq, m_ps, m_ws, m_en, List.replicate, if_true, if_false, reduceIte, true_and, and_true, false_and, and_false, true_or, or_true, false_or, or_false, and_self, or_self, not_true_eq_false, not_false_eq_true, ne_eq, Nat.reduceLeDiff, Nat.reduceEqDiff, Nat.reduceAdd, Int.reduceLE, Int.reduceLT, Int.reduceEq, Int.reduceNe, Int.reduceAdd, Int.reduceNeg, Nat.reduceSub, Nat.succ_ne_zero, Nat.not_succ_le_zero, Nat.reduceMul, Int.reduceMul, Int.reduceSub, Int.reduceToNat, Nat.zero_le, Nat.reduceLT, r_0, r_1, r_2, r_3, r_4, r_5, r_6, r_7, r_9, r_10, r_11, r_12, r_13, r_14, r_15, r_16, r_17, r_18, r_19, r_20_0, r_21_0, r_20_1, r_21_1, r_20_2, r_21_2, r_20_3, r_21_3, r_20_4, r_21_4, r_20_5, r_21_5, r_22_0, r_22_1, r_23, r_24, r_25, r_26, r_27, r_28, r_29, r_30_0, r_30_1, r_30_2, r_31, r_31b, r_32, r_33, r_33b, r_33c, r_34, r_34b, r_35, r_45, r_46, r_47_0, r_47_1, r_40, r_50, r_51, r_41_0, r_41_1, r_42, r_43, r_44, r_36_0, r_37_0, r_38_0, r_48_0, r_36_1, r_37_1, r_38_1, r_48_1, r_36_2, r_37_2, r_38_2, r_48_2, r_36_3, r_37_3, r_36_4, r_37_4, r_36_5, r_37_5, r_39, r_8, al_13, al_14, al_15, al_16, al_18, al_19, al_25, al_26, al_27, al_28, al_29, al_30, al_31, al_32, al_33, al_34, al_35, al_36, al_37, al_38, al_39, al_40, al_41, al_42, al_43, al_44, al_45, al_46, al_48, al_49, al_50, al_51, al_52, al_53, al_54, al_55, al_56, al_57, al_58, al_59, al_60, al_61, al_62, al_63, al_64, al_65, al_66, al_67, al_68, al_69, al_70, rf_0_0, rf_0_1, rf_0_2, rf_0_3, rf_0_4, rf_0_5, rf_0_6, rf_0_7, rf_0_8, rf_0_10, rf_0_11, rf_1_0, rf_1_1, rf_1_2, rf_2_0, rf_2_1, rf_2_2, rf_3_0, rf_3_1, rf_3_2, rf_4_0, rf_4_1, rf_4_2, rf_5_0, rf_5_1, rf_5_2, rf_6_0, rf_6_1, rf_7_0, rf_7_1, rf_8_0, rf_8_1, rf_8_5, rf_8_6, rf_8_7, rf_8_8, rf_8_9, rf_9_0, rf_10_0, rf_11_0, rf_12_0, rf_47_0, rf_47_1, rf_47_2, rf_47_3, rf_47_5, rf_47_6, rf_47_8, rf_47_10, rf_47_12, rf_47_14, rf_47_15, rf_47_16, rf_47_17, rf_47_18, rf_47_19, rf_47_20, rf_47_21, rf_47_22, rf_47_23, rf_47_24, rf_47_26, rf_47_27, rf_47_29, rf_17, rf_20, rf_21, rf_22, rf_23, rf_24, rl_17, rl_20, rl_21, rl_22, rl_23, rl_24, c_sheetOf, hs, h9, hl, c_finding, fnd1]
theorem c_read_ok {μ : MMem} {s : Int} (hs : 0 ≤ s ∧ s < 4) (hl : μ (9 + s) 1 = 0) {g : Int → Int} (hz : 0 ≤ μ (9 + s) 3 ∧ μ (9 + s) 3 ≤ 60) (hg : ∀ i, 0 ≤ i → i < μ (9 + s) 3 → μ (13 + s) i = g i) (h3 : 0 ≤ μ 3 3 ∧ μ 3 3 ≤ 8) (Q : MVal → MMem → Prop) : Cal 49 [(9, 0), (0, s)] μ Q = Q (0, (rdC g (μ (9 + s) 3) (μ 3 3) 20 0 : Int)) (m_w (rdW μ g (rdC g (μ (9 + s) 3) (μ 3 3) 20 0)) 0 9 1) := by
  refine cal_eq rfl ?_ Q
  show Rn 49 B49_0 [(9, 0), (0, s), (14, 0), (14, 0), (14, 0), (14, 0), (14, 0), (14, 0)] [] μ _
  have h9 : (0 ≤ 9 + s) = True := eq_true (by omega)
  simp only [t49_0, t49_1, t49_2, t49_4, t49_5, B49_0, B49_1, B49_2, B49_3, B49_4, B49_5, Classical.not_not, Prod.mk.injEq, m_l, m_lp, m_lq, m_ps, m_ws, m_en, List.replicate, if_true, if_false, reduceIte, true_and, and_true, false_and, and_false, true_or, or_true, false_or, or_false, and_self, or_self, not_true_eq_false, not_false_eq_true, ne_eq, Nat.reduceLeDiff, Nat.reduceEqDiff, Nat.reduceAdd, Int.reduceLE, Int.reduceLT, Int.reduceEq, Int.reduceNe, Int.reduceAdd, Int.reduceNeg, Nat.reduceSub, Nat.succ_ne_zero, Nat.not_succ_le_zero, Nat.reduceMul, Int.reduceMul, Int.reduceSub, Int.reduceToNat, Nat.zero_le, Nat.reduceLT, r_0, r_1, r_2, r_3, r_4, r_5, r_6, r_7, r_9, r_10, r_11, r_12, r_13, r_14, r_15, r_16, r_17, r_18, r_19, r_20_0, r_21_0, r_20_1, r_21_1, r_20_2, r_21_2, r_20_3, r_21_3, r_20_4, r_21_4, r_20_5, r_21_5, r_22_0, r_22_1, r_23, r_24, r_25, r_26, r_27, r_28, r_29, r_30_0, r_30_1, r_30_2, r_31, r_31b, r_32, r_33, r_33b, r_33c, r_34, r_34b, r_35, r_45, r_46, r_47_0, r_47_1, r_40, r_50, r_51, r_41_0, r_41_1, r_42, r_43, r_44, r_36_0, r_37_0, r_38_0, r_48_0, r_36_1, r_37_1, r_38_1, r_48_1, r_36_2, r_37_2, r_38_2, r_48_2, r_36_3, r_37_3, r_36_4, r_37_4, r_36_5, r_37_5, r_39, r_8, al_13, al_14, al_15, al_16, al_18, al_19, al_25, al_26, al_27, al_28, al_29, al_30, al_31, al_32, al_33, al_34, al_35, al_36, al_37, al_38, al_39, al_40, al_41, al_42, al_43, al_44, al_45, al_46, al_48, al_49, al_50, al_51, al_52, al_53, al_54, al_55, al_56, al_57, al_58, al_59, al_60, al_61, al_62, al_63, al_64, al_65, al_66, al_67, al_68, al_69, al_70, rf_0_0, rf_0_1, rf_0_2, rf_0_3, rf_0_4, rf_0_5, rf_0_6, rf_0_7, rf_0_8, rf_0_10, rf_0_11, rf_1_0, rf_1_1, rf_1_2, rf_2_0, rf_2_1, rf_2_2, rf_3_0, rf_3_1, rf_3_2, rf_4_0, rf_4_1, rf_4_2, rf_5_0, rf_5_1, rf_5_2, rf_6_0, rf_6_1, rf_7_0, rf_7_1, rf_8_0, rf_8_1, rf_8_5, rf_8_6, rf_8_7, rf_8_8, rf_8_9, rf_9_0, rf_10_0, rf_11_0, rf_12_0, rf_47_0, rf_47_1, rf_47_2, rf_47_3, rf_47_5, rf_47_6, rf_47_8, rf_47_10, rf_47_12, rf_47_14, rf_47_15, rf_47_16, rf_47_17, rf_47_18, rf_47_19, rf_47_20, rf_47_21, rf_47_22, rf_47_23, rf_47_24, rf_47_26, rf_47_27, rf_47_29, rf_17, rf_20, rf_21, rf_22, rf_23, rf_24, rl_17, rl_20, rl_21, rl_22, rl_23, rl_24, c_sheetOf, hs, h9, hl]
  exact c_readL hs hz hg h3 ⟨rfl, rfl⟩ 20 0 _ _ _ (by omega) rfl
/-- only the world and one row change -/
def FI (μ ν : MMem) (c : Int) : Prop := ∀ a, a ≠ 8 → a ≠ c → (a < 42 ∨ 46 < a) → ν a = μ a
theorem PW.wI {μ T : MMem} {ev : Int} (h : PW μ T ev) {c : Int} (hc : 13 ≤ c ∧ c ≤ 16) (j v : Int) : PW (m_w μ c j v) T ev := by
  unfold PW CT CE at *
  have g : ∀ a : Int, (a < 13 ∨ 16 < a) → m_w μ c j v a = μ a := fun a ha => mw_ne (by omega)
  have e : m_w μ c j v ev = μ ev := g ev (by have := h.2.1.2; omega)
  rw [e, g 1 (by decide), g 2 (by decide), g 25 (by decide), g 26 (by decide), g 27 (by decide), g 28 (by decide), g 29 (by decide), g 30 (by decide), g 31 (by decide), g 32 (by decide), g 33 (by decide), g 34 (by decide), g 35 (by decide), g 36 (by decide), g 8 (by decide)]
  exact h
theorem WS.wI {μ T σ : MMem} (h : WS μ T σ) {c : Int} (hc : 13 ≤ c ∧ c ≤ 16) (j v : Int) : WS (m_w μ c j v) T σ := by
  unfold WS at *
  have g : ∀ a : Int, (a < 13 ∨ 16 < a) → m_w μ c j v a = μ a := fun a ha => mw_ne (by omega)
  rw [g 42 (by decide), g 43 (by decide), g 44 (by decide), g 45 (by decide), g 46 (by decide)]
  exact h
/-- the row of the sheet, written up to b -/
def wrR (μ T : MMem) (s i : Int) (b : Int) (j : Int) : Int := if 0 ≤ j ∧ j < b then narS (μ (9 + s) 2) (gap T (sm T (j.toNat + 1)) i) else μ (13 + s) j
theorem c_writeL {μ T : MMem} (hI : CI μ T) {s i : Int} (hs : 0 ≤ s ∧ s < 4) (hi : 0 ≤ i ∧ i < T 0 0) (hz : 0 ≤ μ (9 + s) 3 ∧ μ (9 + s) 3 ≤ 60) {n : Nat} (hn : (n : Int) ≤ μ (9 + s) 3) (hn2 : n ≤ 24) {Q : MVal → MMem → Prop} (h : ∀ ν, FI μ ν (13 + s) → ν (13 + s) = wrR μ T s i n → Q (0, (n : Int)) ν) : ∀ (d b : Nat) (ν : MMem), b + d = n → FI μ ν (13 + s) → ν (13 + s) = wrR μ T s i b → PW ν T 3 → WS ν T (sm T b) → At 85 4 [(9, 0), (0, i), (0, s), (6, 9 + s), (0, (n : Int)), (0, (b : Int))] [] ν Q := by
  have hT := hI.1
  have h9 : (0 ≤ 9 + s) = True := eq_true (by omega)
  intro d
  induction d with
  | zero =>
    intro b ν hb hF hR hP hW
    have e : b = n := by omega
    subst e
    have := h ν hF hR
    rw [t85_4]
    simp only [t85_0, t85_1, t85_2, t85_3, t85_5, B85_0, B85_1, B85_2, B85_3, B85_4, B85_5, Classical.not_not, Prod.mk.injEq, m_l, m_lp, m_lq, m_ps, m_ws, m_en, List.replicate, if_true, if_false, reduceIte, true_and, and_true, false_and, and_false, true_or, or_true, false_or, or_false, and_self, or_self, not_true_eq_false, not_false_eq_true, ne_eq, Nat.reduceLeDiff, Nat.reduceEqDiff, Nat.reduceAdd, Int.reduceLE, Int.reduceLT, Int.reduceEq, Int.reduceNe, Int.reduceAdd, Int.reduceNeg, Nat.reduceSub, Nat.succ_ne_zero, Nat.not_succ_le_zero, Nat.reduceMul, Int.reduceMul, Int.reduceSub, Int.reduceToNat, Nat.zero_le, Nat.reduceLT, r_0, r_1, r_2, r_3, r_4, r_5, r_6, r_7, r_9, r_10, r_11, r_12, r_13, r_14, r_15, r_16, r_17, r_18, r_19, r_20_0, r_21_0, r_20_1, r_21_1, r_20_2, r_21_2, r_20_3, r_21_3, r_20_4, r_21_4, r_20_5, r_21_5, r_22_0, r_22_1, r_23, r_24, r_25, r_26, r_27, r_28, r_29, r_30_0, r_30_1, r_30_2, r_31, r_31b, r_32, r_33, r_33b, r_33c, r_34, r_34b, r_35, r_45, r_46, r_47_0, r_47_1, r_40, r_50, r_51, r_41_0, r_41_1, r_42, r_43, r_44, r_36_0, r_37_0, r_38_0, r_48_0, r_36_1, r_37_1, r_38_1, r_48_1, r_36_2, r_37_2, r_38_2, r_48_2, r_36_3, r_37_3, r_36_4, r_37_4, r_36_5, r_37_5, r_39, r_8, al_13, al_14, al_15, al_16, al_18, al_19, al_25, al_26, al_27, al_28, al_29, al_30, al_31, al_32, al_33, al_34, al_35, al_36, al_37, al_38, al_39, al_40, al_41, al_42, al_43, al_44, al_45, al_46, al_48, al_49, al_50, al_51, al_52, al_53, al_54, al_55, al_56, al_57, al_58, al_59, al_60, al_61, al_62, al_63, al_64, al_65, al_66, al_67, al_68, al_69, al_70, rf_0_0, rf_0_1, rf_0_2, rf_0_3, rf_0_4, rf_0_5, rf_0_6, rf_0_7, rf_0_8, rf_0_10, rf_0_11, rf_1_0, rf_1_1, rf_1_2, rf_2_0, rf_2_1, rf_2_2, rf_3_0, rf_3_1, rf_3_2, rf_4_0, rf_4_1, rf_4_2, rf_5_0, rf_5_1, rf_5_2, rf_6_0, rf_6_1, rf_7_0, rf_7_1, rf_8_0, rf_8_1, rf_8_5, rf_8_6, rf_8_7, rf_8_8, rf_8_9, rf_9_0, rf_10_0, rf_11_0, rf_12_0, rf_47_0, rf_47_1, rf_47_2, rf_47_3, rf_47_5, rf_47_6, rf_47_8, rf_47_10, rf_47_12, rf_47_14, rf_47_15, rf_47_16, rf_47_17, rf_47_18, rf_47_19, rf_47_20, rf_47_21, rf_47_22, rf_47_23, rf_47_24, rf_47_26, rf_47_27, rf_47_29, rf_17, rf_20, rf_21, rf_22, rf_23, rf_24, rl_17, rl_20, rl_21, rl_22, rl_23, rl_24]
    rw [if_pos (by omega)]
    exact this
  | succ d ih =>
    intro b ν hb hF hR hP hW
    obtain ⟨μ2, ⟨w2, f2⟩, c2⟩ := w_pass ν hT hP (sm_SI hT b) hW b b (sm_ZC T b) (by omega) (by omega) 1 (by omega)
    have w3 : WS μ2 T (sm T (b + 1)) := by
      have e : sm T (b + 1) = yrs T (sm T b) b 1 := by
        show yearS T (sm T b) (0 + b) = yearS T (sm T b) ((b : Int) + ((0 : Nat) : Int))
        congr 1
        omega
      rw [e]
      exact w2
    have cg := w_gap μ2 hT (sm_SI hT (b + 1)) (hP.fw f2).1 w3 i hi
    have e9 : μ2 (9 + s) = μ (9 + s) := (f2 (9 + s) (by omega)).trans (hF (9 + s) (by omega) (by omega) (by omega))
    have e13 : μ2 (13 + s) = wrR μ T s i b := (f2 (13 + s) (by omega)).trans hR
    have cp := c_put s b (gap T (sm T (b + 1)) i) hs μ2 (by rw [e9]; exact hz.2)
    rw [e9, if_pos (by omega)] at cp
    have ih := ih (b + 1) (m_w μ2 (13 + s) b (narS (μ (9 + s) 2) (gap T (sm T (b + 1)) i))) (by omega) ?_ ?_ ((hP.fw f2).wI (by omega) _ _) (w3.wI (by omega) _ _)
    · push_cast at ih
      rw [t85_4]
      simp only [t85_0, t85_1, t85_2, t85_3, t85_5, B85_0, B85_1, B85_2, B85_3, B85_4, B85_5, Classical.not_not, Prod.mk.injEq, m_l, m_lp, m_lq, m_ps, m_ws, m_en, List.replicate, if_true, if_false, reduceIte, true_and, and_true, false_and, and_false, true_or, or_true, false_or, or_false, and_self, or_self, not_true_eq_false, not_false_eq_true, ne_eq, Nat.reduceLeDiff, Nat.reduceEqDiff, Nat.reduceAdd, Int.reduceLE, Int.reduceLT, Int.reduceEq, Int.reduceNe, Int.reduceAdd, Int.reduceNeg, Nat.reduceSub, Nat.succ_ne_zero, Nat.not_succ_le_zero, Nat.reduceMul, Int.reduceMul, Int.reduceSub, Int.reduceToNat, Nat.zero_le, Nat.reduceLT, r_0, r_1, r_2, r_3, r_4, r_5, r_6, r_7, r_9, r_10, r_11, r_12, r_13, r_14, r_15, r_16, r_17, r_18, r_19, r_20_0, r_21_0, r_20_1, r_21_1, r_20_2, r_21_2, r_20_3, r_21_3, r_20_4, r_21_4, r_20_5, r_21_5, r_22_0, r_22_1, r_23, r_24, r_25, r_26, r_27, r_28, r_29, r_30_0, r_30_1, r_30_2, r_31, r_31b, r_32, r_33, r_33b, r_33c, r_34, r_34b, r_35, r_45, r_46, r_47_0, r_47_1, r_40, r_50, r_51, r_41_0, r_41_1, r_42, r_43, r_44, r_36_0, r_37_0, r_38_0, r_48_0, r_36_1, r_37_1, r_38_1, r_48_1, r_36_2, r_37_2, r_38_2, r_48_2, r_36_3, r_37_3, r_36_4, r_37_4, r_36_5, r_37_5, r_39, r_8, al_13, al_14, al_15, al_16, al_18, al_19, al_25, al_26, al_27, al_28, al_29, al_30, al_31, al_32, al_33, al_34, al_35, al_36, al_37, al_38, al_39, al_40, al_41, al_42, al_43, al_44, al_45, al_46, al_48, al_49, al_50, al_51, al_52, al_53, al_54, al_55, al_56, al_57, al_58, al_59, al_60, al_61, al_62, al_63, al_64, al_65, al_66, al_67, al_68, al_69, al_70, rf_0_0, rf_0_1, rf_0_2, rf_0_3, rf_0_4, rf_0_5, rf_0_6, rf_0_7, rf_0_8, rf_0_10, rf_0_11, rf_1_0, rf_1_1, rf_1_2, rf_2_0, rf_2_1, rf_2_2, rf_3_0, rf_3_1, rf_3_2, rf_4_0, rf_4_1, rf_4_2, rf_5_0, rf_5_1, rf_5_2, rf_6_0, rf_6_1, rf_7_0, rf_7_1, rf_8_0, rf_8_1, rf_8_5, rf_8_6, rf_8_7, rf_8_8, rf_8_9, rf_9_0, rf_10_0, rf_11_0, rf_12_0, rf_47_0, rf_47_1, rf_47_2, rf_47_3, rf_47_5, rf_47_6, rf_47_8, rf_47_10, rf_47_12, rf_47_14, rf_47_15, rf_47_16, rf_47_17, rf_47_18, rf_47_19, rf_47_20, rf_47_21, rf_47_22, rf_47_23, rf_47_24, rf_47_26, rf_47_27, rf_47_29, rf_17, rf_20, rf_21, rf_22, rf_23, rf_24, rl_17, rl_20, rl_21, rl_22, rl_23, rl_24, h9, c2, cg, cp]
      rw [if_neg (by omega), m_i0 (by omega) (by omega)]
      exact ih
    · intro a a1 a2 a3
      rw [mw_ne a2, f2 a a3]
      exact hF a a1 a2 a3
    · funext j
      rw [mw_at, e13]
      unfold wrR
      by_cases q : j = b
      · rw [if_pos q, if_pos (by omega), q, show ((b : Int)).toNat = b by omega]
      · rw [if_neg q]
        by_cases q2 : 0 ≤ j ∧ j < (b : Int)
        · rw [if_pos q2, if_pos (by omega)]
        · rw [if_neg q2, if_neg (by omega)]
def wrN (z : Int) : Int := if z < 24 then z else 24
theorem c_write_bad {μ : MMem} {s i : Int} (h : ¬ ((0 ≤ i ∧ i < μ 1 3) ∧ (0 ≤ s ∧ s < 4))) (Q : MVal → MMem → Prop) : Cal 85 [(9, 0), (0, i), (0, s)] μ Q = Q (0, -2) μ := by
  refine cal_eq rfl ?_ Q
  show Rn 85 B85_0 [(9, 0), (0, i), (0, s), (14, 0), (14, 0), (14, 0)] [] μ _
  by_cases hs : 0 ≤ s ∧ s < 4
  · have hi : ¬ (0 ≤ i ∧ i < μ 1 3) := fun q => h ⟨q, hs⟩
    simp only [t85_0, t85_1, t85_2, t85_3, t85_5, B85_0, B85_1, B85_2, B85_3, B85_4, B85_5, Classical.not_not, Prod.mk.injEq, m_l, m_lp, m_lq, m_ps, m_ws, m_en, List.replicate, if_true, if_false, reduceIte, true_and, and_true, false_and, and_false, true_or, or_true, false_or, or_false, and_self, or_self, not_true_eq_false, not_false_eq_true, ne_eq, Nat.reduceLeDiff, Nat.reduceEqDiff, Nat.reduceAdd, Int.reduceLE, Int.reduceLT, Int.reduceEq, Int.reduceNe, Int.reduceAdd, Int.reduceNeg, Nat.reduceSub, Nat.succ_ne_zero, Nat.not_succ_le_zero, Nat.reduceMul, Int.reduceMul, Int.reduceSub, Int.reduceToNat, Nat.zero_le, Nat.reduceLT, r_0, r_1, r_2, r_3, r_4, r_5, r_6, r_7, r_9, r_10, r_11, r_12, r_13, r_14, r_15, r_16, r_17, r_18, r_19, r_20_0, r_21_0, r_20_1, r_21_1, r_20_2, r_21_2, r_20_3, r_21_3, r_20_4, r_21_4, r_20_5, r_21_5, r_22_0, r_22_1, r_23, r_24, r_25, r_26, r_27, r_28, r_29, r_30_0, r_30_1, r_30_2, r_31, r_31b, r_32, r_33, r_33b, r_33c, r_34, r_34b, r_35, r_45, r_46, r_47_0, r_47_1, r_40, r_50, r_51, r_41_0, r_41_1, r_42, r_43, r_44, r_36_0, r_37_0, r_38_0, r_48_0, r_36_1, r_37_1, r_38_1, r_48_1, r_36_2, r_37_2, r_38_2, r_48_2, r_36_3, r_37_3, r_36_4, r_37_4, r_36_5, r_37_5, r_39, r_8, al_13, al_14, al_15, al_16, al_18, al_19, al_25, al_26, al_27, al_28, al_29, al_30, al_31, al_32, al_33, al_34, al_35, al_36, al_37, al_38, al_39, al_40, al_41, al_42, al_43, al_44, al_45, al_46, al_48, al_49, al_50, al_51, al_52, al_53, al_54, al_55, al_56, al_57, al_58, al_59, al_60, al_61, al_62, al_63, al_64, al_65, al_66, al_67, al_68, al_69, al_70, rf_0_0, rf_0_1, rf_0_2, rf_0_3, rf_0_4, rf_0_5, rf_0_6, rf_0_7, rf_0_8, rf_0_10, rf_0_11, rf_1_0, rf_1_1, rf_1_2, rf_2_0, rf_2_1, rf_2_2, rf_3_0, rf_3_1, rf_3_2, rf_4_0, rf_4_1, rf_4_2, rf_5_0, rf_5_1, rf_5_2, rf_6_0, rf_6_1, rf_7_0, rf_7_1, rf_8_0, rf_8_1, rf_8_5, rf_8_6, rf_8_7, rf_8_8, rf_8_9, rf_9_0, rf_10_0, rf_11_0, rf_12_0, rf_47_0, rf_47_1, rf_47_2, rf_47_3, rf_47_5, rf_47_6, rf_47_8, rf_47_10, rf_47_12, rf_47_14, rf_47_15, rf_47_16, rf_47_17, rf_47_18, rf_47_19, rf_47_20, rf_47_21, rf_47_22, rf_47_23, rf_47_24, rf_47_26, rf_47_27, rf_47_29, rf_17, rf_20, rf_21, rf_22, rf_23, rf_24, rl_17, rl_20, rl_21, rl_22, rl_23, rl_24, c_sheetOf, hs, hi, c_hasRow 1 i (show (0 : Int) ≤ 1 by decide) μ, b0]
  · simp only [t85_0, t85_1, t85_2, t85_3, t85_5, B85_0, B85_1, B85_2, B85_3, B85_4, B85_5, Classical.not_not, Prod.mk.injEq, m_l, m_lp, m_lq, m_ps, m_ws, m_en, List.replicate, if_true, if_false, reduceIte, true_and, and_true, false_and, and_false, true_or, or_true, false_or, or_false, and_self, or_self, not_true_eq_false, not_false_eq_true, ne_eq, Nat.reduceLeDiff, Nat.reduceEqDiff, Nat.reduceAdd, Int.reduceLE, Int.reduceLT, Int.reduceEq, Int.reduceNe, Int.reduceAdd, Int.reduceNeg, Nat.reduceSub, Nat.succ_ne_zero, Nat.not_succ_le_zero, Nat.reduceMul, Int.reduceMul, Int.reduceSub, Int.reduceToNat, Nat.zero_le, Nat.reduceLT, r_0, r_1, r_2, r_3, r_4, r_5, r_6, r_7, r_9, r_10, r_11, r_12, r_13, r_14, r_15, r_16, r_17, r_18, r_19, r_20_0, r_21_0, r_20_1, r_21_1, r_20_2, r_21_2, r_20_3, r_21_3, r_20_4, r_21_4, r_20_5, r_21_5, r_22_0, r_22_1, r_23, r_24, r_25, r_26, r_27, r_28, r_29, r_30_0, r_30_1, r_30_2, r_31, r_31b, r_32, r_33, r_33b, r_33c, r_34, r_34b, r_35, r_45, r_46, r_47_0, r_47_1, r_40, r_50, r_51, r_41_0, r_41_1, r_42, r_43, r_44, r_36_0, r_37_0, r_38_0, r_48_0, r_36_1, r_37_1, r_38_1, r_48_1, r_36_2, r_37_2, r_38_2, r_48_2, r_36_3, r_37_3, r_36_4, r_37_4, r_36_5, r_37_5, r_39, r_8, al_13, al_14, al_15, al_16, al_18, al_19, al_25, al_26, al_27, al_28, al_29, al_30, al_31, al_32, al_33, al_34, al_35, al_36, al_37, al_38, al_39, al_40, al_41, al_42, al_43, al_44, al_45, al_46, al_48, al_49, al_50, al_51, al_52, al_53, al_54, al_55, al_56, al_57, al_58, al_59, al_60, al_61, al_62, al_63, al_64, al_65, al_66, al_67, al_68, al_69, al_70, rf_0_0, rf_0_1, rf_0_2, rf_0_3, rf_0_4, rf_0_5, rf_0_6, rf_0_7, rf_0_8, rf_0_10, rf_0_11, rf_1_0, rf_1_1, rf_1_2, rf_2_0, rf_2_1, rf_2_2, rf_3_0, rf_3_1, rf_3_2, rf_4_0, rf_4_1, rf_4_2, rf_5_0, rf_5_1, rf_5_2, rf_6_0, rf_6_1, rf_7_0, rf_7_1, rf_8_0, rf_8_1, rf_8_5, rf_8_6, rf_8_7, rf_8_8, rf_8_9, rf_9_0, rf_10_0, rf_11_0, rf_12_0, rf_47_0, rf_47_1, rf_47_2, rf_47_3, rf_47_5, rf_47_6, rf_47_8, rf_47_10, rf_47_12, rf_47_14, rf_47_15, rf_47_16, rf_47_17, rf_47_18, rf_47_19, rf_47_20, rf_47_21, rf_47_22, rf_47_23, rf_47_24, rf_47_26, rf_47_27, rf_47_29, rf_17, rf_20, rf_21, rf_22, rf_23, rf_24, rl_17, rl_20, rl_21, rl_22, rl_23, rl_24, c_sheetOf, hs, c_hasRow 1 i (show (0 : Int) ≤ 1 by decide) μ, b0]
    grind
theorem c_write_null {μ : MMem} {s i : Int} (hi : 0 ≤ i ∧ i < μ 1 3) (hs : 0 ≤ s ∧ s < 4) (hl : μ (9 + s) 1 ≠ 0) (Q : MVal → MMem → Prop) : Cal 85 [(9, 0), (0, i), (0, s)] μ Q = Q (0, -11) (m_w μ 0 12 1) := by
  refine cal_eq rfl ?_ Q
  show Rn 85 B85_0 [(9, 0), (0, i), (0, s), (14, 0), (14, 0), (14, 0)] [] μ _
  have h9 : (0 ≤ 9 + s) = True := eq_true (by omega)
  simp only [t85_0, t85_1, t85_2, t85_3, t85_5, B85_0, B85_1, B85_2, B85_3, B85_4, B85_5, Classical.not_not, Prod.mk.injEq, m_l, m_lp, m_lq, m_ps, m_ws, m_en, List.replicate, if_true, if_false, reduceIte, true_and, and_true, false_and, and_false, true_or, or_true, false_or, or_false, and_self, or_self, not_true_eq_false, not_false_eq_true, ne_eq, Nat.reduceLeDiff, Nat.reduceEqDiff, Nat.reduceAdd, Int.reduceLE, Int.reduceLT, Int.reduceEq, Int.reduceNe, Int.reduceAdd, Int.reduceNeg, Nat.reduceSub, Nat.succ_ne_zero, Nat.not_succ_le_zero, Nat.reduceMul, Int.reduceMul, Int.reduceSub, Int.reduceToNat, Nat.zero_le, Nat.reduceLT, r_0, r_1, r_2, r_3, r_4, r_5, r_6, r_7, r_9, r_10, r_11, r_12, r_13, r_14, r_15, r_16, r_17, r_18, r_19, r_20_0, r_21_0, r_20_1, r_21_1, r_20_2, r_21_2, r_20_3, r_21_3, r_20_4, r_21_4, r_20_5, r_21_5, r_22_0, r_22_1, r_23, r_24, r_25, r_26, r_27, r_28, r_29, r_30_0, r_30_1, r_30_2, r_31, r_31b, r_32, r_33, r_33b, r_33c, r_34, r_34b, r_35, r_45, r_46, r_47_0, r_47_1, r_40, r_50, r_51, r_41_0, r_41_1, r_42, r_43, r_44, r_36_0, r_37_0, r_38_0, r_48_0, r_36_1, r_37_1, r_38_1, r_48_1, r_36_2, r_37_2, r_38_2, r_48_2, r_36_3, r_37_3, r_36_4, r_37_4, r_36_5, r_37_5, r_39, r_8, al_13, al_14, al_15, al_16, al_18, al_19, al_25, al_26, al_27, al_28, al_29, al_30, al_31, al_32, al_33, al_34, al_35, al_36, al_37, al_38, al_39, al_40, al_41, al_42, al_43, al_44, al_45, al_46, al_48, al_49, al_50, al_51, al_52, al_53, al_54, al_55, al_56, al_57, al_58, al_59, al_60, al_61, al_62, al_63, al_64, al_65, al_66, al_67, al_68, al_69, al_70, rf_0_0, rf_0_1, rf_0_2, rf_0_3, rf_0_4, rf_0_5, rf_0_6, rf_0_7, rf_0_8, rf_0_10, rf_0_11, rf_1_0, rf_1_1, rf_1_2, rf_2_0, rf_2_1, rf_2_2, rf_3_0, rf_3_1, rf_3_2, rf_4_0, rf_4_1, rf_4_2, rf_5_0, rf_5_1, rf_5_2, rf_6_0, rf_6_1, rf_7_0, rf_7_1, rf_8_0, rf_8_1, rf_8_5, rf_8_6, rf_8_7, rf_8_8, rf_8_9, rf_9_0, rf_10_0, rf_11_0, rf_12_0, rf_47_0, rf_47_1, rf_47_2, rf_47_3, rf_47_5, rf_47_6, rf_47_8, rf_47_10, rf_47_12, rf_47_14, rf_47_15, rf_47_16, rf_47_17, rf_47_18, rf_47_19, rf_47_20, rf_47_21, rf_47_22, rf_47_23, rf_47_24, rf_47_26, rf_47_27, rf_47_29, rf_17, rf_20, rf_21, rf_22, rf_23, rf_24, rl_17, rl_20, rl_21, rl_22, rl_23, rl_24, c_sheetOf, hs, hi, h9, hl, c_hasRow 1 i (show (0 : Int) ≤ 1 by decide) μ, b0, c_finding, fnd1]
theorem c_write_ok {μ T : MMem} (hI : CI μ T) {s i : Int} (hs : 0 ≤ s ∧ s < 4) (hi : 0 ≤ i ∧ i < T 0 0) (hl : μ (9 + s) 1 = 0) (hz : 0 ≤ μ (9 + s) 3 ∧ μ (9 + s) 3 ≤ 60) : ∃ μ' : MMem, (FI μ μ' (13 + s) ∧ μ' (13 + s) = wrR μ T s i (wrN (μ (9 + s) 3))) ∧ ∀ Q : MVal → MMem → Prop, Cal 85 [(9, 0), (0, i), (0, s)] μ Q = Q (0, wrN (μ (9 + s) 3)) μ' := by
  obtain ⟨hT, hC, hE, h3⟩ := id hI
  refine cal_ex (P := fun μ' => FI μ μ' (13 + s) ∧ μ' (13 + s) = wrR μ T s i (wrN (μ (9 + s) 3))) rfl ?_
  show Rn 85 B85_0 [(9, 0), (0, i), (0, s), (14, 0), (14, 0), (14, 0)] [] μ _
  have h9 : (0 ≤ 9 + s) = True := eq_true (by omega)
  obtain ⟨μ1, ⟨p1, w1, f1⟩, c1⟩ := w_begin μ hT hC hE 0 h3.symm
  have en : (if (24 : Int) < μ (9 + s) 3 then 24 else μ (9 + s) 3) = (((wrN (μ (9 + s) 3)).toNat : Nat) : Int) := by
    unfold wrN
    split <;> split <;> omega
  have en2 : (((wrN (μ (9 + s) 3)).toNat : Nat) : Int) = wrN (μ (9 + s) 3) := by
    unfold wrN
    split <;> omega
  have hi' : 0 ≤ i ∧ i < μ 1 3 := by rw [hC.1]; exact hi
  simp only [t85_0, t85_1, t85_2, t85_3, t85_5, B85_0, B85_1, B85_2, B85_3, B85_4, B85_5, Classical.not_not, Prod.mk.injEq, m_l, m_lp, m_lq, m_ps, m_ws, m_en, List.replicate, if_true, if_false, reduceIte, true_and, and_true, false_and, and_false, true_or, or_true, false_or, or_false, and_self, or_self, not_true_eq_false, not_false_eq_true, ne_eq, Nat.reduceLeDiff, Nat.reduceEqDiff, Nat.reduceAdd, Int.reduceLE, Int.reduceLT, Int.reduceEq, Int.reduceNe, Int.reduceAdd, Int.reduceNeg, Nat.reduceSub, Nat.succ_ne_zero, Nat.not_succ_le_zero, Nat.reduceMul, Int.reduceMul, Int.reduceSub, Int.reduceToNat, Nat.zero_le, Nat.reduceLT, r_0, r_1, r_2, r_3, r_4, r_5, r_6, r_7, r_9, r_10, r_11, r_12, r_13, r_14, r_15, r_16, r_17, r_18, r_19, r_20_0, r_21_0, r_20_1, r_21_1, r_20_2, r_21_2, r_20_3, r_21_3, r_20_4, r_21_4, r_20_5, r_21_5, r_22_0, r_22_1, r_23, r_24, r_25, r_26, r_27, r_28, r_29, r_30_0, r_30_1, r_30_2, r_31, r_31b, r_32, r_33, r_33b, r_33c, r_34, r_34b, r_35, r_45, r_46, r_47_0, r_47_1, r_40, r_50, r_51, r_41_0, r_41_1, r_42, r_43, r_44, r_36_0, r_37_0, r_38_0, r_48_0, r_36_1, r_37_1, r_38_1, r_48_1, r_36_2, r_37_2, r_38_2, r_48_2, r_36_3, r_37_3, r_36_4, r_37_4, r_36_5, r_37_5, r_39, r_8, al_13, al_14, al_15, al_16, al_18, al_19, al_25, al_26, al_27, al_28, al_29, al_30, al_31, al_32, al_33, al_34, al_35, al_36, al_37, al_38, al_39, al_40, al_41, al_42, al_43, al_44, al_45, al_46, al_48, al_49, al_50, al_51, al_52, al_53, al_54, al_55, al_56, al_57, al_58, al_59, al_60, al_61, al_62, al_63, al_64, al_65, al_66, al_67, al_68, al_69, al_70, rf_0_0, rf_0_1, rf_0_2, rf_0_3, rf_0_4, rf_0_5, rf_0_6, rf_0_7, rf_0_8, rf_0_10, rf_0_11, rf_1_0, rf_1_1, rf_1_2, rf_2_0, rf_2_1, rf_2_2, rf_3_0, rf_3_1, rf_3_2, rf_4_0, rf_4_1, rf_4_2, rf_5_0, rf_5_1, rf_5_2, rf_6_0, rf_6_1, rf_7_0, rf_7_1, rf_8_0, rf_8_1, rf_8_5, rf_8_6, rf_8_7, rf_8_8, rf_8_9, rf_9_0, rf_10_0, rf_11_0, rf_12_0, rf_47_0, rf_47_1, rf_47_2, rf_47_3, rf_47_5, rf_47_6, rf_47_8, rf_47_10, rf_47_12, rf_47_14, rf_47_15, rf_47_16, rf_47_17, rf_47_18, rf_47_19, rf_47_20, rf_47_21, rf_47_22, rf_47_23, rf_47_24, rf_47_26, rf_47_27, rf_47_29, rf_17, rf_20, rf_21, rf_22, rf_23, rf_24, rl_17, rl_20, rl_21, rl_22, rl_23, rl_24, c_sheetOf, hs, hi', h9, hl, c_hasRow 1 i (show (0 : Int) ≤ 1 by decide) μ, b0, c1, en]
  refine c_writeL hI hs hi hz (n := (wrN (μ (9 + s) 3)).toNat) ?_ ?_ (fun ν f r => ⟨by rw [en2], f, by rw [← en2]; exact r⟩) (wrN (μ (9 + s) 3)).toNat 0 μ1 (by omega) (fun a a1 a2 a3 => f1 a a1 a3) ?_ p1 w1
  · unfold wrN
    split <;> omega
  · unfold wrN
    split <;> omega
  · rw [f1 (13 + s) (by omega) (by omega)]
    funext j
    unfold wrR
    rw [if_neg (by omega)]
