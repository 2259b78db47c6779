theorem d_letterOf (b l : Int) (hb : 0 ≤ b ∧ b < 256) (μ : MMem) (Q : MVal → MMem → Prop) : Cal 122 [(0, b), (0, l)] μ Q = Q (0, if 97 ≤ b ∧ b ≤ l then b - 97 else -9) μ := by
  refine cal_eq rfl ?_ Q
  show Rn 122 B122_0 [(0, b), (0, l)] [] μ _
  simp only [r_0, r_1, r_2, r_3, r_4, r_5, r_6, r_7, r_9, r_10, r_11, r_12, r_13, r_14, r_15, r_16, r_17, r_18, r_19, r_20_0, r_21_0, r_20_1, r_21_1, r_20_2, r_21_2, r_20_3, r_21_3, r_20_4, r_21_4, r_20_5, r_21_5, r_22_0, r_22_1, r_23, r_24, r_25, r_26, r_27, r_28, r_29, r_30_0, r_30_1, r_30_2, r_31, r_31b, r_32, r_33, r_33b, r_33c, r_34, r_34b, r_35, r_45, r_46, r_47_0, r_47_1, r_40, r_50, r_51, r_41_0, r_41_1, r_42, r_43, r_44, r_36_0, r_37_0, r_38_0, r_48_0, r_36_1, r_37_1, r_38_1, r_48_1, r_36_2, r_37_2, r_38_2, r_48_2, r_36_3, r_37_3, r_36_4, r_37_4, r_36_5, r_37_5, r_39, r_8, al_13, al_14, al_15, al_16, al_18, al_19, al_25, al_26, al_27, al_28, al_29, al_30, al_31, al_32, al_33, al_34, al_35, al_36, al_37, al_38, al_39, al_40, al_41, al_42, al_43, al_44, al_45, al_46, al_48, al_49, al_50, al_51, al_52, al_53, al_54, al_55, al_56, al_57, al_58, al_59, al_60, al_61, al_62, al_63, al_64, al_65, al_66, al_67, al_68, al_69, al_70, rf_0_0, rf_0_1, rf_0_2, rf_0_3, rf_0_4, rf_0_5, rf_0_6, rf_0_7, rf_0_8, rf_0_10, rf_0_11, rf_1_0, rf_1_1, rf_1_2, rf_2_0, rf_2_1, rf_2_2, rf_3_0, rf_3_1, rf_3_2, rf_4_0, rf_4_1, rf_4_2, rf_5_0, rf_5_1, rf_5_2, rf_6_0, rf_6_1, rf_7_0, rf_7_1, rf_8_0, rf_8_1, rf_8_5, rf_8_6, rf_8_7, rf_8_8, rf_8_9, rf_9_0, rf_10_0, rf_11_0, rf_12_0, rf_47_0, rf_47_1, rf_47_2, rf_47_3, rf_47_5, rf_47_6, rf_47_8, rf_47_10, rf_47_12, rf_47_14, rf_47_15, rf_47_16, rf_47_17, rf_47_18, rf_47_19, rf_47_20, rf_47_21, rf_47_22, rf_47_23, rf_47_24, rf_47_26, rf_47_27, rf_47_29, rf_17, rf_20, rf_21, rf_22, rf_23, rf_24, rl_17, rl_20, rl_21, rl_22, rl_23, rl_24, Classical.not_not, Prod.mk.injEq, m_l, m_lp, m_lq, m_ps, m_ws, m_en, List.replicate, if_true, if_false, reduceIte, true_and, and_true, false_and, and_false, true_or, or_true, false_or, or_false, and_self, or_self, not_true_eq_false, not_false_eq_true, ne_eq, Nat.reduceLeDiff, Nat.reduceEqDiff, Nat.reduceAdd, Int.reduceLE, Int.reduceLT, Int.reduceEq, Int.reduceNe, Int.reduceAdd, Int.reduceNeg, Nat.reduceSub, Nat.succ_ne_zero, Nat.not_succ_le_zero, Nat.reduceMul, Int.reduceMul, Int.reduceSub, Int.reduceToNat, Nat.zero_le, Nat.reduceLT, t122_0, t122_1, t122_2, B122_0, B122_1, B122_2, d_in, b0]
  rw [m_i1 (by omega) (by omega)]
  grind
theorem d_highOf (b : Int) (hb : 0 ≤ b ∧ b < 256) (μ : MMem) (Q : MVal → MMem → Prop) : Cal 123 [(0, b)] μ Q = Q (0, if 97 ≤ b ∧ b ≤ 116 then b - 96 else -9) μ := by
  refine cal_eq rfl ?_ Q
  show Rn 123 B123_0 [(0, b)] [] μ _
  simp only [r_0, r_1, r_2, r_3, r_4, r_5, r_6, r_7, r_9, r_10, r_11, r_12, r_13, r_14, r_15, r_16, r_17, r_18, r_19, r_20_0, r_21_0, r_20_1, r_21_1, r_20_2, r_21_2, r_20_3, r_21_3, r_20_4, r_21_4, r_20_5, r_21_5, r_22_0, r_22_1, r_23, r_24, r_25, r_26, r_27, r_28, r_29, r_30_0, r_30_1, r_30_2, r_31, r_31b, r_32, r_33, r_33b, r_33c, r_34, r_34b, r_35, r_45, r_46, r_47_0, r_47_1, r_40, r_50, r_51, r_41_0, r_41_1, r_42, r_43, r_44, r_36_0, r_37_0, r_38_0, r_48_0, r_36_1, r_37_1, r_38_1, r_48_1, r_36_2, r_37_2, r_38_2, r_48_2, r_36_3, r_37_3, r_36_4, r_37_4, r_36_5, r_37_5, r_39, r_8, al_13, al_14, al_15, al_16, al_18, al_19, al_25, al_26, al_27, al_28, al_29, al_30, al_31, al_32, al_33, al_34, al_35, al_36, al_37, al_38, al_39, al_40, al_41, al_42, al_43, al_44, al_45, al_46, al_48, al_49, al_50, al_51, al_52, al_53, al_54, al_55, al_56, al_57, al_58, al_59, al_60, al_61, al_62, al_63, al_64, al_65, al_66, al_67, al_68, al_69, al_70, rf_0_0, rf_0_1, rf_0_2, rf_0_3, rf_0_4, rf_0_5, rf_0_6, rf_0_7, rf_0_8, rf_0_10, rf_0_11, rf_1_0, rf_1_1, rf_1_2, rf_2_0, rf_2_1, rf_2_2, rf_3_0, rf_3_1, rf_3_2, rf_4_0, rf_4_1, rf_4_2, rf_5_0, rf_5_1, rf_5_2, rf_6_0, rf_6_1, rf_7_0, rf_7_1, rf_8_0, rf_8_1, rf_8_5, rf_8_6, rf_8_7, rf_8_8, rf_8_9, rf_9_0, rf_10_0, rf_11_0, rf_12_0, rf_47_0, rf_47_1, rf_47_2, rf_47_3, rf_47_5, rf_47_6, rf_47_8, rf_47_10, rf_47_12, rf_47_14, rf_47_15, rf_47_16, rf_47_17, rf_47_18, rf_47_19, rf_47_20, rf_47_21, rf_47_22, rf_47_23, rf_47_24, rf_47_26, rf_47_27, rf_47_29, rf_17, rf_20, rf_21, rf_22, rf_23, rf_24, rl_17, rl_20, rl_21, rl_22, rl_23, rl_24, Classical.not_not, Prod.mk.injEq, m_l, m_lp, m_lq, m_ps, m_ws, m_en, List.replicate, if_true, if_false, reduceIte, true_and, and_true, false_and, and_false, true_or, or_true, false_or, or_false, and_self, or_self, not_true_eq_false, not_false_eq_true, ne_eq, Nat.reduceLeDiff, Nat.reduceEqDiff, Nat.reduceAdd, Int.reduceLE, Int.reduceLT, Int.reduceEq, Int.reduceNe, Int.reduceAdd, Int.reduceNeg, Nat.reduceSub, Nat.succ_ne_zero, Nat.not_succ_le_zero, Nat.reduceMul, Int.reduceMul, Int.reduceSub, Int.reduceToNat, Nat.zero_le, Nat.reduceLT, t123_0, t123_1, t123_2, B123_0, B123_1, B123_2, d_in, b0]
  rw [m_i1 (by omega) (by omega), m_i0 (by omega) (by omega)]
  grind
theorem d_figureOf (b l : Int) (hb : 0 ≤ b ∧ b < 256) (hl : 0 ≤ l ∧ l < 10) (μ : MMem) (Q : MVal → MMem → Prop) : Cal 126 [(0, b), (0, l)] μ Q = Q (0, if 48 ≤ b ∧ b ≤ 48 + l then b - 48 else -9) μ := by
  refine cal_eq rfl ?_ Q
  show Rn 126 B126_0 [(0, b), (0, l)] [] μ _
  simp only [r_0, r_1, r_2, r_3, r_4, r_5, r_6, r_7, r_9, r_10, r_11, r_12, r_13, r_14, r_15, r_16, r_17, r_18, r_19, r_20_0, r_21_0, r_20_1, r_21_1, r_20_2, r_21_2, r_20_3, r_21_3, r_20_4, r_21_4, r_20_5, r_21_5, r_22_0, r_22_1, r_23, r_24, r_25, r_26, r_27, r_28, r_29, r_30_0, r_30_1, r_30_2, r_31, r_31b, r_32, r_33, r_33b, r_33c, r_34, r_34b, r_35, r_45, r_46, r_47_0, r_47_1, r_40, r_50, r_51, r_41_0, r_41_1, r_42, r_43, r_44, r_36_0, r_37_0, r_38_0, r_48_0, r_36_1, r_37_1, r_38_1, r_48_1, r_36_2, r_37_2, r_38_2, r_48_2, r_36_3, r_37_3, r_36_4, r_37_4, r_36_5, r_37_5, r_39, r_8, al_13, al_14, al_15, al_16, al_18, al_19, al_25, al_26, al_27, al_28, al_29, al_30, al_31, al_32, al_33, al_34, al_35, al_36, al_37, al_38, al_39, al_40, al_41, al_42, al_43, al_44, al_45, al_46, al_48, al_49, al_50, al_51, al_52, al_53, al_54, al_55, al_56, al_57, al_58, al_59, al_60, al_61, al_62, al_63, al_64, al_65, al_66, al_67, al_68, al_69, al_70, rf_0_0, rf_0_1, rf_0_2, rf_0_3, rf_0_4, rf_0_5, rf_0_6, rf_0_7, rf_0_8, rf_0_10, rf_0_11, rf_1_0, rf_1_1, rf_1_2, rf_2_0, rf_2_1, rf_2_2, rf_3_0, rf_3_1, rf_3_2, rf_4_0, rf_4_1, rf_4_2, rf_5_0, rf_5_1, rf_5_2, rf_6_0, rf_6_1, rf_7_0, rf_7_1, rf_8_0, rf_8_1, rf_8_5, rf_8_6, rf_8_7, rf_8_8, rf_8_9, rf_9_0, rf_10_0, rf_11_0, rf_12_0, rf_47_0, rf_47_1, rf_47_2, rf_47_3, rf_47_5, rf_47_6, rf_47_8, rf_47_10, rf_47_12, rf_47_14, rf_47_15, rf_47_16, rf_47_17, rf_47_18, rf_47_19, rf_47_20, rf_47_21, rf_47_22, rf_47_23, rf_47_24, rf_47_26, rf_47_27, rf_47_29, rf_17, rf_20, rf_21, rf_22, rf_23, rf_24, rl_17, rl_20, rl_21, rl_22, rl_23, rl_24, Classical.not_not, Prod.mk.injEq, m_l, m_lp, m_lq, m_ps, m_ws, m_en, List.replicate, if_true, if_false, reduceIte, true_and, and_true, false_and, and_false, true_or, or_true, false_or, or_false, and_self, or_self, not_true_eq_false, not_false_eq_true, ne_eq, Nat.reduceLeDiff, Nat.reduceEqDiff, Nat.reduceAdd, Int.reduceLE, Int.reduceLT, Int.reduceEq, Int.reduceNe, Int.reduceAdd, Int.reduceNeg, Nat.reduceSub, Nat.succ_ne_zero, Nat.not_succ_le_zero, Nat.reduceMul, Int.reduceMul, Int.reduceSub, Int.reduceToNat, Nat.zero_le, Nat.reduceLT, t126_0, t126_1, t126_2, B126_0, B126_1, B126_2, d_in, b0]
  rw [m_i1 (by omega) (by omega), m_i0 (by omega) (by omega)]
  grind
theorem d_houseOf (c b : Int) (hc : 0 ≤ c ∧ c < 3) (hb : 0 ≤ b ∧ b < 256) (μ : MMem) (Q : MVal → MMem → Prop) : Cal 124 [(0, c), (0, b)] μ Q = Q (0, if hvS c b = -1 then -9 else hvS c b) μ := by
  refine cal_eq rfl ?_ Q
  show Rn 124 B124_0 [(0, c), (0, b)] [] μ _
  simp only [r_0, r_1, r_2, r_3, r_4, r_5, r_6, r_7, r_9, r_10, r_11, r_12, r_13, r_14, r_15, r_16, r_17, r_18, r_19, r_20_0, r_21_0, r_20_1, r_21_1, r_20_2, r_21_2, r_20_3, r_21_3, r_20_4, r_21_4, r_20_5, r_21_5, r_22_0, r_22_1, r_23, r_24, r_25, r_26, r_27, r_28, r_29, r_30_0, r_30_1, r_30_2, r_31, r_31b, r_32, r_33, r_33b, r_33c, r_34, r_34b, r_35, r_45, r_46, r_47_0, r_47_1, r_40, r_50, r_51, r_41_0, r_41_1, r_42, r_43, r_44, r_36_0, r_37_0, r_38_0, r_48_0, r_36_1, r_37_1, r_38_1, r_48_1, r_36_2, r_37_2, r_38_2, r_48_2, r_36_3, r_37_3, r_36_4, r_37_4, r_36_5, r_37_5, r_39, r_8, al_13, al_14, al_15, al_16, al_18, al_19, al_25, al_26, al_27, al_28, al_29, al_30, al_31, al_32, al_33, al_34, al_35, al_36, al_37, al_38, al_39, al_40, al_41, al_42, al_43, al_44, al_45, al_46, al_48, al_49, al_50, al_51, al_52, al_53, al_54, al_55, al_56, al_57, al_58, al_59, al_60, al_61, al_62, al_63, al_64, al_65, al_66, al_67, al_68, al_69, al_70, rf_0_0, rf_0_1, rf_0_2, rf_0_3, rf_0_4, rf_0_5, rf_0_6, rf_0_7, rf_0_8, rf_0_10, rf_0_11, rf_1_0, rf_1_1, rf_1_2, rf_2_0, rf_2_1, rf_2_2, rf_3_0, rf_3_1, rf_3_2, rf_4_0, rf_4_1, rf_4_2, rf_5_0, rf_5_1, rf_5_2, rf_6_0, rf_6_1, rf_7_0, rf_7_1, rf_8_0, rf_8_1, rf_8_5, rf_8_6, rf_8_7, rf_8_8, rf_8_9, rf_9_0, rf_10_0, rf_11_0, rf_12_0, rf_47_0, rf_47_1, rf_47_2, rf_47_3, rf_47_5, rf_47_6, rf_47_8, rf_47_10, rf_47_12, rf_47_14, rf_47_15, rf_47_16, rf_47_17, rf_47_18, rf_47_19, rf_47_20, rf_47_21, rf_47_22, rf_47_23, rf_47_24, rf_47_26, rf_47_27, rf_47_29, rf_17, rf_20, rf_21, rf_22, rf_23, rf_24, rl_17, rl_20, rl_21, rl_22, rl_23, rl_24, Classical.not_not, Prod.mk.injEq, m_l, m_lp, m_lq, m_ps, m_ws, m_en, List.replicate, if_true, if_false, reduceIte, true_and, and_true, false_and, and_false, true_or, or_true, false_or, or_false, and_self, or_self, not_true_eq_false, not_false_eq_true, ne_eq, Nat.reduceLeDiff, Nat.reduceEqDiff, Nat.reduceAdd, Int.reduceLE, Int.reduceLT, Int.reduceEq, Int.reduceNe, Int.reduceAdd, Int.reduceNeg, Nat.reduceSub, Nat.succ_ne_zero, Nat.not_succ_le_zero, Nat.reduceMul, Int.reduceMul, Int.reduceSub, Int.reduceToNat, Nat.zero_le, Nat.reduceLT, t124_0, t124_1, t124_2, t124_3, t124_4, t124_5, t124_6, t124_7, t124_8, B124_0, B124_1, B124_2, B124_3, B124_4, B124_5, B124_6, B124_7, B124_8, d_highOf b hb]
  unfold hvS
  grind
theorem d_brideOf (c b : Int) (hc : 0 ≤ c ∧ c < 5) (hb : 0 ≤ b ∧ b < 256) (μ : MMem) (Q : MVal → MMem → Prop) : Cal 127 [(0, c), (0, b)] μ Q = Q (0, if bvS c b = -1 then -9 else bvS c b) μ := by
  refine cal_eq rfl ?_ Q
  show Rn 127 B127_0 [(0, c), (0, b)] [] μ _
  simp only [r_0, r_1, r_2, r_3, r_4, r_5, r_6, r_7, r_9, r_10, r_11, r_12, r_13, r_14, r_15, r_16, r_17, r_18, r_19, r_20_0, r_21_0, r_20_1, r_21_1, r_20_2, r_21_2, r_20_3, r_21_3, r_20_4, r_21_4, r_20_5, r_21_5, r_22_0, r_22_1, r_23, r_24, r_25, r_26, r_27, r_28, r_29, r_30_0, r_30_1, r_30_2, r_31, r_31b, r_32, r_33, r_33b, r_33c, r_34, r_34b, r_35, r_45, r_46, r_47_0, r_47_1, r_40, r_50, r_51, r_41_0, r_41_1, r_42, r_43, r_44, r_36_0, r_37_0, r_38_0, r_48_0, r_36_1, r_37_1, r_38_1, r_48_1, r_36_2, r_37_2, r_38_2, r_48_2, r_36_3, r_37_3, r_36_4, r_37_4, r_36_5, r_37_5, r_39, r_8, al_13, al_14, al_15, al_16, al_18, al_19, al_25, al_26, al_27, al_28, al_29, al_30, al_31, al_32, al_33, al_34, al_35, al_36, al_37, al_38, al_39, al_40, al_41, al_42, al_43, al_44, al_45, al_46, al_48, al_49, al_50, al_51, al_52, al_53, al_54, al_55, al_56, al_57, al_58, al_59, al_60, al_61, al_62, al_63, al_64, al_65, al_66, al_67, al_68, al_69, al_70, rf_0_0, rf_0_1, rf_0_2, rf_0_3, rf_0_4, rf_0_5, rf_0_6, rf_0_7, rf_0_8, rf_0_10, rf_0_11, rf_1_0, rf_1_1, rf_1_2, rf_2_0, rf_2_1, rf_2_2, rf_3_0, rf_3_1, rf_3_2, rf_4_0, rf_4_1, rf_4_2, rf_5_0, rf_5_1, rf_5_2, rf_6_0, rf_6_1, rf_7_0, rf_7_1, rf_8_0, rf_8_1, rf_8_5, rf_8_6, rf_8_7, rf_8_8, rf_8_9, rf_9_0, rf_10_0, rf_11_0, rf_12_0, rf_47_0, rf_47_1, rf_47_2, rf_47_3, rf_47_5, rf_47_6, rf_47_8, rf_47_10, rf_47_12, rf_47_14, rf_47_15, rf_47_16, rf_47_17, rf_47_18, rf_47_19, rf_47_20, rf_47_21, rf_47_22, rf_47_23, rf_47_24, rf_47_26, rf_47_27, rf_47_29, rf_17, rf_20, rf_21, rf_22, rf_23, rf_24, rl_17, rl_20, rl_21, rl_22, rl_23, rl_24, Classical.not_not, Prod.mk.injEq, m_l, m_lp, m_lq, m_ps, m_ws, m_en, List.replicate, if_true, if_false, reduceIte, true_and, and_true, false_and, and_false, true_or, or_true, false_or, or_false, and_self, or_self, not_true_eq_false, not_false_eq_true, ne_eq, Nat.reduceLeDiff, Nat.reduceEqDiff, Nat.reduceAdd, Int.reduceLE, Int.reduceLT, Int.reduceEq, Int.reduceNe, Int.reduceAdd, Int.reduceNeg, Nat.reduceSub, Nat.succ_ne_zero, Nat.not_succ_le_zero, Nat.reduceMul, Int.reduceMul, Int.reduceSub, Int.reduceToNat, Nat.zero_le, Nat.reduceLT, t127_0, t127_1, t127_2, t127_3, t127_4, t127_5, t127_6, t127_7, B127_0, B127_1, B127_2, B127_3, B127_4, B127_5, B127_6, B127_7, m_st, d_highOf b hb, d_figureOf b 5 hb (by decide), d_figureOf b 8 hb (by decide), d_letterOf b 120 hb]
  have h5 : c = 0 ∨ c = 1 ∨ c = 2 ∨ c = 3 ∨ c = 4 := by omega
  unfold bvS
  rcases h5 with rfl | rfl | rfl | rfl | rfl
  all_goals simp only [t127_0, B127_0, t127_1, B127_1, t127_2, B127_2, t127_3, B127_3, t127_4, B127_4, t127_5, B127_5, t127_6, B127_6, t127_7, B127_7, m_st, Classical.not_not, Prod.mk.injEq, m_l, m_lp, m_lq, m_ps, m_ws, m_en, List.replicate, if_true, if_false, reduceIte, true_and, and_true, false_and, and_false, true_or, or_true, false_or, or_false, and_self, or_self, not_true_eq_false, not_false_eq_true, ne_eq, Nat.reduceLeDiff, Nat.reduceEqDiff, Nat.reduceAdd, Int.reduceLE, Int.reduceLT, Int.reduceEq, Int.reduceNe, Int.reduceAdd, Int.reduceNeg, Nat.reduceSub, Nat.succ_ne_zero, Nat.not_succ_le_zero, Nat.reduceMul, Int.reduceMul, Int.reduceSub, Int.reduceToNat, Nat.zero_le, Nat.reduceLT, r_0, r_1, r_2, r_3, r_4, r_5, r_6, r_7, r_9, r_10, r_11, r_12, r_13, r_14, r_15, r_16, r_17, r_18, r_19, r_20_0, r_21_0, r_20_1, r_21_1, r_20_2, r_21_2, r_20_3, r_21_3, r_20_4, r_21_4, r_20_5, r_21_5, r_22_0, r_22_1, r_23, r_24, r_25, r_26, r_27, r_28, r_29, r_30_0, r_30_1, r_30_2, r_31, r_31b, r_32, r_33, r_33b, r_33c, r_34, r_34b, r_35, r_45, r_46, r_47_0, r_47_1, r_40, r_50, r_51, r_41_0, r_41_1, r_42, r_43, r_44, r_36_0, r_37_0, r_38_0, r_48_0, r_36_1, r_37_1, r_38_1, r_48_1, r_36_2, r_37_2, r_38_2, r_48_2, r_36_3, r_37_3, r_36_4, r_37_4, r_36_5, r_37_5, r_39, r_8, al_13, al_14, al_15, al_16, al_18, al_19, al_25, al_26, al_27, al_28, al_29, al_30, al_31, al_32, al_33, al_34, al_35, al_36, al_37, al_38, al_39, al_40, al_41, al_42, al_43, al_44, al_45, al_46, al_48, al_49, al_50, al_51, al_52, al_53, al_54, al_55, al_56, al_57, al_58, al_59, al_60, al_61, al_62, al_63, al_64, al_65, al_66, al_67, al_68, al_69, al_70, rf_0_0, rf_0_1, rf_0_2, rf_0_3, rf_0_4, rf_0_5, rf_0_6, rf_0_7, rf_0_8, rf_0_10, rf_0_11, rf_1_0, rf_1_1, rf_1_2, rf_2_0, rf_2_1, rf_2_2, rf_3_0, rf_3_1, rf_3_2, rf_4_0, rf_4_1, rf_4_2, rf_5_0, rf_5_1, rf_5_2, rf_6_0, rf_6_1, rf_7_0, rf_7_1, rf_8_0, rf_8_1, rf_8_5, rf_8_6, rf_8_7, rf_8_8, rf_8_9, rf_9_0, rf_10_0, rf_11_0, rf_12_0, rf_47_0, rf_47_1, rf_47_2, rf_47_3, rf_47_5, rf_47_6, rf_47_8, rf_47_10, rf_47_12, rf_47_14, rf_47_15, rf_47_16, rf_47_17, rf_47_18, rf_47_19, rf_47_20, rf_47_21, rf_47_22, rf_47_23, rf_47_24, rf_47_26, rf_47_27, rf_47_29, rf_17, rf_20, rf_21, rf_22, rf_23, rf_24, rl_17, rl_20, rl_21, rl_22, rl_23, rl_24, d_highOf b hb, d_figureOf b 5 hb (show (0 : Int) ≤ 5 ∧ (5 : Int) < 10 by decide), d_figureOf b 8 hb (show (0 : Int) ≤ 8 ∧ (8 : Int) < 10 by decide), d_letterOf b 120 hb]
  all_goals grind
theorem vS9 {x : Int} (h : -1 ≤ x) : ((if x = -1 then -9 else x) = -9) = (x = -1) := by
  refine propext ⟨fun q => ?_, fun q => by rw [if_pos q]⟩
  by_cases e : x = -1
  · exact e
  · rw [if_neg e] at q
    omega
theorem hvS_in (c b : Int) : -1 ≤ hvS c b := by
  unfold hvS
  grind
theorem bvS_in (c b : Int) : -1 ≤ bvS c b := by
  unfold bvS
  grind
def RDH (ν : MMem) (s : Int → Int) (i : Nat) : Prop := ∀ r c : Nat, c < 2 → 3 * r + c < i → ν 54 (2 * (r : Int) + (c : Int)) = hvS (c : Int) (s ((3 * r + c : Nat) : Int))
def FRH (μ ν : MMem) : Prop := (∀ a, a ≠ 47 → a ≠ 54 → ν a = μ a) ∧ ∀ j, j ≠ 7 → ν 47 j = μ 47 j
def TYH (μ μ' : MMem) (s : Int → Int) (n : Nat) : Prop := μ' 47 7 = fcC hvS 3 s n ∧ (fcF hvS 3 s n = -1 → RDH μ' s n) ∧ FRH μ μ'
theorem FRH.p {μ ν : MMem} (h : FRH μ ν) (v : Int) : FRH μ (m_w ν 47 7 v) := ⟨fun a q1 q2 => by rw [mw_ne q1]; exact h.1 a q1 q2, fun j hj => by rw [mw_at, if_neg hj]; exact h.2 j hj⟩
theorem FRH.a {μ ν : MMem} (h : FRH μ ν) (k v : Int) : FRH μ (m_w ν 54 k v) := ⟨fun a q1 q2 => by rw [mw_ne q2]; exact h.1 a q1 q2, fun j hj => by rw [mw_ne (by decide)]; exact h.2 j hj⟩
theorem RDH.p {ν : MMem} {s : Int → Int} {i : Nat} (h : RDH ν s i) (v : Int) : RDH (m_w ν 47 7 v) s i := fun r c q1 q2 => by rw [mw_ne (by decide)]; exact h r c q1 q2
theorem d_readsHL {μ : MMem} {n : Nat} {s : Int → Int} (hn : n ≤ 17) (h2 : μ 53 0 = n) (hs : ∀ i, 0 ≤ i → i < (n : Int) → μ 52 (0 + i) = s i ∧ 0 ≤ s i ∧ s i < 256) {Q : MVal → MMem → Prop} (h : ∀ μ', TYH μ μ' s n → Q (0, fcF hvS 3 s n) μ') : ∀ (d r c : Nat) (ν : MMem) (u w : MVal), 3 * r + c + d = n → c ≤ 2 → FRH μ ν → ν 47 7 = (if c = 2 then (r : Int) + 1 else (r : Int)) → RDH ν s (3 * r + c) → fcN hvS 3 s (3 * r + c) = -1 → At 125 1 [(10, 47), (0, (n : Int)), (0, ((3 * r + c : Nat) : Int)), u, w] [] ν Q := by
  intro d
  induction d with
  | zero =>
    intro r c ν u w hb hc hF h0 hR hf
    have e : 3 * r + c = n := by omega
    rw [e] at hR hf ⊢
    have hmod : n % 3 = c := by omega
    have hdiv : (n + 1) / 3 = if c = 2 then r + 1 else r := by split <;> omega
    have hrem : m_id 1 (n : Int) 3 = (c : Int) := by rw [m_id1 (by omega) (by omega) (by decide) (by decide)]; omega
    by_cases hz : n = 0 ∨ c = 2
    · have eF : fcF hvS 3 s n = -1 := by
        unfold fcF
        rw [if_neg (fun q => q hf), if_pos (by omega)]
      have eC : fcC hvS 3 s n = ν 47 7 := by
        unfold fcC
        rw [if_pos eF, hdiv, h0]
        split <;> rfl
      have hq := h ν ⟨eC.symm, fun _ => hR, hF⟩
      rw [eF] at hq
      rw [t125_1]
      simp only [t125_0, t125_2, t125_3, t125_4, t125_5, t125_6, t125_7, B125_0, B125_1, B125_2, B125_3, B125_4, B125_5, B125_6, B125_7, Classical.not_not, Prod.mk.injEq, m_l, m_lp, m_lq, m_ps, m_ws, m_en, List.replicate, if_true, if_false, reduceIte, true_and, and_true, false_and, and_false, true_or, or_true, false_or, or_false, and_self, or_self, not_true_eq_false, not_false_eq_true, ne_eq, Nat.reduceLeDiff, Nat.reduceEqDiff, Nat.reduceAdd, Int.reduceLE, Int.reduceLT, Int.reduceEq, Int.reduceNe, Int.reduceAdd, Int.reduceNeg, Nat.reduceSub, Nat.succ_ne_zero, Nat.not_succ_le_zero, Nat.reduceMul, Int.reduceMul, Int.reduceSub, Int.reduceToNat, Nat.zero_le, Nat.reduceLT, r_0, r_1, r_2, r_3, r_4, r_5, r_6, r_7, r_9, r_10, r_11, r_12, r_13, r_14, r_15, r_16, r_17, r_18, r_19, r_20_0, r_21_0, r_20_1, r_21_1, r_20_2, r_21_2, r_20_3, r_21_3, r_20_4, r_21_4, r_20_5, r_21_5, r_22_0, r_22_1, r_23, r_24, r_25, r_26, r_27, r_28, r_29, r_30_0, r_30_1, r_30_2, r_31, r_31b, r_32, r_33, r_33b, r_33c, r_34, r_34b, r_35, r_45, r_46, r_47_0, r_47_1, r_40, r_50, r_51, r_41_0, r_41_1, r_42, r_43, r_44, r_36_0, r_37_0, r_38_0, r_48_0, r_36_1, r_37_1, r_38_1, r_48_1, r_36_2, r_37_2, r_38_2, r_48_2, r_36_3, r_37_3, r_36_4, r_37_4, r_36_5, r_37_5, r_39, r_8, al_13, al_14, al_15, al_16, al_18, al_19, al_25, al_26, al_27, al_28, al_29, al_30, al_31, al_32, al_33, al_34, al_35, al_36, al_37, al_38, al_39, al_40, al_41, al_42, al_43, al_44, al_45, al_46, al_48, al_49, al_50, al_51, al_52, al_53, al_54, al_55, al_56, al_57, al_58, al_59, al_60, al_61, al_62, al_63, al_64, al_65, al_66, al_67, al_68, al_69, al_70, rf_0_0, rf_0_1, rf_0_2, rf_0_3, rf_0_4, rf_0_5, rf_0_6, rf_0_7, rf_0_8, rf_0_10, rf_0_11, rf_1_0, rf_1_1, rf_1_2, rf_2_0, rf_2_1, rf_2_2, rf_3_0, rf_3_1, rf_3_2, rf_4_0, rf_4_1, rf_4_2, rf_5_0, rf_5_1, rf_5_2, rf_6_0, rf_6_1, rf_7_0, rf_7_1, rf_8_0, rf_8_1, rf_8_5, rf_8_6, rf_8_7, rf_8_8, rf_8_9, rf_9_0, rf_10_0, rf_11_0, rf_12_0, rf_47_0, rf_47_1, rf_47_2, rf_47_3, rf_47_5, rf_47_6, rf_47_8, rf_47_10, rf_47_12, rf_47_14, rf_47_15, rf_47_16, rf_47_17, rf_47_18, rf_47_19, rf_47_20, rf_47_21, rf_47_22, rf_47_23, rf_47_24, rf_47_26, rf_47_27, rf_47_29, rf_17, rf_20, rf_21, rf_22, rf_23, rf_24, rl_17, rl_20, rl_21, rl_22, rl_23, rl_24, hrem]
      rw [if_pos (by omega)]
      grind
    · have eF : fcF hvS 3 s n = n := by
        unfold fcF
        rw [if_neg (fun q => q hf), if_neg (by omega)]
      have eC : fcC hvS 3 s n = 0 := by
        unfold fcC
        rw [if_neg (by omega)]
      have hq := h (m_w ν 47 7 0) ⟨by rw [mw_at, if_pos rfl, eC], fun _ => hR.p 0, hF.p 0⟩
      rw [eF] at hq
      rw [t125_1]
      simp only [t125_0, t125_2, t125_3, t125_4, t125_5, t125_6, t125_7, B125_0, B125_1, B125_2, B125_3, B125_4, B125_5, B125_6, B125_7, Classical.not_not, Prod.mk.injEq, m_l, m_lp, m_lq, m_ps, m_ws, m_en, List.replicate, if_true, if_false, reduceIte, true_and, and_true, false_and, and_false, true_or, or_true, false_or, or_false, and_self, or_self, not_true_eq_false, not_false_eq_true, ne_eq, Nat.reduceLeDiff, Nat.reduceEqDiff, Nat.reduceAdd, Int.reduceLE, Int.reduceLT, Int.reduceEq, Int.reduceNe, Int.reduceAdd, Int.reduceNeg, Nat.reduceSub, Nat.succ_ne_zero, Nat.not_succ_le_zero, Nat.reduceMul, Int.reduceMul, Int.reduceSub, Int.reduceToNat, Nat.zero_le, Nat.reduceLT, r_0, r_1, r_2, r_3, r_4, r_5, r_6, r_7, r_9, r_10, r_11, r_12, r_13, r_14, r_15, r_16, r_17, r_18, r_19, r_20_0, r_21_0, r_20_1, r_21_1, r_20_2, r_21_2, r_20_3, r_21_3, r_20_4, r_21_4, r_20_5, r_21_5, r_22_0, r_22_1, r_23, r_24, r_25, r_26, r_27, r_28, r_29, r_30_0, r_30_1, r_30_2, r_31, r_31b, r_32, r_33, r_33b, r_33c, r_34, r_34b, r_35, r_45, r_46, r_47_0, r_47_1, r_40, r_50, r_51, r_41_0, r_41_1, r_42, r_43, r_44, r_36_0, r_37_0, r_38_0, r_48_0, r_36_1, r_37_1, r_38_1, r_48_1, r_36_2, r_37_2, r_38_2, r_48_2, r_36_3, r_37_3, r_36_4, r_37_4, r_36_5, r_37_5, r_39, r_8, al_13, al_14, al_15, al_16, al_18, al_19, al_25, al_26, al_27, al_28, al_29, al_30, al_31, al_32, al_33, al_34, al_35, al_36, al_37, al_38, al_39, al_40, al_41, al_42, al_43, al_44, al_45, al_46, al_48, al_49, al_50, al_51, al_52, al_53, al_54, al_55, al_56, al_57, al_58, al_59, al_60, al_61, al_62, al_63, al_64, al_65, al_66, al_67, al_68, al_69, al_70, rf_0_0, rf_0_1, rf_0_2, rf_0_3, rf_0_4, rf_0_5, rf_0_6, rf_0_7, rf_0_8, rf_0_10, rf_0_11, rf_1_0, rf_1_1, rf_1_2, rf_2_0, rf_2_1, rf_2_2, rf_3_0, rf_3_1, rf_3_2, rf_4_0, rf_4_1, rf_4_2, rf_5_0, rf_5_1, rf_5_2, rf_6_0, rf_6_1, rf_7_0, rf_7_1, rf_8_0, rf_8_1, rf_8_5, rf_8_6, rf_8_7, rf_8_8, rf_8_9, rf_9_0, rf_10_0, rf_11_0, rf_12_0, rf_47_0, rf_47_1, rf_47_2, rf_47_3, rf_47_5, rf_47_6, rf_47_8, rf_47_10, rf_47_12, rf_47_14, rf_47_15, rf_47_16, rf_47_17, rf_47_18, rf_47_19, rf_47_20, rf_47_21, rf_47_22, rf_47_23, rf_47_24, rf_47_26, rf_47_27, rf_47_29, rf_17, rf_20, rf_21, rf_22, rf_23, rf_24, rl_17, rl_20, rl_21, rl_22, rl_23, rl_24, hrem]
      rw [if_pos (by omega)]
      grind
  | succ d ih =>
    intro r c ν u w hb hc hF h0 hR hf
    have es : ν 52 = μ 52 := hF.1 52 (by decide) (by decide)
    have hmod : (3 * r + c) % 3 = c := by omega
    have hsi := hs ((3 * r + c : Nat) : Int) (by omega) (by omega)
    have hrem : m_id 1 ((3 * r + c : Nat) : Int) 3 = (c : Int) := by rw [m_id1 (by omega) (by omega) (by decide) (by decide)]; omega
    have hdv : m_id 0 ((3 * r + c : Nat) : Int) 3 = (r : Int) := by rw [m_id0 (by omega) (by omega) (by decide) (by decide)]; omega
    have hN : fcN hvS 3 s (3 * r + c + 1) = if hvS (c : Int) (s ((3 * r + c : Nat) : Int)) = -1 then ((3 * r + c : Nat) : Int) else -1 := by
      rw [fcN, if_pos hf, hmod]
    have hbad : hvS (c : Int) (s ((3 * r + c : Nat) : Int)) = -1 → Q (0, ((3 * r + c : Nat) : Int)) (m_w ν 47 7 0) := fun q => by
      rw [if_pos q] at hN
      have e3 : fcN hvS 3 s n = ((3 * r + c : Nat) : Int) := by
        have := fcN_up hN (by omega) d
        rw [show 3 * r + c + 1 + d = n by omega] at this
        exact this
      have eF : fcF hvS 3 s n = ((3 * r + c : Nat) : Int) := by
        unfold fcF
        rw [e3, if_pos (by omega)]
      have eC : fcC hvS 3 s n = 0 := by
        unfold fcC
        rw [if_neg (by omega)]
      have := h _ ⟨by rw [mw_at, if_pos rfl, eC], fun q => by omega, hF.p 0⟩
      rw [eF] at this
      exact this
    have ep := d_houseOf (c : Int) (s ((3 * r + c : Nat) : Int)) (by omega) hsi.2 ν
    have hb40 : m_i 0 40 ((3 * r + c : Nat) : Int) = 40 + ((3 * r + c : Nat) : Int) := m_i0 (by omega) (by omega)
    have hsi1 := hsi.1
    rw [t125_1]
    simp only [Int.zero_add] at hsi1
    simp only [t125_0, t125_2, t125_3, t125_4, t125_5, t125_6, t125_7, B125_0, B125_1, B125_2, B125_3, B125_4, B125_5, B125_6, B125_7, Classical.not_not, Prod.mk.injEq, m_l, m_lp, m_lq, m_ps, m_ws, m_en, List.replicate, if_true, if_false, reduceIte, true_and, and_true, false_and, and_false, true_or, or_true, false_or, or_false, and_self, or_self, not_true_eq_false, not_false_eq_true, ne_eq, Nat.reduceLeDiff, Nat.reduceEqDiff, Nat.reduceAdd, Int.reduceLE, Int.reduceLT, Int.reduceEq, Int.reduceNe, Int.reduceAdd, Int.reduceNeg, Nat.reduceSub, Nat.succ_ne_zero, Nat.not_succ_le_zero, Nat.reduceMul, Int.reduceMul, Int.reduceSub, Int.reduceToNat, Nat.zero_le, Nat.reduceLT, r_0, r_1, r_2, r_3, r_4, r_5, r_6, r_7, r_9, r_10, r_11, r_12, r_13, r_14, r_15, r_16, r_17, r_18, r_19, r_20_0, r_21_0, r_20_1, r_21_1, r_20_2, r_21_2, r_20_3, r_21_3, r_20_4, r_21_4, r_20_5, r_21_5, r_22_0, r_22_1, r_23, r_24, r_25, r_26, r_27, r_28, r_29, r_30_0, r_30_1, r_30_2, r_31, r_31b, r_32, r_33, r_33b, r_33c, r_34, r_34b, r_35, r_45, r_46, r_47_0, r_47_1, r_40, r_50, r_51, r_41_0, r_41_1, r_42, r_43, r_44, r_36_0, r_37_0, r_38_0, r_48_0, r_36_1, r_37_1, r_38_1, r_48_1, r_36_2, r_37_2, r_38_2, r_48_2, r_36_3, r_37_3, r_36_4, r_37_4, r_36_5, r_37_5, r_39, r_8, al_13, al_14, al_15, al_16, al_18, al_19, al_25, al_26, al_27, al_28, al_29, al_30, al_31, al_32, al_33, al_34, al_35, al_36, al_37, al_38, al_39, al_40, al_41, al_42, al_43, al_44, al_45, al_46, al_48, al_49, al_50, al_51, al_52, al_53, al_54, al_55, al_56, al_57, al_58, al_59, al_60, al_61, al_62, al_63, al_64, al_65, al_66, al_67, al_68, al_69, al_70, rf_0_0, rf_0_1, rf_0_2, rf_0_3, rf_0_4, rf_0_5, rf_0_6, rf_0_7, rf_0_8, rf_0_10, rf_0_11, rf_1_0, rf_1_1, rf_1_2, rf_2_0, rf_2_1, rf_2_2, rf_3_0, rf_3_1, rf_3_2, rf_4_0, rf_4_1, rf_4_2, rf_5_0, rf_5_1, rf_5_2, rf_6_0, rf_6_1, rf_7_0, rf_7_1, rf_8_0, rf_8_1, rf_8_5, rf_8_6, rf_8_7, rf_8_8, rf_8_9, rf_9_0, rf_10_0, rf_11_0, rf_12_0, rf_47_0, rf_47_1, rf_47_2, rf_47_3, rf_47_5, rf_47_6, rf_47_8, rf_47_10, rf_47_12, rf_47_14, rf_47_15, rf_47_16, rf_47_17, rf_47_18, rf_47_19, rf_47_20, rf_47_21, rf_47_22, rf_47_23, rf_47_24, rf_47_26, rf_47_27, rf_47_29, rf_17, rf_20, rf_21, rf_22, rf_23, rf_24, rl_17, rl_20, rl_21, rl_22, rl_23, rl_24, hrem, es, hb40, hsi1, ep, vS9 (hvS_in (c : Int) (s ((3 * r + c : Nat) : Int))), hdv]
    rw [if_neg (by omega)]
    generalize hv : hvS (c : Int) (s ((3 * r + c : Nat) : Int)) = v at *
    refine ⟨⟨by omega, by omega⟩, ?_⟩
    rw [m_i0 (x := ((3 * r + c : Nat) : Int)) (by omega) (by omega)]
    by_cases q : v = -1
    · rw [if_neg (fun z => z q)]
      exact hbad q
    · rw [if_pos q, if_neg q, m_i2 (x := 2) (y := (r : Int)) (by omega) (by omega), m_i0 (x := 2 * (r : Int)) (y := (c : Int)) (by omega) (by omega)]
      rw [if_neg q] at hN
      by_cases hk : c = 2
      · subst hk
        have i1 := fun (ν' : MMem) (u' w' : MVal) => ih (r + 1) 0 ν' u' w' (by omega) (by omega)
        rw [show (((3 * (r + 1) + 0 : Nat)) : Int) = ((3 * r + 2 : Nat) : Int) + 1 by omega, show 3 * (r + 1) + 0 = 3 * r + 2 + 1 by omega] at i1
        rw [if_pos rfl] at h0
        rw [if_pos (by decide)]
        rw [if_pos (by decide), h0, m_i0 (by omega) (by omega)]
        refine i1 _ _ _ (hF.p _) ?_ ?_ hN
        · rw [mw_at, if_pos rfl]
          push_cast
          simp
        · intro r' c' q1 q2
          rw [mw_ne (by decide)]
          exact hR r' c' q1 (by omega)
      · have i1 := fun (ν' : MMem) (u' w' : MVal) => ih r (c + 1) ν' u' w' (by omega) (by omega)
        rw [show (((3 * r + (c + 1) : Nat)) : Int) = ((3 * r + c : Nat) : Int) + 1 by omega, ← Nat.add_assoc] at i1
        rw [if_neg hk] at h0
        rw [if_neg (by omega)]
        refine ⟨⟨by omega, by omega⟩, ?_⟩
        have hw : m_w ν 54 (2 * (r : Int) + (c : Int)) v 47 7 = r := by rw [mw_ne (by decide)]; exact h0
        have hR2 : ∀ x : Int, RDH (m_w (m_w ν 54 (2 * (r : Int) + (c : Int)) v) 47 7 x) s (3 * r + c + 1) := by
          intro x r' c' q1 q2
          rw [mw_ne (by decide), mw_at]
          by_cases z : r' = r ∧ c' = c
          · obtain ⟨rfl, rfl⟩ := z
            rw [if_pos rfl, hv]
          · rw [if_neg (by omega)]
            exact hR r' c' q1 (by omega)
        rw [hw]
        by_cases hk1 : c = 1
        · rw [if_neg (by omega), m_i0 (by omega) (by omega)]
          refine i1 _ _ _ ((hF.a _ _).p _) ?_ (hR2 _) hN
          rw [mw_at, if_pos rfl, if_pos (by omega)]
        · rw [if_pos (by omega), m_i0 (by omega) (by omega)]
          refine i1 _ _ _ ((hF.a _ _).p _) ?_ (hR2 _) hN
          rw [mw_at, if_pos rfl, if_neg (by omega)]
          omega
theorem d_readsH {μ : MMem} {n : Nat} {s : Int → Int} (hn : n ≤ 17) (h2 : μ 53 0 = n) (hs : ∀ i, 0 ≤ i → i < (n : Int) → μ 52 (0 + i) = s i ∧ 0 ≤ s i ∧ s i < 256) : ∃ μ' : MMem, TYH μ μ' s n ∧ ∀ Q : MVal → MMem → Prop, Cal 125 [(10, 47)] μ Q = Q (0, fcF hvS 3 s n) μ' := by
  refine cal_ex (P := fun μ' => TYH μ μ' s n) rfl ?_
  show Rn 125 B125_0 [(10, 47), (14, 0), (14, 0), (14, 0), (14, 0)] [] μ _
  have h2' : m_w μ 47 7 0 53 0 = n := by rw [mw_ne (by decide)]; exact h2
  simp only [t125_0, t125_2, t125_3, t125_4, t125_5, t125_6, t125_7, B125_0, B125_1, B125_2, B125_3, B125_4, B125_5, B125_6, B125_7, Classical.not_not, Prod.mk.injEq, m_l, m_lp, m_lq, m_ps, m_ws, m_en, List.replicate, if_true, if_false, reduceIte, true_and, and_true, false_and, and_false, true_or, or_true, false_or, or_false, and_self, or_self, not_true_eq_false, not_false_eq_true, ne_eq, Nat.reduceLeDiff, Nat.reduceEqDiff, Nat.reduceAdd, Int.reduceLE, Int.reduceLT, Int.reduceEq, Int.reduceNe, Int.reduceAdd, Int.reduceNeg, Nat.reduceSub, Nat.succ_ne_zero, Nat.not_succ_le_zero, Nat.reduceMul, Int.reduceMul, Int.reduceSub, Int.reduceToNat, Nat.zero_le, Nat.reduceLT, r_0, r_1, r_2, r_3, r_4, r_5, r_6, r_7, r_9, r_10, r_11, r_12, r_13, r_14, r_15, r_16, r_17, r_18, r_19, r_20_0, r_21_0, r_20_1, r_21_1, r_20_2, r_21_2, r_20_3, r_21_3, r_20_4, r_21_4, r_20_5, r_21_5, r_22_0, r_22_1, r_23, r_24, r_25, r_26, r_27, r_28, r_29, r_30_0, r_30_1, r_30_2, r_31, r_31b, r_32, r_33, r_33b, r_33c, r_34, r_34b, r_35, r_45, r_46, r_47_0, r_47_1, r_40, r_50, r_51, r_41_0, r_41_1, r_42, r_43, r_44, r_36_0, r_37_0, r_38_0, r_48_0, r_36_1, r_37_1, r_38_1, r_48_1, r_36_2, r_37_2, r_38_2, r_48_2, r_36_3, r_37_3, r_36_4, r_37_4, r_36_5, r_37_5, r_39, r_8, al_13, al_14, al_15, al_16, al_18, al_19, al_25, al_26, al_27, al_28, al_29, al_30, al_31, al_32, al_33, al_34, al_35, al_36, al_37, al_38, al_39, al_40, al_41, al_42, al_43, al_44, al_45, al_46, al_48, al_49, al_50, al_51, al_52, al_53, al_54, al_55, al_56, al_57, al_58, al_59, al_60, al_61, al_62, al_63, al_64, al_65, al_66, al_67, al_68, al_69, al_70, rf_0_0, rf_0_1, rf_0_2, rf_0_3, rf_0_4, rf_0_5, rf_0_6, rf_0_7, rf_0_8, rf_0_10, rf_0_11, rf_1_0, rf_1_1, rf_1_2, rf_2_0, rf_2_1, rf_2_2, rf_3_0, rf_3_1, rf_3_2, rf_4_0, rf_4_1, rf_4_2, rf_5_0, rf_5_1, rf_5_2, rf_6_0, rf_6_1, rf_7_0, rf_7_1, rf_8_0, rf_8_1, rf_8_5, rf_8_6, rf_8_7, rf_8_8, rf_8_9, rf_9_0, rf_10_0, rf_11_0, rf_12_0, rf_47_0, rf_47_1, rf_47_2, rf_47_3, rf_47_5, rf_47_6, rf_47_8, rf_47_10, rf_47_12, rf_47_14, rf_47_15, rf_47_16, rf_47_17, rf_47_18, rf_47_19, rf_47_20, rf_47_21, rf_47_22, rf_47_23, rf_47_24, rf_47_26, rf_47_27, rf_47_29, rf_17, rf_20, rf_21, rf_22, rf_23, rf_24, rl_17, rl_20, rl_21, rl_22, rl_23, rl_24, h2']
  refine d_readsHL hn h2 hs (fun μ' q => ⟨rfl, q⟩) n 0 0 _ _ _ (by omega) (by omega) ⟨fun a q1 q2 => mw_ne q1, fun j hj => by rw [mw_at, if_neg hj]⟩ (by rw [mw_at, if_pos rfl]; simp) (fun r' c' q1 q2 => by omega) rfl
def RDB (ν : MMem) (s : Int → Int) (i : Nat) : Prop := ∀ r c : Nat, c < 4 → 5 * r + c < i → ν 55 (4 * (r : Int) + (c : Int)) = bvS (c : Int) (s ((5 * r + c : Nat) : Int))
def FRB (μ ν : MMem) : Prop := (∀ a, a ≠ 47 → a ≠ 55 → ν a = μ a) ∧ ∀ j, j ≠ 9 → ν 47 j = μ 47 j
def TYB (μ μ' : MMem) (s : Int → Int) (n : Nat) : Prop := μ' 47 9 = fcC bvS 5 s n ∧ (fcF bvS 5 s n = -1 → RDB μ' s n) ∧ FRB μ μ'
theorem FRB.p {μ ν : MMem} (h : FRB μ ν) (v : Int) : FRB μ (m_w ν 47 9 v) := ⟨fun a q1 q2 => by rw [mw_ne q1]; exact h.1 a q1 q2, fun j hj => by rw [mw_at, if_neg hj]; exact h.2 j hj⟩
theorem FRB.a {μ ν : MMem} (h : FRB μ ν) (k v : Int) : FRB μ (m_w ν 55 k v) := ⟨fun a q1 q2 => by rw [mw_ne q2]; exact h.1 a q1 q2, fun j hj => by rw [mw_ne (by decide)]; exact h.2 j hj⟩
theorem RDB.p {ν : MMem} {s : Int → Int} {i : Nat} (h : RDB ν s i) (v : Int) : RDB (m_w ν 47 9 v) s i := fun r c q1 q2 => by rw [mw_ne (by decide)]; exact h r c q1 q2
theorem d_readsBL {μ : MMem} {n : Nat} {s : Int → Int} (hn : n ≤ 39) (h2 : μ 53 1 = n) (hs : ∀ i, 0 ≤ i → i < (n : Int) → μ 52 (40 + i) = s i ∧ 0 ≤ s i ∧ s i < 256) {Q : MVal → MMem → Prop} (h : ∀ μ', TYB μ μ' s n → Q (0, fcF bvS 5 s n) μ') : ∀ (d r c : Nat) (ν : MMem) (u w : MVal), 5 * r + c + d = n → c ≤ 4 → FRB μ ν → ν 47 9 = (if c = 4 then (r : Int) + 1 else (r : Int)) → RDB ν s (5 * r + c) → fcN bvS 5 s (5 * r + c) = -1 → At 128 1 [(10, 47), (0, (n : Int)), (0, ((5 * r + c : Nat) : Int)), u, w] [] ν Q := by
  intro d
  induction d with
  | zero =>
    intro r c ν u w hb hc hF h0 hR hf
    have e : 5 * r + c = n := by omega
    rw [e] at hR hf ⊢
    have hmod : n % 5 = c := by omega
    have hdiv : (n + 1) / 5 = if c = 4 then r + 1 else r := by split <;> omega
    have hrem : m_id 1 (n : Int) 5 = (c : Int) := by rw [m_id1 (by omega) (by omega) (by decide) (by decide)]; omega
    by_cases hz : n = 0 ∨ c = 4
    · have eF : fcF bvS 5 s n = -1 := by
        unfold fcF
        rw [if_neg (fun q => q hf), if_pos (by omega)]
      have eC : fcC bvS 5 s n = ν 47 9 := by
        unfold fcC
        rw [if_pos eF, hdiv, h0]
        split <;> rfl
      have hq := h ν ⟨eC.symm, fun _ => hR, hF⟩
      rw [eF] at hq
      rw [t128_1]
      simp only [t128_0, t128_2, t128_3, t128_4, t128_5, t128_6, t128_7, B128_0, B128_1, B128_2, B128_3, B128_4, B128_5, B128_6, B128_7, Classical.not_not, Prod.mk.injEq, m_l, m_lp, m_lq, m_ps, m_ws, m_en, List.replicate, if_true, if_false, reduceIte, true_and, and_true, false_and, and_false, true_or, or_true, false_or, or_false, and_self, or_self, not_true_eq_false, not_false_eq_true, ne_eq, Nat.reduceLeDiff, Nat.reduceEqDiff, Nat.reduceAdd, Int.reduceLE, Int.reduceLT, Int.reduceEq, Int.reduceNe, Int.reduceAdd, Int.reduceNeg, Nat.reduceSub, Nat.succ_ne_zero, Nat.not_succ_le_zero, Nat.reduceMul, Int.reduceMul, Int.reduceSub, Int.reduceToNat, Nat.zero_le, Nat.reduceLT, r_0, r_1, r_2, r_3, r_4, r_5, r_6, r_7, r_9, r_10, r_11, r_12, r_13, r_14, r_15, r_16, r_17, r_18, r_19, r_20_0, r_21_0, r_20_1, r_21_1, r_20_2, r_21_2, r_20_3, r_21_3, r_20_4, r_21_4, r_20_5, r_21_5, r_22_0, r_22_1, r_23, r_24, r_25, r_26, r_27, r_28, r_29, r_30_0, r_30_1, r_30_2, r_31, r_31b, r_32, r_33, r_33b, r_33c, r_34, r_34b, r_35, r_45, r_46, r_47_0, r_47_1, r_40, r_50, r_51, r_41_0, r_41_1, r_42, r_43, r_44, r_36_0, r_37_0, r_38_0, r_48_0, r_36_1, r_37_1, r_38_1, r_48_1, r_36_2, r_37_2, r_38_2, r_48_2, r_36_3, r_37_3, r_36_4, r_37_4, r_36_5, r_37_5, r_39, r_8, al_13, al_14, al_15, al_16, al_18, al_19, al_25, al_26, al_27, al_28, al_29, al_30, al_31, al_32, al_33, al_34, al_35, al_36, al_37, al_38, al_39, al_40, al_41, al_42, al_43, al_44, al_45, al_46, al_48, al_49, al_50, al_51, al_52, al_53, al_54, al_55, al_56, al_57, al_58, al_59, al_60, al_61, al_62, al_63, al_64, al_65, al_66, al_67, al_68, al_69, al_70, rf_0_0, rf_0_1, rf_0_2, rf_0_3, rf_0_4, rf_0_5, rf_0_6, rf_0_7, rf_0_8, rf_0_10, rf_0_11, rf_1_0, rf_1_1, rf_1_2, rf_2_0, rf_2_1, rf_2_2, rf_3_0, rf_3_1, rf_3_2, rf_4_0, rf_4_1, rf_4_2, rf_5_0, rf_5_1, rf_5_2, rf_6_0, rf_6_1, rf_7_0, rf_7_1, rf_8_0, rf_8_1, rf_8_5, rf_8_6, rf_8_7, rf_8_8, rf_8_9, rf_9_0, rf_10_0, rf_11_0, rf_12_0, rf_47_0, rf_47_1, rf_47_2, rf_47_3, rf_47_5, rf_47_6, rf_47_8, rf_47_10, rf_47_12, rf_47_14, rf_47_15, rf_47_16, rf_47_17, rf_47_18, rf_47_19, rf_47_20, rf_47_21, rf_47_22, rf_47_23, rf_47_24, rf_47_26, rf_47_27, rf_47_29, rf_17, rf_20, rf_21, rf_22, rf_23, rf_24, rl_17, rl_20, rl_21, rl_22, rl_23, rl_24, hrem]
      rw [if_pos (by omega)]
      grind
    · have eF : fcF bvS 5 s n = n := by
        unfold fcF
        rw [if_neg (fun q => q hf), if_neg (by omega)]
      have eC : fcC bvS 5 s n = 0 := by
        unfold fcC
        rw [if_neg (by omega)]
      have hq := h (m_w ν 47 9 0) ⟨by rw [mw_at, if_pos rfl, eC], fun _ => hR.p 0, hF.p 0⟩
      rw [eF] at hq
      rw [t128_1]
      simp only [t128_0, t128_2, t128_3, t128_4, t128_5, t128_6, t128_7, B128_0, B128_1, B128_2, B128_3, B128_4, B128_5, B128_6, B128_7, Classical.not_not, Prod.mk.injEq, m_l, m_lp, m_lq, m_ps, m_ws, m_en, List.replicate, if_true, if_false, reduceIte, true_and, and_true, false_and, and_false, true_or, or_true, false_or, or_false, and_self, or_self, not_true_eq_false, not_false_eq_true, ne_eq, Nat.reduceLeDiff, Nat.reduceEqDiff, Nat.reduceAdd, Int.reduceLE, Int.reduceLT, Int.reduceEq, Int.reduceNe, Int.reduceAdd, Int.reduceNeg, Nat.reduceSub, Nat.succ_ne_zero, Nat.not_succ_le_zero, Nat.reduceMul, Int.reduceMul, Int.reduceSub, Int.reduceToNat, Nat.zero_le, Nat.reduceLT, r_0, r_1, r_2, r_3, r_4, r_5, r_6, r_7, r_9, r_10, r_11, r_12, r_13, r_14, r_15, r_16, r_17, r_18, r_19, r_20_0, r_21_0, r_20_1, r_21_1, r_20_2, r_21_2, r_20_3, r_21_3, r_20_4, r_21_4, r_20_5, r_21_5, r_22_0, r_22_1, r_23, r_24, r_25, r_26, r_27, r_28, r_29, r_30_0, r_30_1, r_30_2, r_31, r_31b, r_32, r_33, r_33b, r_33c, r_34, r_34b, r_35, r_45, r_46, r_47_0, r_47_1, r_40, r_50, r_51, r_41_0, r_41_1, r_42, r_43, r_44, r_36_0, r_37_0, r_38_0, r_48_0, r_36_1, r_37_1, r_38_1, r_48_1, r_36_2, r_37_2, r_38_2, r_48_2, r_36_3, r_37_3, r_36_4, r_37_4, r_36_5, r_37_5, r_39, r_8, al_13, al_14, al_15, al_16, al_18, al_19, al_25, al_26, al_27, al_28, al_29, al_30, al_31, al_32, al_33, al_34, al_35, al_36, al_37, al_38, al_39, al_40, al_41, al_42, al_43, al_44, al_45, al_46, al_48, al_49, al_50, al_51, al_52, al_53, al_54, al_55, al_56, al_57, al_58, al_59, al_60, al_61, al_62, al_63, al_64, al_65, al_66, al_67, al_68, al_69, al_70, rf_0_0, rf_0_1, rf_0_2, rf_0_3, rf_0_4, rf_0_5, rf_0_6, rf_0_7, rf_0_8, rf_0_10, rf_0_11, rf_1_0, rf_1_1, rf_1_2, rf_2_0, rf_2_1, rf_2_2, rf_3_0, rf_3_1, rf_3_2, rf_4_0, rf_4_1, rf_4_2, rf_5_0, rf_5_1, rf_5_2, rf_6_0, rf_6_1, rf_7_0, rf_7_1, rf_8_0, rf_8_1, rf_8_5, rf_8_6, rf_8_7, rf_8_8, rf_8_9, rf_9_0, rf_10_0, rf_11_0, rf_12_0, rf_47_0, rf_47_1, rf_47_2, rf_47_3, rf_47_5, rf_47_6, rf_47_8, rf_47_10, rf_47_12, rf_47_14, rf_47_15, rf_47_16, rf_47_17, rf_47_18, rf_47_19, rf_47_20, rf_47_21, rf_47_22, rf_47_23, rf_47_24, rf_47_26, rf_47_27, rf_47_29, rf_17, rf_20, rf_21, rf_22, rf_23, rf_24, rl_17, rl_20, rl_21, rl_22, rl_23, rl_24, hrem]
      rw [if_pos (by omega)]
      grind
  | succ d ih =>
    intro r c ν u w hb hc hF h0 hR hf
    have es : ν 52 = μ 52 := hF.1 52 (by decide) (by decide)
    have hmod : (5 * r + c) % 5 = c := by omega
    have hsi := hs ((5 * r + c : Nat) : Int) (by omega) (by omega)
    have hrem : m_id 1 ((5 * r + c : Nat) : Int) 5 = (c : Int) := by rw [m_id1 (by omega) (by omega) (by decide) (by decide)]; omega
    have hdv : m_id 0 ((5 * r + c : Nat) : Int) 5 = (r : Int) := by rw [m_id0 (by omega) (by omega) (by decide) (by decide)]; omega
    have hN : fcN bvS 5 s (5 * r + c + 1) = if bvS (c : Int) (s ((5 * r + c : Nat) : Int)) = -1 then ((5 * r + c : Nat) : Int) else -1 := by
      rw [fcN, if_pos hf, hmod]
    have hbad : bvS (c : Int) (s ((5 * r + c : Nat) : Int)) = -1 → Q (0, ((5 * r + c : Nat) : Int)) (m_w ν 47 9 0) := fun q => by
      rw [if_pos q] at hN
      have e3 : fcN bvS 5 s n = ((5 * r + c : Nat) : Int) := by
        have := fcN_up hN (by omega) d
        rw [show 5 * r + c + 1 + d = n by omega] at this
        exact this
      have eF : fcF bvS 5 s n = ((5 * r + c : Nat) : Int) := by
        unfold fcF
        rw [e3, if_pos (by omega)]
      have eC : fcC bvS 5 s n = 0 := by
        unfold fcC
        rw [if_neg (by omega)]
      have := h _ ⟨by rw [mw_at, if_pos rfl, eC], fun q => by omega, hF.p 0⟩
      rw [eF] at this
      exact this
    have ep := d_brideOf (c : Int) (s ((5 * r + c : Nat) : Int)) (by omega) hsi.2 ν
    have hb40 : m_i 0 40 ((5 * r + c : Nat) : Int) = 40 + ((5 * r + c : Nat) : Int) := m_i0 (by omega) (by omega)
    have hsi1 := hsi.1
    rw [t128_1]
    skip
    simp only [t128_0, t128_2, t128_3, t128_4, t128_5, t128_6, t128_7, B128_0, B128_1, B128_2, B128_3, B128_4, B128_5, B128_6, B128_7, Classical.not_not, Prod.mk.injEq, m_l, m_lp, m_lq, m_ps, m_ws, m_en, List.replicate, if_true, if_false, reduceIte, true_and, and_true, false_and, and_false, true_or, or_true, false_or, or_false, and_self, or_self, not_true_eq_false, not_false_eq_true, ne_eq, Nat.reduceLeDiff, Nat.reduceEqDiff, Nat.reduceAdd, Int.reduceLE, Int.reduceLT, Int.reduceEq, Int.reduceNe, Int.reduceAdd, Int.reduceNeg, Nat.reduceSub, Nat.succ_ne_zero, Nat.not_succ_le_zero, Nat.reduceMul, Int.reduceMul, Int.reduceSub, Int.reduceToNat, Nat.zero_le, Nat.reduceLT, r_0, r_1, r_2, r_3, r_4, r_5, r_6, r_7, r_9, r_10, r_11, r_12, r_13, r_14, r_15, r_16, r_17, r_18, r_19, r_20_0, r_21_0, r_20_1, r_21_1, r_20_2, r_21_2, r_20_3, r_21_3, r_20_4, r_21_4, r_20_5, r_21_5, r_22_0, r_22_1, r_23, r_24, r_25, r_26, r_27, r_28, r_29, r_30_0, r_30_1, r_30_2, r_31, r_31b, r_32, r_33, r_33b, r_33c, r_34, r_34b, r_35, r_45, r_46, r_47_0, r_47_1, r_40, r_50, r_51, r_41_0, r_41_1, r_42, r_43, r_44, r_36_0, r_37_0, r_38_0, r_48_0, r_36_1, r_37_1, r_38_1, r_48_1, r_36_2, r_37_2, r_38_2, r_48_2, r_36_3, r_37_3, r_36_4, r_37_4, r_36_5, r_37_5, r_39, r_8, al_13, al_14, al_15, al_16, al_18, al_19, al_25, al_26, al_27, al_28, al_29, al_30, al_31, al_32, al_33, al_34, al_35, al_36, al_37, al_38, al_39, al_40, al_41, al_42, al_43, al_44, al_45, al_46, al_48, al_49, al_50, al_51, al_52, al_53, al_54, al_55, al_56, al_57, al_58, al_59, al_60, al_61, al_62, al_63, al_64, al_65, al_66, al_67, al_68, al_69, al_70, rf_0_0, rf_0_1, rf_0_2, rf_0_3, rf_0_4, rf_0_5, rf_0_6, rf_0_7, rf_0_8, rf_0_10, rf_0_11, rf_1_0, rf_1_1, rf_1_2, rf_2_0, rf_2_1, rf_2_2, rf_3_0, rf_3_1, rf_3_2, rf_4_0, rf_4_1, rf_4_2, rf_5_0, rf_5_1, rf_5_2, rf_6_0, rf_6_1, rf_7_0, rf_7_1, rf_8_0, rf_8_1, rf_8_5, rf_8_6, rf_8_7, rf_8_8, rf_8_9, rf_9_0, rf_10_0, rf_11_0, rf_12_0, rf_47_0, rf_47_1, rf_47_2, rf_47_3, rf_47_5, rf_47_6, rf_47_8, rf_47_10, rf_47_12, rf_47_14, rf_47_15, rf_47_16, rf_47_17, rf_47_18, rf_47_19, rf_47_20, rf_47_21, rf_47_22, rf_47_23, rf_47_24, rf_47_26, rf_47_27, rf_47_29, rf_17, rf_20, rf_21, rf_22, rf_23, rf_24, rl_17, rl_20, rl_21, rl_22, rl_23, rl_24, hrem, es, hb40, hsi1, ep, vS9 (bvS_in (c : Int) (s ((5 * r + c : Nat) : Int))), hdv]
    rw [if_neg (by omega)]
    generalize hv : bvS (c : Int) (s ((5 * r + c : Nat) : Int)) = v at *
    refine ⟨⟨by omega, by omega⟩, ?_⟩
    rw [m_i0 (x := ((5 * r + c : Nat) : Int)) (by omega) (by omega)]
    by_cases q : v = -1
    · rw [if_neg (fun z => z q)]
      exact hbad q
    · rw [if_pos q, if_neg q, m_i2 (x := 4) (y := (r : Int)) (by omega) (by omega), m_i0 (x := 4 * (r : Int)) (y := (c : Int)) (by omega) (by omega)]
      rw [if_neg q] at hN
      by_cases hk : c = 4
      · subst hk
        have i1 := fun (ν' : MMem) (u' w' : MVal) => ih (r + 1) 0 ν' u' w' (by omega) (by omega)
        rw [show (((5 * (r + 1) + 0 : Nat)) : Int) = ((5 * r + 4 : Nat) : Int) + 1 by omega, show 5 * (r + 1) + 0 = 5 * r + 4 + 1 by omega] at i1
        rw [if_pos rfl] at h0
        rw [if_pos (by decide)]
        rw [if_pos (by decide), h0, m_i0 (by omega) (by omega)]
        refine i1 _ _ _ (hF.p _) ?_ ?_ hN
        · rw [mw_at, if_pos rfl]
          push_cast
          simp
        · intro r' c' q1 q2
          rw [mw_ne (by decide)]
          exact hR r' c' q1 (by omega)
      · have i1 := fun (ν' : MMem) (u' w' : MVal) => ih r (c + 1) ν' u' w' (by omega) (by omega)
        rw [show (((5 * r + (c + 1) : Nat)) : Int) = ((5 * r + c : Nat) : Int) + 1 by omega, ← Nat.add_assoc] at i1
        rw [if_neg hk] at h0
        rw [if_neg (by omega)]
        refine ⟨⟨by omega, by omega⟩, ?_⟩
        have hw : m_w ν 55 (4 * (r : Int) + (c : Int)) v 47 9 = r := by rw [mw_ne (by decide)]; exact h0
        have hR2 : ∀ x : Int, RDB (m_w (m_w ν 55 (4 * (r : Int) + (c : Int)) v) 47 9 x) s (5 * r + c + 1) := by
          intro x r' c' q1 q2
          rw [mw_ne (by decide), mw_at]
          by_cases z : r' = r ∧ c' = c
          · obtain ⟨rfl, rfl⟩ := z
            rw [if_pos rfl, hv]
          · rw [if_neg (by omega)]
            exact hR r' c' q1 (by omega)
        rw [hw]
        by_cases hk1 : c = 3
        · rw [if_neg (by omega), m_i0 (by omega) (by omega)]
          refine i1 _ _ _ ((hF.a _ _).p _) ?_ (hR2 _) hN
          rw [mw_at, if_pos rfl, if_pos (by omega)]
        · rw [if_pos (by omega), m_i0 (by omega) (by omega)]
          refine i1 _ _ _ ((hF.a _ _).p _) ?_ (hR2 _) hN
          rw [mw_at, if_pos rfl, if_neg (by omega)]
          omega
theorem d_readsB {μ : MMem} {n : Nat} {s : Int → Int} (hn : n ≤ 39) (h2 : μ 53 1 = n) (hs : ∀ i, 0 ≤ i → i < (n : Int) → μ 52 (40 + i) = s i ∧ 0 ≤ s i ∧ s i < 256) : ∃ μ' : MMem, TYB μ μ' s n ∧ ∀ Q : MVal → MMem → Prop, Cal 128 [(10, 47)] μ Q = Q (0, fcF bvS 5 s n) μ' := by
  refine cal_ex (P := fun μ' => TYB μ μ' s n) rfl ?_
  show Rn 128 B128_0 [(10, 47), (14, 0), (14, 0), (14, 0), (14, 0)] [] μ _
  have h2' : m_w μ 47 9 0 53 1 = n := by rw [mw_ne (by decide)]; exact h2
  simp only [t128_0, t128_2, t128_3, t128_4, t128_5, t128_6, t128_7, B128_0, B128_1, B128_2, B128_3, B128_4, B128_5, B128_6, B128_7, Classical.not_not, Prod.mk.injEq, m_l, m_lp, m_lq, m_ps, m_ws, m_en, List.replicate, if_true, if_false, reduceIte, true_and, and_true, false_and, and_false, true_or, or_true, false_or, or_false, and_self, or_self, not_true_eq_false, not_false_eq_true, ne_eq, Nat.reduceLeDiff, Nat.reduceEqDiff, Nat.reduceAdd, Int.reduceLE, Int.reduceLT, Int.reduceEq, Int.reduceNe, Int.reduceAdd, Int.reduceNeg, Nat.reduceSub, Nat.succ_ne_zero, Nat.not_succ_le_zero, Nat.reduceMul, Int.reduceMul, Int.reduceSub, Int.reduceToNat, Nat.zero_le, Nat.reduceLT, r_0, r_1, r_2, r_3, r_4, r_5, r_6, r_7, r_9, r_10, r_11, r_12, r_13, r_14, r_15, r_16, r_17, r_18, r_19, r_20_0, r_21_0, r_20_1, r_21_1, r_20_2, r_21_2, r_20_3, r_21_3, r_20_4, r_21_4, r_20_5, r_21_5, r_22_0, r_22_1, r_23, r_24, r_25, r_26, r_27, r_28, r_29, r_30_0, r_30_1, r_30_2, r_31, r_31b, r_32, r_33, r_33b, r_33c, r_34, r_34b, r_35, r_45, r_46, r_47_0, r_47_1, r_40, r_50, r_51, r_41_0, r_41_1, r_42, r_43, r_44, r_36_0, r_37_0, r_38_0, r_48_0, r_36_1, r_37_1, r_38_1, r_48_1, r_36_2, r_37_2, r_38_2, r_48_2, r_36_3, r_37_3, r_36_4, r_37_4, r_36_5, r_37_5, r_39, r_8, al_13, al_14, al_15, al_16, al_18, al_19, al_25, al_26, al_27, al_28, al_29, al_30, al_31, al_32, al_33, al_34, al_35, al_36, al_37, al_38, al_39, al_40, al_41, al_42, al_43, al_44, al_45, al_46, al_48, al_49, al_50, al_51, al_52, al_53, al_54, al_55, al_56, al_57, al_58, al_59, al_60, al_61, al_62, al_63, al_64, al_65, al_66, al_67, al_68, al_69, al_70, rf_0_0, rf_0_1, rf_0_2, rf_0_3, rf_0_4, rf_0_5, rf_0_6, rf_0_7, rf_0_8, rf_0_10, rf_0_11, rf_1_0, rf_1_1, rf_1_2, rf_2_0, rf_2_1, rf_2_2, rf_3_0, rf_3_1, rf_3_2, rf_4_0, rf_4_1, rf_4_2, rf_5_0, rf_5_1, rf_5_2, rf_6_0, rf_6_1, rf_7_0, rf_7_1, rf_8_0, rf_8_1, rf_8_5, rf_8_6, rf_8_7, rf_8_8, rf_8_9, rf_9_0, rf_10_0, rf_11_0, rf_12_0, rf_47_0, rf_47_1, rf_47_2, rf_47_3, rf_47_5, rf_47_6, rf_47_8, rf_47_10, rf_47_12, rf_47_14, rf_47_15, rf_47_16, rf_47_17, rf_47_18, rf_47_19, rf_47_20, rf_47_21, rf_47_22, rf_47_23, rf_47_24, rf_47_26, rf_47_27, rf_47_29, rf_17, rf_20, rf_21, rf_22, rf_23, rf_24, rl_17, rl_20, rl_21, rl_22, rl_23, rl_24, h2']
  refine d_readsBL hn h2 hs (fun μ' q => ⟨rfl, q⟩) n 0 0 _ _ _ (by omega) (by omega) ⟨fun a q1 q2 => mw_ne q1, fun j hj => by rw [mw_at, if_neg hj]⟩ (by rw [mw_at, if_pos rfl]; simp) (fun r' c' q1 q2 => by omega) rfl
