theorem cal_eq {m : Nat} {as : List MVal} {μ μ' : MMem} {r : MVal} (hw : (m_ws as).ble (m_mx m) = true) (h : Rn m (m_bl m 0) (m_en (m_mx m) as) [] μ (fun a b => a = r ∧ b = μ')) (Q : MVal → MMem → Prop) : Cal m as μ Q = Q r μ' := ret_cal (cal_ret (Nat.le_of_ble_eq_true hw) h) Q
theorem b0 (P : Prop) [Decidable P] : ((if P then (1 : Int) else 0) = 0) = ¬ P := by by_cases h : P <;> simp [h]
theorem b1 (P : Prop) [Decidable P] : ((if P then (1 : Int) else 0) = 1) = P := by by_cases h : P <;> simp [h]
theorem b01 (P : Prop) [Decidable P] : ((if P then (1 : Int) else 0) = 0 ∨ (if P then (1 : Int) else 0) = 1) = True := by by_cases h : P <;> simp [h]
theorem c_isBelow (x b : Int) (μ : MMem) (Q : MVal → MMem → Prop) : Cal 92 [(0, x), (0, b)] μ Q = Q (0, if 0 ≤ x ∧ x < b then 1 else 0) μ := by
  refine cal_eq rfl ?_ Q
  show Rn 92 B92_0 [(0, x), (0, b)] [] μ _
  simp only [t92_0, B92_0, t92_1, B92_1, t92_2, B92_2, Prod.mk.injEq, m_l, m_lp, m_lq, m_ps, m_ws, m_en, List.replicate, if_true, if_false, reduceIte, true_and, and_true, false_and, and_false, true_or, or_true, false_or, or_false, and_self, or_self, not_true_eq_false, not_false_eq_true, ne_eq, Nat.reduceLeDiff, Nat.reduceEqDiff, Nat.reduceAdd, Int.reduceLE, Int.reduceLT, Int.reduceEq, Int.reduceNe, Int.reduceAdd, Int.reduceNeg, Nat.reduceSub, Nat.succ_ne_zero, Nat.not_succ_le_zero, Nat.reduceMul, Int.reduceMul, Int.reduceSub, Int.reduceToNat, Nat.zero_le, Nat.reduceLT, r_0, r_1, r_2, r_3, r_4, r_5, r_6, r_7, r_9, r_10, r_11, r_12, r_13, r_14, r_15, r_16, r_17, r_18, r_19, r_20_0, r_21_0, r_20_1, r_21_1, r_20_2, r_21_2, r_20_3, r_21_3, r_20_4, r_21_4, r_20_5, r_21_5, r_22_0, r_22_1, r_23, r_24, r_25, r_26, r_27, r_28, r_29, r_30_0, r_30_1, r_30_2, r_31, r_31b, r_32, r_33, r_33b, r_33c, r_34, r_34b, r_35, r_45, r_46, r_47_0, r_47_1, r_40, r_50, r_51, r_41_0, r_41_1, r_42, r_43, r_44, r_36_0, r_37_0, r_38_0, r_48_0, r_36_1, r_37_1, r_38_1, r_48_1, r_36_2, r_37_2, r_38_2, r_48_2, r_36_3, r_37_3, r_36_4, r_37_4, r_36_5, r_37_5, r_39, r_8]
  grind
theorem c_isBelow2 (x b : Int) (μ : MMem) (Q : MVal → MMem → Prop) : Cal 92 [(0, x), (0, b)] μ Q = Q (0, if 0 ≤ x ∧ x < b then 1 else 0) μ := by
  refine cal_eq rfl ?_ Q
  show Rn 92 B92_0 [(0, x), (0, b)] [] μ _
  simp only [t92_0, B92_0, t92_1, B92_1, t92_2, B92_2, Prod.mk.injEq, m_l, m_lp, m_lq, m_ps, m_ws, m_en, List.replicate, if_true, if_false, reduceIte, true_and, and_true, false_and, and_false, true_or, or_true, false_or, or_false, and_self, or_self, not_true_eq_false, not_false_eq_true, ne_eq, Nat.reduceLeDiff, Nat.reduceEqDiff, Nat.reduceAdd, Int.reduceLE, Int.reduceLT, Int.reduceEq, Int.reduceNe, Int.reduceAdd, Int.reduceNeg, Nat.reduceSub, Nat.succ_ne_zero, Nat.not_succ_le_zero, Nat.reduceMul, Int.reduceMul, Int.reduceSub, Int.reduceToNat, Nat.zero_le, Nat.reduceLT, r_0, r_1, r_2, r_3, r_4, r_5, r_6, r_7, r_9, r_10, r_11, r_12, r_13, r_14, r_15, r_16, r_17, r_18, r_19, r_20_0, r_21_0, r_20_1, r_21_1, r_20_2, r_21_2, r_20_3, r_21_3, r_20_4, r_21_4, r_20_5, r_21_5, r_22_0, r_22_1, r_23, r_24, r_25, r_26, r_27, r_28, r_29, r_30_0, r_30_1, r_30_2, r_31, r_31b, r_32, r_33, r_33b, r_33c, r_34, r_34b, r_35, r_45, r_46, r_47_0, r_47_1, r_40, r_50, r_51, r_41_0, r_41_1, r_42, r_43, r_44, r_36_0, r_37_0, r_38_0, r_48_0, r_36_1, r_37_1, r_38_1, r_48_1, r_36_2, r_37_2, r_38_2, r_48_2, r_36_3, r_37_3, r_36_4, r_37_4, r_36_5, r_37_5, r_39, r_8]
  split
  · simp; omega
  · split
    · simp; omega
    · simp; omega
