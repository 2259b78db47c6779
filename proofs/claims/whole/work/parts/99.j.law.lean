theorem oc202 (μ : MMem) (k : Int) : m_oc μ 202 k = μ 202 k := rfl
theorem ol202 (μ : MMem) : m_ol μ 202 = μ 202 (-1) := rfl
/-- the script -/
def SCR (μ : MMem) : Prop := (0 ≤ μ 202 (-1) ∧ μ 202 (-1) < 2147483648) ∧ ∀ k, -2147483648 ≤ μ 202 k ∧ μ 202 k < 2147483648
theorem lw_0 {ν : MMem} (h : INV ν) (hS : SCR ν) {i : Int} (h0 : 0 ≤ i) (hi : i + 6 ≤ ν 202 (-1)) {Q : MVal → MMem → Prop} (nx : ∀ ν', INV ν' → ν' 202 = ν 202 → At 197 37 [(11, 202), (9, 0), (10, 47), (0, i)] [] ν' Q) : At 197 2 [(11, 202), (9, 0), (10, 47), (0, i)] [] ν Q := by
  have hl := hS.1
  obtain ⟨μ1, μ2, v, c1, c2, h2, e2, e1⟩ := l_type h (ν 202 (i + 1)) (ν 202 (i + 2))
  have mi1 : m_i 0 i 1 = i + 1 := m_i0 (by omega) (by omega)
  have mi2 : m_i 0 i 2 = i + 2 := m_i0 (by omega) (by omega)
  have n2 := nx μ2 h2 e2
  rw [t197_2]
  simp only [B197_2, Classical.not_not, Prod.mk.injEq, m_l, m_lp, m_lq, m_ps, m_ws, m_en, List.replicate, if_true, if_false, reduceIte, true_and, and_true, false_and, and_false, true_or, or_true, false_or, or_false, and_self, or_self, not_true_eq_false, not_false_eq_true, ne_eq, Nat.reduceLeDiff, Nat.reduceEqDiff, Nat.reduceAdd, Int.reduceLE, Int.reduceLT, Int.reduceEq, Int.reduceNe, Int.reduceAdd, Int.reduceNeg, Nat.reduceSub, Nat.succ_ne_zero, Nat.not_succ_le_zero, Nat.reduceMul, Int.reduceMul, Int.reduceSub, Int.reduceToNat, Nat.zero_le, Nat.reduceLT, r_0, r_1, r_2, r_3, r_4, r_5, r_6, r_7, r_9, r_10, r_11, r_12, r_13, r_14, r_15, r_16, r_17, r_18, r_19, r_20_0, r_21_0, r_20_1, r_21_1, r_20_2, r_21_2, r_20_3, r_21_3, r_20_4, r_21_4, r_20_5, r_21_5, r_22_0, r_22_1, r_23, r_24, r_25, r_26, r_27, r_28, r_29, r_30_0, r_30_1, r_30_2, r_31, r_31b, r_32, r_33, r_33b, r_33c, r_34, r_34b, r_35, r_45, r_46, r_47_0, r_47_1, r_40, r_50, r_51, r_41_0, r_41_1, r_42, r_43, r_44, r_36_0, r_37_0, r_38_0, r_48_0, r_36_1, r_37_1, r_38_1, r_48_1, r_36_2, r_37_2, r_38_2, r_48_2, r_36_3, r_37_3, r_36_4, r_37_4, r_36_5, r_37_5, r_39, r_8, oc202, ol202, mi1, mi2, c1, e1, c2]
  exact ⟨⟨by omega, by omega⟩, ⟨by omega, by omega⟩, ⟨by omega, by omega⟩, ⟨by omega, by omega⟩, n2⟩
theorem lw_1 {ν : MMem} (h : INV ν) (hS : SCR ν) {i : Int} (h0 : 0 ≤ i) (hi : i + 6 ≤ ν 202 (-1)) {Q : MVal → MMem → Prop} (nx : ∀ ν', INV ν' → ν' 202 = ν 202 → At 197 37 [(11, 202), (9, 0), (10, 47), (0, i)] [] ν' Q) : At 197 3 [(11, 202), (9, 0), (10, 47), (0, i)] [] ν Q := by
  have hl := hS.1
  obtain ⟨μ1, μ2, v, c1, c2, h2, e2, e1⟩ := l_wipe h (ν 202 (i + 1))
  have mi1 : m_i 0 i 1 = i + 1 := m_i0 (by omega) (by omega)
  have n2 := nx μ2 h2 e2
  rw [t197_3]
  simp only [B197_3, Classical.not_not, Prod.mk.injEq, m_l, m_lp, m_lq, m_ps, m_ws, m_en, List.replicate, if_true, if_false, reduceIte, true_and, and_true, false_and, and_false, true_or, or_true, false_or, or_false, and_self, or_self, not_true_eq_false, not_false_eq_true, ne_eq, Nat.reduceLeDiff, Nat.reduceEqDiff, Nat.reduceAdd, Int.reduceLE, Int.reduceLT, Int.reduceEq, Int.reduceNe, Int.reduceAdd, Int.reduceNeg, Nat.reduceSub, Nat.succ_ne_zero, Nat.not_succ_le_zero, Nat.reduceMul, Int.reduceMul, Int.reduceSub, Int.reduceToNat, Nat.zero_le, Nat.reduceLT, r_0, r_1, r_2, r_3, r_4, r_5, r_6, r_7, r_9, r_10, r_11, r_12, r_13, r_14, r_15, r_16, r_17, r_18, r_19, r_20_0, r_21_0, r_20_1, r_21_1, r_20_2, r_21_2, r_20_3, r_21_3, r_20_4, r_21_4, r_20_5, r_21_5, r_22_0, r_22_1, r_23, r_24, r_25, r_26, r_27, r_28, r_29, r_30_0, r_30_1, r_30_2, r_31, r_31b, r_32, r_33, r_33b, r_33c, r_34, r_34b, r_35, r_45, r_46, r_47_0, r_47_1, r_40, r_50, r_51, r_41_0, r_41_1, r_42, r_43, r_44, r_36_0, r_37_0, r_38_0, r_48_0, r_36_1, r_37_1, r_38_1, r_48_1, r_36_2, r_37_2, r_38_2, r_48_2, r_36_3, r_37_3, r_36_4, r_37_4, r_36_5, r_37_5, r_39, r_8, oc202, ol202, mi1, c1, e1, c2]
  exact ⟨⟨by omega, by omega⟩, ⟨by omega, by omega⟩, n2⟩
theorem lw_2 {ν : MMem} (h : INV ν) (hS : SCR ν) {i : Int} (h0 : 0 ≤ i) (hi : i + 6 ≤ ν 202 (-1)) {Q : MVal → MMem → Prop} (nx : ∀ ν', INV ν' → ν' 202 = ν 202 → At 197 37 [(11, 202), (9, 0), (10, 47), (0, i)] [] ν' Q) : At 197 4 [(11, 202), (9, 0), (10, 47), (0, i)] [] ν Q := by
  have hl := hS.1
  obtain ⟨μ1, μ2, v, c1, c2, h2, e2, e1⟩ := l_undo h (ν 202 (i + 1))
  have mi1 : m_i 0 i 1 = i + 1 := m_i0 (by omega) (by omega)
  have n2 := nx μ2 h2 e2
  rw [t197_4]
  simp only [B197_4, Classical.not_not, Prod.mk.injEq, m_l, m_lp, m_lq, m_ps, m_ws, m_en, List.replicate, if_true, if_false, reduceIte, true_and, and_true, false_and, and_false, true_or, or_true, false_or, or_false, and_self, or_self, not_true_eq_false, not_false_eq_true, ne_eq, Nat.reduceLeDiff, Nat.reduceEqDiff, Nat.reduceAdd, Int.reduceLE, Int.reduceLT, Int.reduceEq, Int.reduceNe, Int.reduceAdd, Int.reduceNeg, Nat.reduceSub, Nat.succ_ne_zero, Nat.not_succ_le_zero, Nat.reduceMul, Int.reduceMul, Int.reduceSub, Int.reduceToNat, Nat.zero_le, Nat.reduceLT, r_0, r_1, r_2, r_3, r_4, r_5, r_6, r_7, r_9, r_10, r_11, r_12, r_13, r_14, r_15, r_16, r_17, r_18, r_19, r_20_0, r_21_0, r_20_1, r_21_1, r_20_2, r_21_2, r_20_3, r_21_3, r_20_4, r_21_4, r_20_5, r_21_5, r_22_0, r_22_1, r_23, r_24, r_25, r_26, r_27, r_28, r_29, r_30_0, r_30_1, r_30_2, r_31, r_31b, r_32, r_33, r_33b, r_33c, r_34, r_34b, r_35, r_45, r_46, r_47_0, r_47_1, r_40, r_50, r_51, r_41_0, r_41_1, r_42, r_43, r_44, r_36_0, r_37_0, r_38_0, r_48_0, r_36_1, r_37_1, r_38_1, r_48_1, r_36_2, r_37_2, r_38_2, r_48_2, r_36_3, r_37_3, r_36_4, r_37_4, r_36_5, r_37_5, r_39, r_8, oc202, ol202, mi1, c1, e1, c2]
  exact ⟨⟨by omega, by omega⟩, ⟨by omega, by omega⟩, n2⟩
theorem lw_3 {ν : MMem} (h : INV ν) (hS : SCR ν) {i : Int} (h0 : 0 ≤ i) (hi : i + 6 ≤ ν 202 (-1)) {Q : MVal → MMem → Prop} (nx : ∀ ν', INV ν' → ν' 202 = ν 202 → At 197 37 [(11, 202), (9, 0), (10, 47), (0, i)] [] ν' Q) : At 197 5 [(11, 202), (9, 0), (10, 47), (0, i)] [] ν Q := by
  have hl := hS.1
  obtain ⟨μ1, μ2, v, c1, c2, h2, e2, e1⟩ := l_fault h (ν 202 (i + 1))
  have mi1 : m_i 0 i 1 = i + 1 := m_i0 (by omega) (by omega)
  have n2 := nx μ2 h2 e2
  rw [t197_5]
  simp only [B197_5, Classical.not_not, Prod.mk.injEq, m_l, m_lp, m_lq, m_ps, m_ws, m_en, List.replicate, if_true, if_false, reduceIte, true_and, and_true, false_and, and_false, true_or, or_true, false_or, or_false, and_self, or_self, not_true_eq_false, not_false_eq_true, ne_eq, Nat.reduceLeDiff, Nat.reduceEqDiff, Nat.reduceAdd, Int.reduceLE, Int.reduceLT, Int.reduceEq, Int.reduceNe, Int.reduceAdd, Int.reduceNeg, Nat.reduceSub, Nat.succ_ne_zero, Nat.not_succ_le_zero, Nat.reduceMul, Int.reduceMul, Int.reduceSub, Int.reduceToNat, Nat.zero_le, Nat.reduceLT, r_0, r_1, r_2, r_3, r_4, r_5, r_6, r_7, r_9, r_10, r_11, r_12, r_13, r_14, r_15, r_16, r_17, r_18, r_19, r_20_0, r_21_0, r_20_1, r_21_1, r_20_2, r_21_2, r_20_3, r_21_3, r_20_4, r_21_4, r_20_5, r_21_5, r_22_0, r_22_1, r_23, r_24, r_25, r_26, r_27, r_28, r_29, r_30_0, r_30_1, r_30_2, r_31, r_31b, r_32, r_33, r_33b, r_33c, r_34, r_34b, r_35, r_45, r_46, r_47_0, r_47_1, r_40, r_50, r_51, r_41_0, r_41_1, r_42, r_43, r_44, r_36_0, r_37_0, r_38_0, r_48_0, r_36_1, r_37_1, r_38_1, r_48_1, r_36_2, r_37_2, r_38_2, r_48_2, r_36_3, r_37_3, r_36_4, r_37_4, r_36_5, r_37_5, r_39, r_8, oc202, ol202, mi1, c1, e1, c2]
  exact ⟨⟨by omega, by omega⟩, ⟨by omega, by omega⟩, n2⟩
theorem lw_4 {ν : MMem} (h : INV ν) (hS : SCR ν) {i : Int} (h0 : 0 ≤ i) (hi : i + 6 ≤ ν 202 (-1)) {Q : MVal → MMem → Prop} (nx : ∀ ν', INV ν' → ν' 202 = ν 202 → At 197 37 [(11, 202), (9, 0), (10, 47), (0, i)] [] ν' Q) : At 197 6 [(11, 202), (9, 0), (10, 47), (0, i)] [] ν Q := by
  have hl := hS.1
  obtain ⟨μ1, μ2, v, c1, c2, h2, e2, e1⟩ := l_house h (ν 202 (i + 1)) (ν 202 (i + 2))
  have mi1 : m_i 0 i 1 = i + 1 := m_i0 (by omega) (by omega)
  have mi2 : m_i 0 i 2 = i + 2 := m_i0 (by omega) (by omega)
  have n2 := nx μ2 h2 e2
  rw [t197_6]
  simp only [B197_6, Classical.not_not, Prod.mk.injEq, m_l, m_lp, m_lq, m_ps, m_ws, m_en, List.replicate, if_true, if_false, reduceIte, true_and, and_true, false_and, and_false, true_or, or_true, false_or, or_false, and_self, or_self, not_true_eq_false, not_false_eq_true, ne_eq, Nat.reduceLeDiff, Nat.reduceEqDiff, Nat.reduceAdd, Int.reduceLE, Int.reduceLT, Int.reduceEq, Int.reduceNe, Int.reduceAdd, Int.reduceNeg, Nat.reduceSub, Nat.succ_ne_zero, Nat.not_succ_le_zero, Nat.reduceMul, Int.reduceMul, Int.reduceSub, Int.reduceToNat, Nat.zero_le, Nat.reduceLT, r_0, r_1, r_2, r_3, r_4, r_5, r_6, r_7, r_9, r_10, r_11, r_12, r_13, r_14, r_15, r_16, r_17, r_18, r_19, r_20_0, r_21_0, r_20_1, r_21_1, r_20_2, r_21_2, r_20_3, r_21_3, r_20_4, r_21_4, r_20_5, r_21_5, r_22_0, r_22_1, r_23, r_24, r_25, r_26, r_27, r_28, r_29, r_30_0, r_30_1, r_30_2, r_31, r_31b, r_32, r_33, r_33b, r_33c, r_34, r_34b, r_35, r_45, r_46, r_47_0, r_47_1, r_40, r_50, r_51, r_41_0, r_41_1, r_42, r_43, r_44, r_36_0, r_37_0, r_38_0, r_48_0, r_36_1, r_37_1, r_38_1, r_48_1, r_36_2, r_37_2, r_38_2, r_48_2, r_36_3, r_37_3, r_36_4, r_37_4, r_36_5, r_37_5, r_39, r_8, oc202, ol202, mi1, mi2, c1, e1, c2]
  exact ⟨⟨by omega, by omega⟩, ⟨by omega, by omega⟩, ⟨by omega, by omega⟩, ⟨by omega, by omega⟩, n2⟩
theorem lw_5 {ν : MMem} (h : INV ν) (hS : SCR ν) {i : Int} (h0 : 0 ≤ i) (hi : i + 6 ≤ ν 202 (-1)) {Q : MVal → MMem → Prop} (nx : ∀ ν', INV ν' → ν' 202 = ν 202 → At 197 37 [(11, 202), (9, 0), (10, 47), (0, i)] [] ν' Q) : At 197 7 [(11, 202), (9, 0), (10, 47), (0, i)] [] ν Q := by
  have hl := hS.1
  obtain ⟨μ1, μ2, v, c1, c2, h2, e2, e1⟩ := l_bride h (ν 202 (i + 1)) (ν 202 (i + 2))
  have mi1 : m_i 0 i 1 = i + 1 := m_i0 (by omega) (by omega)
  have mi2 : m_i 0 i 2 = i + 2 := m_i0 (by omega) (by omega)
  have n2 := nx μ2 h2 e2
  rw [t197_7]
  simp only [B197_7, Classical.not_not, Prod.mk.injEq, m_l, m_lp, m_lq, m_ps, m_ws, m_en, List.replicate, if_true, if_false, reduceIte, true_and, and_true, false_and, and_false, true_or, or_true, false_or, or_false, and_self, or_self, not_true_eq_false, not_false_eq_true, ne_eq, Nat.reduceLeDiff, Nat.reduceEqDiff, Nat.reduceAdd, Int.reduceLE, Int.reduceLT, Int.reduceEq, Int.reduceNe, Int.reduceAdd, Int.reduceNeg, Nat.reduceSub, Nat.succ_ne_zero, Nat.not_succ_le_zero, Nat.reduceMul, Int.reduceMul, Int.reduceSub, Int.reduceToNat, Nat.zero_le, Nat.reduceLT, r_0, r_1, r_2, r_3, r_4, r_5, r_6, r_7, r_9, r_10, r_11, r_12, r_13, r_14, r_15, r_16, r_17, r_18, r_19, r_20_0, r_21_0, r_20_1, r_21_1, r_20_2, r_21_2, r_20_3, r_21_3, r_20_4, r_21_4, r_20_5, r_21_5, r_22_0, r_22_1, r_23, r_24, r_25, r_26, r_27, r_28, r_29, r_30_0, r_30_1, r_30_2, r_31, r_31b, r_32, r_33, r_33b, r_33c, r_34, r_34b, r_35, r_45, r_46, r_47_0, r_47_1, r_40, r_50, r_51, r_41_0, r_41_1, r_42, r_43, r_44, r_36_0, r_37_0, r_38_0, r_48_0, r_36_1, r_37_1, r_38_1, r_48_1, r_36_2, r_37_2, r_38_2, r_48_2, r_36_3, r_37_3, r_36_4, r_37_4, r_36_5, r_37_5, r_39, r_8, oc202, ol202, mi1, mi2, c1, e1, c2]
  exact ⟨⟨by omega, by omega⟩, ⟨by omega, by omega⟩, ⟨by omega, by omega⟩, ⟨by omega, by omega⟩, n2⟩
theorem lw_6 {ν : MMem} (h : INV ν) (hS : SCR ν) {i : Int} (h0 : 0 ≤ i) (hi : i + 6 ≤ ν 202 (-1)) {Q : MVal → MMem → Prop} (nx : ∀ ν', INV ν' → ν' 202 = ν 202 → At 197 37 [(11, 202), (9, 0), (10, 47), (0, i)] [] ν' Q) : At 197 8 [(11, 202), (9, 0), (10, 47), (0, i)] [] ν Q := by
  have hl := hS.1
  obtain ⟨μ1, μ2, v, c1, c2, h2, e2, e1⟩ := l_event h (ν 202 (i + 1)) (ν 202 (i + 2)) (ν 202 (i + 3))
  have mi1 : m_i 0 i 1 = i + 1 := m_i0 (by omega) (by omega)
  have mi2 : m_i 0 i 2 = i + 2 := m_i0 (by omega) (by omega)
  have mi3 : m_i 0 i 3 = i + 3 := m_i0 (by omega) (by omega)
  have n2 := nx μ2 h2 e2
  rw [t197_8]
  simp only [B197_8, Classical.not_not, Prod.mk.injEq, m_l, m_lp, m_lq, m_ps, m_ws, m_en, List.replicate, if_true, if_false, reduceIte, true_and, and_true, false_and, and_false, true_or, or_true, false_or, or_false, and_self, or_self, not_true_eq_false, not_false_eq_true, ne_eq, Nat.reduceLeDiff, Nat.reduceEqDiff, Nat.reduceAdd, Int.reduceLE, Int.reduceLT, Int.reduceEq, Int.reduceNe, Int.reduceAdd, Int.reduceNeg, Nat.reduceSub, Nat.succ_ne_zero, Nat.not_succ_le_zero, Nat.reduceMul, Int.reduceMul, Int.reduceSub, Int.reduceToNat, Nat.zero_le, Nat.reduceLT, r_0, r_1, r_2, r_3, r_4, r_5, r_6, r_7, r_9, r_10, r_11, r_12, r_13, r_14, r_15, r_16, r_17, r_18, r_19, r_20_0, r_21_0, r_20_1, r_21_1, r_20_2, r_21_2, r_20_3, r_21_3, r_20_4, r_21_4, r_20_5, r_21_5, r_22_0, r_22_1, r_23, r_24, r_25, r_26, r_27, r_28, r_29, r_30_0, r_30_1, r_30_2, r_31, r_31b, r_32, r_33, r_33b, r_33c, r_34, r_34b, r_35, r_45, r_46, r_47_0, r_47_1, r_40, r_50, r_51, r_41_0, r_41_1, r_42, r_43, r_44, r_36_0, r_37_0, r_38_0, r_48_0, r_36_1, r_37_1, r_38_1, r_48_1, r_36_2, r_37_2, r_38_2, r_48_2, r_36_3, r_37_3, r_36_4, r_37_4, r_36_5, r_37_5, r_39, r_8, oc202, ol202, mi1, mi2, mi3, c1, e1, c2]
  exact ⟨⟨by omega, by omega⟩, ⟨by omega, by omega⟩, ⟨by omega, by omega⟩, ⟨by omega, by omega⟩, ⟨by omega, by omega⟩, ⟨by omega, by omega⟩, n2⟩
theorem lw_7 {ν : MMem} (h : INV ν) (hS : SCR ν) {i : Int} (h0 : 0 ≤ i) (hi : i + 6 ≤ ν 202 (-1)) {Q : MVal → MMem → Prop} (nx : ∀ ν', INV ν' → ν' 202 = ν 202 → At 197 37 [(11, 202), (9, 0), (10, 47), (0, i)] [] ν' Q) : At 197 9 [(11, 202), (9, 0), (10, 47), (0, i)] [] ν Q := by
  have hl := hS.1
  obtain ⟨μ1, μ2, v, c1, c2, h2, e2, e1⟩ := l_back h 
  have n2 := nx μ2 h2 e2
  rw [t197_9]
  simp only [B197_9, Classical.not_not, Prod.mk.injEq, m_l, m_lp, m_lq, m_ps, m_ws, m_en, List.replicate, if_true, if_false, reduceIte, true_and, and_true, false_and, and_false, true_or, or_true, false_or, or_false, and_self, or_self, not_true_eq_false, not_false_eq_true, ne_eq, Nat.reduceLeDiff, Nat.reduceEqDiff, Nat.reduceAdd, Int.reduceLE, Int.reduceLT, Int.reduceEq, Int.reduceNe, Int.reduceAdd, Int.reduceNeg, Nat.reduceSub, Nat.succ_ne_zero, Nat.not_succ_le_zero, Nat.reduceMul, Int.reduceMul, Int.reduceSub, Int.reduceToNat, Nat.zero_le, Nat.reduceLT, r_0, r_1, r_2, r_3, r_4, r_5, r_6, r_7, r_9, r_10, r_11, r_12, r_13, r_14, r_15, r_16, r_17, r_18, r_19, r_20_0, r_21_0, r_20_1, r_21_1, r_20_2, r_21_2, r_20_3, r_21_3, r_20_4, r_21_4, r_20_5, r_21_5, r_22_0, r_22_1, r_23, r_24, r_25, r_26, r_27, r_28, r_29, r_30_0, r_30_1, r_30_2, r_31, r_31b, r_32, r_33, r_33b, r_33c, r_34, r_34b, r_35, r_45, r_46, r_47_0, r_47_1, r_40, r_50, r_51, r_41_0, r_41_1, r_42, r_43, r_44, r_36_0, r_37_0, r_38_0, r_48_0, r_36_1, r_37_1, r_38_1, r_48_1, r_36_2, r_37_2, r_38_2, r_48_2, r_36_3, r_37_3, r_36_4, r_37_4, r_36_5, r_37_5, r_39, r_8, oc202, ol202, c1, e1, c2]
  exact n2
theorem lw_8 {ν : MMem} (h : INV ν) (hS : SCR ν) {i : Int} (h0 : 0 ≤ i) (hi : i + 6 ≤ ν 202 (-1)) {Q : MVal → MMem → Prop} (nx : ∀ ν', INV ν' → ν' 202 = ν 202 → At 197 37 [(11, 202), (9, 0), (10, 47), (0, i)] [] ν' Q) : At 197 10 [(11, 202), (9, 0), (10, 47), (0, i)] [] ν Q := by
  have hl := hS.1
  obtain ⟨μ1, μ2, v, c1, c2, h2, e2, e1⟩ := l_read h (ν 202 (i + 1))
  have mi1 : m_i 0 i 1 = i + 1 := m_i0 (by omega) (by omega)
  have n2 := nx μ2 h2 e2
  rw [t197_10]
  simp only [B197_10, Classical.not_not, Prod.mk.injEq, m_l, m_lp, m_lq, m_ps, m_ws, m_en, List.replicate, if_true, if_false, reduceIte, true_and, and_true, false_and, and_false, true_or, or_true, false_or, or_false, and_self, or_self, not_true_eq_false, not_false_eq_true, ne_eq, Nat.reduceLeDiff, Nat.reduceEqDiff, Nat.reduceAdd, Int.reduceLE, Int.reduceLT, Int.reduceEq, Int.reduceNe, Int.reduceAdd, Int.reduceNeg, Nat.reduceSub, Nat.succ_ne_zero, Nat.not_succ_le_zero, Nat.reduceMul, Int.reduceMul, Int.reduceSub, Int.reduceToNat, Nat.zero_le, Nat.reduceLT, r_0, r_1, r_2, r_3, r_4, r_5, r_6, r_7, r_9, r_10, r_11, r_12, r_13, r_14, r_15, r_16, r_17, r_18, r_19, r_20_0, r_21_0, r_20_1, r_21_1, r_20_2, r_21_2, r_20_3, r_21_3, r_20_4, r_21_4, r_20_5, r_21_5, r_22_0, r_22_1, r_23, r_24, r_25, r_26, r_27, r_28, r_29, r_30_0, r_30_1, r_30_2, r_31, r_31b, r_32, r_33, r_33b, r_33c, r_34, r_34b, r_35, r_45, r_46, r_47_0, r_47_1, r_40, r_50, r_51, r_41_0, r_41_1, r_42, r_43, r_44, r_36_0, r_37_0, r_38_0, r_48_0, r_36_1, r_37_1, r_38_1, r_48_1, r_36_2, r_37_2, r_38_2, r_48_2, r_36_3, r_37_3, r_36_4, r_37_4, r_36_5, r_37_5, r_39, r_8, oc202, ol202, mi1, c1, e1, c2]
  exact ⟨⟨by omega, by omega⟩, ⟨by omega, by omega⟩, n2⟩
theorem lw_9 {ν : MMem} (h : INV ν) (hS : SCR ν) {i : Int} (h0 : 0 ≤ i) (hi : i + 6 ≤ ν 202 (-1)) {Q : MVal → MMem → Prop} (nx : ∀ ν', INV ν' → ν' 202 = ν 202 → At 197 37 [(11, 202), (9, 0), (10, 47), (0, i)] [] ν' Q) : At 197 11 [(11, 202), (9, 0), (10, 47), (0, i)] [] ν Q := by
  have hl := hS.1
  obtain ⟨μ1, μ2, v, c1, c2, h2, e2, e1⟩ := l_at h (ν 202 (i + 1)) (ν 202 (i + 2)) (ν 202 (i + 3))
  have mi1 : m_i 0 i 1 = i + 1 := m_i0 (by omega) (by omega)
  have mi2 : m_i 0 i 2 = i + 2 := m_i0 (by omega) (by omega)
  have mi3 : m_i 0 i 3 = i + 3 := m_i0 (by omega) (by omega)
  have n2 := nx μ2 h2 e2
  rw [t197_11]
  simp only [B197_11, Classical.not_not, Prod.mk.injEq, m_l, m_lp, m_lq, m_ps, m_ws, m_en, List.replicate, if_true, if_false, reduceIte, true_and, and_true, false_and, and_false, true_or, or_true, false_or, or_false, and_self, or_self, not_true_eq_false, not_false_eq_true, ne_eq, Nat.reduceLeDiff, Nat.reduceEqDiff, Nat.reduceAdd, Int.reduceLE, Int.reduceLT, Int.reduceEq, Int.reduceNe, Int.reduceAdd, Int.reduceNeg, Nat.reduceSub, Nat.succ_ne_zero, Nat.not_succ_le_zero, Nat.reduceMul, Int.reduceMul, Int.reduceSub, Int.reduceToNat, Nat.zero_le, Nat.reduceLT, r_0, r_1, r_2, r_3, r_4, r_5, r_6, r_7, r_9, r_10, r_11, r_12, r_13, r_14, r_15, r_16, r_17, r_18, r_19, r_20_0, r_21_0, r_20_1, r_21_1, r_20_2, r_21_2, r_20_3, r_21_3, r_20_4, r_21_4, r_20_5, r_21_5, r_22_0, r_22_1, r_23, r_24, r_25, r_26, r_27, r_28, r_29, r_30_0, r_30_1, r_30_2, r_31, r_31b, r_32, r_33, r_33b, r_33c, r_34, r_34b, r_35, r_45, r_46, r_47_0, r_47_1, r_40, r_50, r_51, r_41_0, r_41_1, r_42, r_43, r_44, r_36_0, r_37_0, r_38_0, r_48_0, r_36_1, r_37_1, r_38_1, r_48_1, r_36_2, r_37_2, r_38_2, r_48_2, r_36_3, r_37_3, r_36_4, r_37_4, r_36_5, r_37_5, r_39, r_8, oc202, ol202, mi1, mi2, mi3, c1, e1, c2]
  exact ⟨⟨by omega, by omega⟩, ⟨by omega, by omega⟩, ⟨by omega, by omega⟩, ⟨by omega, by omega⟩, ⟨by omega, by omega⟩, ⟨by omega, by omega⟩, n2⟩
theorem lw_10 {ν : MMem} (h : INV ν) (hS : SCR ν) {i : Int} (h0 : 0 ≤ i) (hi : i + 6 ≤ ν 202 (-1)) {Q : MVal → MMem → Prop} (nx : ∀ ν', INV ν' → ν' 202 = ν 202 → At 197 37 [(11, 202), (9, 0), (10, 47), (0, i)] [] ν' Q) : At 197 12 [(11, 202), (9, 0), (10, 47), (0, i)] [] ν Q := by
  have hl := hS.1
  obtain ⟨μ1, μ2, v, c1, c2, h2, e2, e1⟩ := l_door h (ν 202 (i + 1)) (ν 202 (i + 2)) (ν 202 (i + 3))
  have mi1 : m_i 0 i 1 = i + 1 := m_i0 (by omega) (by omega)
  have mi2 : m_i 0 i 2 = i + 2 := m_i0 (by omega) (by omega)
  have mi3 : m_i 0 i 3 = i + 3 := m_i0 (by omega) (by omega)
  have n2 := nx μ2 h2 e2
  rw [t197_12]
  simp only [B197_12, Classical.not_not, Prod.mk.injEq, m_l, m_lp, m_lq, m_ps, m_ws, m_en, List.replicate, if_true, if_false, reduceIte, true_and, and_true, false_and, and_false, true_or, or_true, false_or, or_false, and_self, or_self, not_true_eq_false, not_false_eq_true, ne_eq, Nat.reduceLeDiff, Nat.reduceEqDiff, Nat.reduceAdd, Int.reduceLE, Int.reduceLT, Int.reduceEq, Int.reduceNe, Int.reduceAdd, Int.reduceNeg, Nat.reduceSub, Nat.succ_ne_zero, Nat.not_succ_le_zero, Nat.reduceMul, Int.reduceMul, Int.reduceSub, Int.reduceToNat, Nat.zero_le, Nat.reduceLT, r_0, r_1, r_2, r_3, r_4, r_5, r_6, r_7, r_9, r_10, r_11, r_12, r_13, r_14, r_15, r_16, r_17, r_18, r_19, r_20_0, r_21_0, r_20_1, r_21_1, r_20_2, r_21_2, r_20_3, r_21_3, r_20_4, r_21_4, r_20_5, r_21_5, r_22_0, r_22_1, r_23, r_24, r_25, r_26, r_27, r_28, r_29, r_30_0, r_30_1, r_30_2, r_31, r_31b, r_32, r_33, r_33b, r_33c, r_34, r_34b, r_35, r_45, r_46, r_47_0, r_47_1, r_40, r_50, r_51, r_41_0, r_41_1, r_42, r_43, r_44, r_36_0, r_37_0, r_38_0, r_48_0, r_36_1, r_37_1, r_38_1, r_48_1, r_36_2, r_37_2, r_38_2, r_48_2, r_36_3, r_37_3, r_36_4, r_37_4, r_36_5, r_37_5, r_39, r_8, oc202, ol202, mi1, mi2, mi3, c1, e1, c2]
  exact ⟨⟨by omega, by omega⟩, ⟨by omega, by omega⟩, ⟨by omega, by omega⟩, ⟨by omega, by omega⟩, ⟨by omega, by omega⟩, ⟨by omega, by omega⟩, n2⟩
theorem lw_11 {ν : MMem} (h : INV ν) (hS : SCR ν) {i : Int} (h0 : 0 ≤ i) (hi : i + 6 ≤ ν 202 (-1)) {Q : MVal → MMem → Prop} (nx : ∀ ν', INV ν' → ν' 202 = ν 202 → At 197 37 [(11, 202), (9, 0), (10, 47), (0, i)] [] ν' Q) : At 197 13 [(11, 202), (9, 0), (10, 47), (0, i)] [] ν Q := by
  have hl := hS.1
  obtain ⟨μ1, μ2, v, c1, c2, h2, e2, e1⟩ := l_draught h (ν 202 (i + 1))
  have mi1 : m_i 0 i 1 = i + 1 := m_i0 (by omega) (by omega)
  have n2 := nx μ2 h2 e2
  rw [t197_13]
  simp only [B197_13, Classical.not_not, Prod.mk.injEq, m_l, m_lp, m_lq, m_ps, m_ws, m_en, List.replicate, if_true, if_false, reduceIte, true_and, and_true, false_and, and_false, true_or, or_true, false_or, or_false, and_self, or_self, not_true_eq_false, not_false_eq_true, ne_eq, Nat.reduceLeDiff, Nat.reduceEqDiff, Nat.reduceAdd, Int.reduceLE, Int.reduceLT, Int.reduceEq, Int.reduceNe, Int.reduceAdd, Int.reduceNeg, Nat.reduceSub, Nat.succ_ne_zero, Nat.not_succ_le_zero, Nat.reduceMul, Int.reduceMul, Int.reduceSub, Int.reduceToNat, Nat.zero_le, Nat.reduceLT, r_0, r_1, r_2, r_3, r_4, r_5, r_6, r_7, r_9, r_10, r_11, r_12, r_13, r_14, r_15, r_16, r_17, r_18, r_19, r_20_0, r_21_0, r_20_1, r_21_1, r_20_2, r_21_2, r_20_3, r_21_3, r_20_4, r_21_4, r_20_5, r_21_5, r_22_0, r_22_1, r_23, r_24, r_25, r_26, r_27, r_28, r_29, r_30_0, r_30_1, r_30_2, r_31, r_31b, r_32, r_33, r_33b, r_33c, r_34, r_34b, r_35, r_45, r_46, r_47_0, r_47_1, r_40, r_50, r_51, r_41_0, r_41_1, r_42, r_43, r_44, r_36_0, r_37_0, r_38_0, r_48_0, r_36_1, r_37_1, r_38_1, r_48_1, r_36_2, r_37_2, r_38_2, r_48_2, r_36_3, r_37_3, r_36_4, r_37_4, r_36_5, r_37_5, r_39, r_8, oc202, ol202, mi1, c1, e1, c2]
  exact ⟨⟨by omega, by omega⟩, ⟨by omega, by omega⟩, n2⟩
theorem lw_12 {ν : MMem} (h : INV ν) (hS : SCR ν) {i : Int} (h0 : 0 ≤ i) (hi : i + 6 ≤ ν 202 (-1)) {Q : MVal → MMem → Prop} (nx : ∀ ν', INV ν' → ν' 202 = ν 202 → At 197 37 [(11, 202), (9, 0), (10, 47), (0, i)] [] ν' Q) : At 197 14 [(11, 202), (9, 0), (10, 47), (0, i)] [] ν Q := by
  have hl := hS.1
  obtain ⟨μ1, μ2, v, c1, c2, h2, e2, e1⟩ := l_dog h (ν 202 (i + 1))
  have mi1 : m_i 0 i 1 = i + 1 := m_i0 (by omega) (by omega)
  have n2 := nx μ2 h2 e2
  rw [t197_14]
  simp only [B197_14, Classical.not_not, Prod.mk.injEq, m_l, m_lp, m_lq, m_ps, m_ws, m_en, List.replicate, if_true, if_false, reduceIte, true_and, and_true, false_and, and_false, true_or, or_true, false_or, or_false, and_self, or_self, not_true_eq_false, not_false_eq_true, ne_eq, Nat.reduceLeDiff, Nat.reduceEqDiff, Nat.reduceAdd, Int.reduceLE, Int.reduceLT, Int.reduceEq, Int.reduceNe, Int.reduceAdd, Int.reduceNeg, Nat.reduceSub, Nat.succ_ne_zero, Nat.not_succ_le_zero, Nat.reduceMul, Int.reduceMul, Int.reduceSub, Int.reduceToNat, Nat.zero_le, Nat.reduceLT, r_0, r_1, r_2, r_3, r_4, r_5, r_6, r_7, r_9, r_10, r_11, r_12, r_13, r_14, r_15, r_16, r_17, r_18, r_19, r_20_0, r_21_0, r_20_1, r_21_1, r_20_2, r_21_2, r_20_3, r_21_3, r_20_4, r_21_4, r_20_5, r_21_5, r_22_0, r_22_1, r_23, r_24, r_25, r_26, r_27, r_28, r_29, r_30_0, r_30_1, r_30_2, r_31, r_31b, r_32, r_33, r_33b, r_33c, r_34, r_34b, r_35, r_45, r_46, r_47_0, r_47_1, r_40, r_50, r_51, r_41_0, r_41_1, r_42, r_43, r_44, r_36_0, r_37_0, r_38_0, r_48_0, r_36_1, r_37_1, r_38_1, r_48_1, r_36_2, r_37_2, r_38_2, r_48_2, r_36_3, r_37_3, r_36_4, r_37_4, r_36_5, r_37_5, r_39, r_8, oc202, ol202, mi1, c1, e1, c2]
  exact ⟨⟨by omega, by omega⟩, ⟨by omega, by omega⟩, n2⟩
theorem lw_13 {ν : MMem} (h : INV ν) (hS : SCR ν) {i : Int} (h0 : 0 ≤ i) (hi : i + 6 ≤ ν 202 (-1)) {Q : MVal → MMem → Prop} (nx : ∀ ν', INV ν' → ν' 202 = ν 202 → At 197 37 [(11, 202), (9, 0), (10, 47), (0, i)] [] ν' Q) : At 197 15 [(11, 202), (9, 0), (10, 47), (0, i)] [] ν Q := by
  have hl := hS.1
  obtain ⟨μ1, μ2, v, c1, c2, h2, e2, e1⟩ := l_kin h (ν 202 (i + 1))
  have mi1 : m_i 0 i 1 = i + 1 := m_i0 (by omega) (by omega)
  have n2 := nx μ2 h2 e2
  rw [t197_15]
  simp only [B197_15, Classical.not_not, Prod.mk.injEq, m_l, m_lp, m_lq, m_ps, m_ws, m_en, List.replicate, if_true, if_false, reduceIte, true_and, and_true, false_and, and_false, true_or, or_true, false_or, or_false, and_self, or_self, not_true_eq_false, not_false_eq_true, ne_eq, Nat.reduceLeDiff, Nat.reduceEqDiff, Nat.reduceAdd, Int.reduceLE, Int.reduceLT, Int.reduceEq, Int.reduceNe, Int.reduceAdd, Int.reduceNeg, Nat.reduceSub, Nat.succ_ne_zero, Nat.not_succ_le_zero, Nat.reduceMul, Int.reduceMul, Int.reduceSub, Int.reduceToNat, Nat.zero_le, Nat.reduceLT, r_0, r_1, r_2, r_3, r_4, r_5, r_6, r_7, r_9, r_10, r_11, r_12, r_13, r_14, r_15, r_16, r_17, r_18, r_19, r_20_0, r_21_0, r_20_1, r_21_1, r_20_2, r_21_2, r_20_3, r_21_3, r_20_4, r_21_4, r_20_5, r_21_5, r_22_0, r_22_1, r_23, r_24, r_25, r_26, r_27, r_28, r_29, r_30_0, r_30_1, r_30_2, r_31, r_31b, r_32, r_33, r_33b, r_33c, r_34, r_34b, r_35, r_45, r_46, r_47_0, r_47_1, r_40, r_50, r_51, r_41_0, r_41_1, r_42, r_43, r_44, r_36_0, r_37_0, r_38_0, r_48_0, r_36_1, r_37_1, r_38_1, r_48_1, r_36_2, r_37_2, r_38_2, r_48_2, r_36_3, r_37_3, r_36_4, r_37_4, r_36_5, r_37_5, r_39, r_8, oc202, ol202, mi1, c1, e1, c2]
  exact ⟨⟨by omega, by omega⟩, ⟨by omega, by omega⟩, n2⟩
theorem lw_14 {ν : MMem} (h : INV ν) (hS : SCR ν) {i : Int} (h0 : 0 ≤ i) (hi : i + 6 ≤ ν 202 (-1)) {Q : MVal → MMem → Prop} (nx : ∀ ν', INV ν' → ν' 202 = ν 202 → At 197 37 [(11, 202), (9, 0), (10, 47), (0, i)] [] ν' Q) : At 197 16 [(11, 202), (9, 0), (10, 47), (0, i)] [] ν Q := by
  have hl := hS.1
  obtain ⟨μ1, μ2, v, c1, c2, h2, e2, e1⟩ := l_lowest h 
  have n2 := nx μ2 h2 e2
  rw [t197_16]
  simp only [B197_16, Classical.not_not, Prod.mk.injEq, m_l, m_lp, m_lq, m_ps, m_ws, m_en, List.replicate, if_true, if_false, reduceIte, true_and, and_true, false_and, and_false, true_or, or_true, false_or, or_false, and_self, or_self, not_true_eq_false, not_false_eq_true, ne_eq, Nat.reduceLeDiff, Nat.reduceEqDiff, Nat.reduceAdd, Int.reduceLE, Int.reduceLT, Int.reduceEq, Int.reduceNe, Int.reduceAdd, Int.reduceNeg, Nat.reduceSub, Nat.succ_ne_zero, Nat.not_succ_le_zero, Nat.reduceMul, Int.reduceMul, Int.reduceSub, Int.reduceToNat, Nat.zero_le, Nat.reduceLT, r_0, r_1, r_2, r_3, r_4, r_5, r_6, r_7, r_9, r_10, r_11, r_12, r_13, r_14, r_15, r_16, r_17, r_18, r_19, r_20_0, r_21_0, r_20_1, r_21_1, r_20_2, r_21_2, r_20_3, r_21_3, r_20_4, r_21_4, r_20_5, r_21_5, r_22_0, r_22_1, r_23, r_24, r_25, r_26, r_27, r_28, r_29, r_30_0, r_30_1, r_30_2, r_31, r_31b, r_32, r_33, r_33b, r_33c, r_34, r_34b, r_35, r_45, r_46, r_47_0, r_47_1, r_40, r_50, r_51, r_41_0, r_41_1, r_42, r_43, r_44, r_36_0, r_37_0, r_38_0, r_48_0, r_36_1, r_37_1, r_38_1, r_48_1, r_36_2, r_37_2, r_38_2, r_48_2, r_36_3, r_37_3, r_36_4, r_37_4, r_36_5, r_37_5, r_39, r_8, oc202, ol202, c1, e1, c2]
  exact n2
theorem lw_15 {ν : MMem} (h : INV ν) (hS : SCR ν) {i : Int} (h0 : 0 ≤ i) (hi : i + 6 ≤ ν 202 (-1)) {Q : MVal → MMem → Prop} (nx : ∀ ν', INV ν' → ν' 202 = ν 202 → At 197 37 [(11, 202), (9, 0), (10, 47), (0, i)] [] ν' Q) : At 197 17 [(11, 202), (9, 0), (10, 47), (0, i)] [] ν Q := by
  have hl := hS.1
  obtain ⟨μ1, μ2, v, c1, c2, h2, e2, e1⟩ := l_left h (ν 202 (i + 1))
  have mi1 : m_i 0 i 1 = i + 1 := m_i0 (by omega) (by omega)
  have n2 := nx μ2 h2 e2
  rw [t197_17]
  simp only [B197_17, Classical.not_not, Prod.mk.injEq, m_l, m_lp, m_lq, m_ps, m_ws, m_en, List.replicate, if_true, if_false, reduceIte, true_and, and_true, false_and, and_false, true_or, or_true, false_or, or_false, and_self, or_self, not_true_eq_false, not_false_eq_true, ne_eq, Nat.reduceLeDiff, Nat.reduceEqDiff, Nat.reduceAdd, Int.reduceLE, Int.reduceLT, Int.reduceEq, Int.reduceNe, Int.reduceAdd, Int.reduceNeg, Nat.reduceSub, Nat.succ_ne_zero, Nat.not_succ_le_zero, Nat.reduceMul, Int.reduceMul, Int.reduceSub, Int.reduceToNat, Nat.zero_le, Nat.reduceLT, r_0, r_1, r_2, r_3, r_4, r_5, r_6, r_7, r_9, r_10, r_11, r_12, r_13, r_14, r_15, r_16, r_17, r_18, r_19, r_20_0, r_21_0, r_20_1, r_21_1, r_20_2, r_21_2, r_20_3, r_21_3, r_20_4, r_21_4, r_20_5, r_21_5, r_22_0, r_22_1, r_23, r_24, r_25, r_26, r_27, r_28, r_29, r_30_0, r_30_1, r_30_2, r_31, r_31b, r_32, r_33, r_33b, r_33c, r_34, r_34b, r_35, r_45, r_46, r_47_0, r_47_1, r_40, r_50, r_51, r_41_0, r_41_1, r_42, r_43, r_44, r_36_0, r_37_0, r_38_0, r_48_0, r_36_1, r_37_1, r_38_1, r_48_1, r_36_2, r_37_2, r_38_2, r_48_2, r_36_3, r_37_3, r_36_4, r_37_4, r_36_5, r_37_5, r_39, r_8, oc202, ol202, mi1, c1, e1, c2]
  exact ⟨⟨by omega, by omega⟩, ⟨by omega, by omega⟩, n2⟩
theorem lw_16 {ν : MMem} (h : INV ν) (hS : SCR ν) {i : Int} (h0 : 0 ≤ i) (hi : i + 6 ≤ ν 202 (-1)) {Q : MVal → MMem → Prop} (nx : ∀ ν', INV ν' → ν' 202 = ν 202 → At 197 37 [(11, 202), (9, 0), (10, 47), (0, i)] [] ν' Q) : At 197 18 [(11, 202), (9, 0), (10, 47), (0, i)] [] ν Q := by
  have hl := hS.1
  obtain ⟨μ1, μ2, v, c1, c2, h2, e2, e1⟩ := l_wed h (ν 202 (i + 1)) (ν 202 (i + 2))
  have mi1 : m_i 0 i 1 = i + 1 := m_i0 (by omega) (by omega)
  have mi2 : m_i 0 i 2 = i + 2 := m_i0 (by omega) (by omega)
  have n2 := nx μ2 h2 e2
  rw [t197_18]
  simp only [B197_18, Classical.not_not, Prod.mk.injEq, m_l, m_lp, m_lq, m_ps, m_ws, m_en, List.replicate, if_true, if_false, reduceIte, true_and, and_true, false_and, and_false, true_or, or_true, false_or, or_false, and_self, or_self, not_true_eq_false, not_false_eq_true, ne_eq, Nat.reduceLeDiff, Nat.reduceEqDiff, Nat.reduceAdd, Int.reduceLE, Int.reduceLT, Int.reduceEq, Int.reduceNe, Int.reduceAdd, Int.reduceNeg, Nat.reduceSub, Nat.succ_ne_zero, Nat.not_succ_le_zero, Nat.reduceMul, Int.reduceMul, Int.reduceSub, Int.reduceToNat, Nat.zero_le, Nat.reduceLT, r_0, r_1, r_2, r_3, r_4, r_5, r_6, r_7, r_9, r_10, r_11, r_12, r_13, r_14, r_15, r_16, r_17, r_18, r_19, r_20_0, r_21_0, r_20_1, r_21_1, r_20_2, r_21_2, r_20_3, r_21_3, r_20_4, r_21_4, r_20_5, r_21_5, r_22_0, r_22_1, r_23, r_24, r_25, r_26, r_27, r_28, r_29, r_30_0, r_30_1, r_30_2, r_31, r_31b, r_32, r_33, r_33b, r_33c, r_34, r_34b, r_35, r_45, r_46, r_47_0, r_47_1, r_40, r_50, r_51, r_41_0, r_41_1, r_42, r_43, r_44, r_36_0, r_37_0, r_38_0, r_48_0, r_36_1, r_37_1, r_38_1, r_48_1, r_36_2, r_37_2, r_38_2, r_48_2, r_36_3, r_37_3, r_36_4, r_37_4, r_36_5, r_37_5, r_39, r_8, oc202, ol202, mi1, mi2, c1, e1, c2]
  exact ⟨⟨by omega, by omega⟩, ⟨by omega, by omega⟩, ⟨by omega, by omega⟩, ⟨by omega, by omega⟩, n2⟩
theorem lw_17 {ν : MMem} (h : INV ν) (hS : SCR ν) {i : Int} (h0 : 0 ≤ i) (hi : i + 6 ≤ ν 202 (-1)) {Q : MVal → MMem → Prop} (nx : ∀ ν', INV ν' → ν' 202 = ν 202 → At 197 37 [(11, 202), (9, 0), (10, 47), (0, i)] [] ν' Q) : At 197 19 [(11, 202), (9, 0), (10, 47), (0, i)] [] ν Q := by
  have hl := hS.1
  obtain ⟨μ1, μ2, v, c1, c2, h2, e2, e1⟩ := l_when h (ν 202 (i + 1)) (ν 202 (i + 2))
  have mi1 : m_i 0 i 1 = i + 1 := m_i0 (by omega) (by omega)
  have mi2 : m_i 0 i 2 = i + 2 := m_i0 (by omega) (by omega)
  have n2 := nx μ2 h2 e2
  rw [t197_19]
  simp only [B197_19, Classical.not_not, Prod.mk.injEq, m_l, m_lp, m_lq, m_ps, m_ws, m_en, List.replicate, if_true, if_false, reduceIte, true_and, and_true, false_and, and_false, true_or, or_true, false_or, or_false, and_self, or_self, not_true_eq_false, not_false_eq_true, ne_eq, Nat.reduceLeDiff, Nat.reduceEqDiff, Nat.reduceAdd, Int.reduceLE, Int.reduceLT, Int.reduceEq, Int.reduceNe, Int.reduceAdd, Int.reduceNeg, Nat.reduceSub, Nat.succ_ne_zero, Nat.not_succ_le_zero, Nat.reduceMul, Int.reduceMul, Int.reduceSub, Int.reduceToNat, Nat.zero_le, Nat.reduceLT, r_0, r_1, r_2, r_3, r_4, r_5, r_6, r_7, r_9, r_10, r_11, r_12, r_13, r_14, r_15, r_16, r_17, r_18, r_19, r_20_0, r_21_0, r_20_1, r_21_1, r_20_2, r_21_2, r_20_3, r_21_3, r_20_4, r_21_4, r_20_5, r_21_5, r_22_0, r_22_1, r_23, r_24, r_25, r_26, r_27, r_28, r_29, r_30_0, r_30_1, r_30_2, r_31, r_31b, r_32, r_33, r_33b, r_33c, r_34, r_34b, r_35, r_45, r_46, r_47_0, r_47_1, r_40, r_50, r_51, r_41_0, r_41_1, r_42, r_43, r_44, r_36_0, r_37_0, r_38_0, r_48_0, r_36_1, r_37_1, r_38_1, r_48_1, r_36_2, r_37_2, r_38_2, r_48_2, r_36_3, r_37_3, r_36_4, r_37_4, r_36_5, r_37_5, r_39, r_8, oc202, ol202, mi1, mi2, c1, e1, c2]
  exact ⟨⟨by omega, by omega⟩, ⟨by omega, by omega⟩, ⟨by omega, by omega⟩, ⟨by omega, by omega⟩, n2⟩
theorem lw_18 {ν : MMem} (h : INV ν) (hS : SCR ν) {i : Int} (h0 : 0 ≤ i) (hi : i + 6 ≤ ν 202 (-1)) {Q : MVal → MMem → Prop} (nx : ∀ ν', INV ν' → ν' 202 = ν 202 → At 197 37 [(11, 202), (9, 0), (10, 47), (0, i)] [] ν' Q) : At 197 20 [(11, 202), (9, 0), (10, 47), (0, i)] [] ν Q := by
  have hl := hS.1
  obtain ⟨μ1, μ2, v, c1, c2, h2, e2, e1⟩ := l_from h (ν 202 (i + 1)) (ν 202 (i + 2))
  have mi1 : m_i 0 i 1 = i + 1 := m_i0 (by omega) (by omega)
  have mi2 : m_i 0 i 2 = i + 2 := m_i0 (by omega) (by omega)
  have n2 := nx μ2 h2 e2
  rw [t197_20]
  simp only [B197_20, Classical.not_not, Prod.mk.injEq, m_l, m_lp, m_lq, m_ps, m_ws, m_en, List.replicate, if_true, if_false, reduceIte, true_and, and_true, false_and, and_false, true_or, or_true, false_or, or_false, and_self, or_self, not_true_eq_false, not_false_eq_true, ne_eq, Nat.reduceLeDiff, Nat.reduceEqDiff, Nat.reduceAdd, Int.reduceLE, Int.reduceLT, Int.reduceEq, Int.reduceNe, Int.reduceAdd, Int.reduceNeg, Nat.reduceSub, Nat.succ_ne_zero, Nat.not_succ_le_zero, Nat.reduceMul, Int.reduceMul, Int.reduceSub, Int.reduceToNat, Nat.zero_le, Nat.reduceLT, r_0, r_1, r_2, r_3, r_4, r_5, r_6, r_7, r_9, r_10, r_11, r_12, r_13, r_14, r_15, r_16, r_17, r_18, r_19, r_20_0, r_21_0, r_20_1, r_21_1, r_20_2, r_21_2, r_20_3, r_21_3, r_20_4, r_21_4, r_20_5, r_21_5, r_22_0, r_22_1, r_23, r_24, r_25, r_26, r_27, r_28, r_29, r_30_0, r_30_1, r_30_2, r_31, r_31b, r_32, r_33, r_33b, r_33c, r_34, r_34b, r_35, r_45, r_46, r_47_0, r_47_1, r_40, r_50, r_51, r_41_0, r_41_1, r_42, r_43, r_44, r_36_0, r_37_0, r_38_0, r_48_0, r_36_1, r_37_1, r_38_1, r_48_1, r_36_2, r_37_2, r_38_2, r_48_2, r_36_3, r_37_3, r_36_4, r_37_4, r_36_5, r_37_5, r_39, r_8, oc202, ol202, mi1, mi2, c1, e1, c2]
  exact ⟨⟨by omega, by omega⟩, ⟨by omega, by omega⟩, ⟨by omega, by omega⟩, ⟨by omega, by omega⟩, n2⟩
theorem lw_19 {ν : MMem} (h : INV ν) (hS : SCR ν) {i : Int} (h0 : 0 ≤ i) (hi : i + 6 ≤ ν 202 (-1)) {Q : MVal → MMem → Prop} (nx : ∀ ν', INV ν' → ν' 202 = ν 202 → At 197 37 [(11, 202), (9, 0), (10, 47), (0, i)] [] ν' Q) : At 197 21 [(11, 202), (9, 0), (10, 47), (0, i)] [] ν Q := by
  have hl := hS.1
  obtain ⟨μ1, μ2, v, c1, c2, h2, e2, e1⟩ := l_spare h (ν 202 (i + 1))
  have mi1 : m_i 0 i 1 = i + 1 := m_i0 (by omega) (by omega)
  have n2 := nx μ2 h2 e2
  rw [t197_21]
  simp only [B197_21, Classical.not_not, Prod.mk.injEq, m_l, m_lp, m_lq, m_ps, m_ws, m_en, List.replicate, if_true, if_false, reduceIte, true_and, and_true, false_and, and_false, true_or, or_true, false_or, or_false, and_self, or_self, not_true_eq_false, not_false_eq_true, ne_eq, Nat.reduceLeDiff, Nat.reduceEqDiff, Nat.reduceAdd, Int.reduceLE, Int.reduceLT, Int.reduceEq, Int.reduceNe, Int.reduceAdd, Int.reduceNeg, Nat.reduceSub, Nat.succ_ne_zero, Nat.not_succ_le_zero, Nat.reduceMul, Int.reduceMul, Int.reduceSub, Int.reduceToNat, Nat.zero_le, Nat.reduceLT, r_0, r_1, r_2, r_3, r_4, r_5, r_6, r_7, r_9, r_10, r_11, r_12, r_13, r_14, r_15, r_16, r_17, r_18, r_19, r_20_0, r_21_0, r_20_1, r_21_1, r_20_2, r_21_2, r_20_3, r_21_3, r_20_4, r_21_4, r_20_5, r_21_5, r_22_0, r_22_1, r_23, r_24, r_25, r_26, r_27, r_28, r_29, r_30_0, r_30_1, r_30_2, r_31, r_31b, r_32, r_33, r_33b, r_33c, r_34, r_34b, r_35, r_45, r_46, r_47_0, r_47_1, r_40, r_50, r_51, r_41_0, r_41_1, r_42, r_43, r_44, r_36_0, r_37_0, r_38_0, r_48_0, r_36_1, r_37_1, r_38_1, r_48_1, r_36_2, r_37_2, r_38_2, r_48_2, r_36_3, r_37_3, r_36_4, r_37_4, r_36_5, r_37_5, r_39, r_8, oc202, ol202, mi1, c1, e1, c2]
  exact ⟨⟨by omega, by omega⟩, ⟨by omega, by omega⟩, n2⟩
theorem lw_20 {ν : MMem} (h : INV ν) (hS : SCR ν) {i : Int} (h0 : 0 ≤ i) (hi : i + 6 ≤ ν 202 (-1)) {Q : MVal → MMem → Prop} (nx : ∀ ν', INV ν' → ν' 202 = ν 202 → At 197 37 [(11, 202), (9, 0), (10, 47), (0, i)] [] ν' Q) : At 197 22 [(11, 202), (9, 0), (10, 47), (0, i)] [] ν Q := by
  have hl := hS.1
  obtain ⟨μ1, μ2, v, c1, c2, h2, e2, e1⟩ := l_seen h (ν 202 (i + 1)) (ν 202 (i + 2)) (ν 202 (i + 3))
  have mi1 : m_i 0 i 1 = i + 1 := m_i0 (by omega) (by omega)
  have mi2 : m_i 0 i 2 = i + 2 := m_i0 (by omega) (by omega)
  have mi3 : m_i 0 i 3 = i + 3 := m_i0 (by omega) (by omega)
  have n2 := nx μ2 h2 e2
  rw [t197_22]
  simp only [B197_22, Classical.not_not, Prod.mk.injEq, m_l, m_lp, m_lq, m_ps, m_ws, m_en, List.replicate, if_true, if_false, reduceIte, true_and, and_true, false_and, and_false, true_or, or_true, false_or, or_false, and_self, or_self, not_true_eq_false, not_false_eq_true, ne_eq, Nat.reduceLeDiff, Nat.reduceEqDiff, Nat.reduceAdd, Int.reduceLE, Int.reduceLT, Int.reduceEq, Int.reduceNe, Int.reduceAdd, Int.reduceNeg, Nat.reduceSub, Nat.succ_ne_zero, Nat.not_succ_le_zero, Nat.reduceMul, Int.reduceMul, Int.reduceSub, Int.reduceToNat, Nat.zero_le, Nat.reduceLT, r_0, r_1, r_2, r_3, r_4, r_5, r_6, r_7, r_9, r_10, r_11, r_12, r_13, r_14, r_15, r_16, r_17, r_18, r_19, r_20_0, r_21_0, r_20_1, r_21_1, r_20_2, r_21_2, r_20_3, r_21_3, r_20_4, r_21_4, r_20_5, r_21_5, r_22_0, r_22_1, r_23, r_24, r_25, r_26, r_27, r_28, r_29, r_30_0, r_30_1, r_30_2, r_31, r_31b, r_32, r_33, r_33b, r_33c, r_34, r_34b, r_35, r_45, r_46, r_47_0, r_47_1, r_40, r_50, r_51, r_41_0, r_41_1, r_42, r_43, r_44, r_36_0, r_37_0, r_38_0, r_48_0, r_36_1, r_37_1, r_38_1, r_48_1, r_36_2, r_37_2, r_38_2, r_48_2, r_36_3, r_37_3, r_36_4, r_37_4, r_36_5, r_37_5, r_39, r_8, oc202, ol202, mi1, mi2, mi3, c1, e1, c2]
  exact ⟨⟨by omega, by omega⟩, ⟨by omega, by omega⟩, ⟨by omega, by omega⟩, ⟨by omega, by omega⟩, ⟨by omega, by omega⟩, ⟨by omega, by omega⟩, n2⟩
theorem lw_21 {ν : MMem} (h : INV ν) (hS : SCR ν) {i : Int} (h0 : 0 ≤ i) (hi : i + 6 ≤ ν 202 (-1)) {Q : MVal → MMem → Prop} (nx : ∀ ν', INV ν' → ν' 202 = ν 202 → At 197 37 [(11, 202), (9, 0), (10, 47), (0, i)] [] ν' Q) : At 197 23 [(11, 202), (9, 0), (10, 47), (0, i)] [] ν Q := by
  have hl := hS.1
  obtain ⟨μ1, μ2, v, c1, c2, h2, e2, e1⟩ := l_forget h 
  have n2 := nx μ2 h2 e2
  rw [t197_23]
  simp only [B197_23, Classical.not_not, Prod.mk.injEq, m_l, m_lp, m_lq, m_ps, m_ws, m_en, List.replicate, if_true, if_false, reduceIte, true_and, and_true, false_and, and_false, true_or, or_true, false_or, or_false, and_self, or_self, not_true_eq_false, not_false_eq_true, ne_eq, Nat.reduceLeDiff, Nat.reduceEqDiff, Nat.reduceAdd, Int.reduceLE, Int.reduceLT, Int.reduceEq, Int.reduceNe, Int.reduceAdd, Int.reduceNeg, Nat.reduceSub, Nat.succ_ne_zero, Nat.not_succ_le_zero, Nat.reduceMul, Int.reduceMul, Int.reduceSub, Int.reduceToNat, Nat.zero_le, Nat.reduceLT, r_0, r_1, r_2, r_3, r_4, r_5, r_6, r_7, r_9, r_10, r_11, r_12, r_13, r_14, r_15, r_16, r_17, r_18, r_19, r_20_0, r_21_0, r_20_1, r_21_1, r_20_2, r_21_2, r_20_3, r_21_3, r_20_4, r_21_4, r_20_5, r_21_5, r_22_0, r_22_1, r_23, r_24, r_25, r_26, r_27, r_28, r_29, r_30_0, r_30_1, r_30_2, r_31, r_31b, r_32, r_33, r_33b, r_33c, r_34, r_34b, r_35, r_45, r_46, r_47_0, r_47_1, r_40, r_50, r_51, r_41_0, r_41_1, r_42, r_43, r_44, r_36_0, r_37_0, r_38_0, r_48_0, r_36_1, r_37_1, r_38_1, r_48_1, r_36_2, r_37_2, r_38_2, r_48_2, r_36_3, r_37_3, r_36_4, r_37_4, r_36_5, r_37_5, r_39, r_8, oc202, ol202, c1, e1, c2]
  exact n2
theorem lw_22 {ν : MMem} (h : INV ν) (hS : SCR ν) {i : Int} (h0 : 0 ≤ i) (hi : i + 6 ≤ ν 202 (-1)) {Q : MVal → MMem → Prop} (nx : ∀ ν', INV ν' → ν' 202 = ν 202 → At 197 37 [(11, 202), (9, 0), (10, 47), (0, i)] [] ν' Q) : At 197 24 [(11, 202), (9, 0), (10, 47), (0, i)] [] ν Q := by
  have hl := hS.1
  obtain ⟨μ1, μ2, v, c1, c2, h2, e2, e1⟩ := l_never h 
  have n2 := nx μ2 h2 e2
  rw [t197_24]
  simp only [B197_24, Classical.not_not, Prod.mk.injEq, m_l, m_lp, m_lq, m_ps, m_ws, m_en, List.replicate, if_true, if_false, reduceIte, true_and, and_true, false_and, and_false, true_or, or_true, false_or, or_false, and_self, or_self, not_true_eq_false, not_false_eq_true, ne_eq, Nat.reduceLeDiff, Nat.reduceEqDiff, Nat.reduceAdd, Int.reduceLE, Int.reduceLT, Int.reduceEq, Int.reduceNe, Int.reduceAdd, Int.reduceNeg, Nat.reduceSub, Nat.succ_ne_zero, Nat.not_succ_le_zero, Nat.reduceMul, Int.reduceMul, Int.reduceSub, Int.reduceToNat, Nat.zero_le, Nat.reduceLT, r_0, r_1, r_2, r_3, r_4, r_5, r_6, r_7, r_9, r_10, r_11, r_12, r_13, r_14, r_15, r_16, r_17, r_18, r_19, r_20_0, r_21_0, r_20_1, r_21_1, r_20_2, r_21_2, r_20_3, r_21_3, r_20_4, r_21_4, r_20_5, r_21_5, r_22_0, r_22_1, r_23, r_24, r_25, r_26, r_27, r_28, r_29, r_30_0, r_30_1, r_30_2, r_31, r_31b, r_32, r_33, r_33b, r_33c, r_34, r_34b, r_35, r_45, r_46, r_47_0, r_47_1, r_40, r_50, r_51, r_41_0, r_41_1, r_42, r_43, r_44, r_36_0, r_37_0, r_38_0, r_48_0, r_36_1, r_37_1, r_38_1, r_48_1, r_36_2, r_37_2, r_38_2, r_48_2, r_36_3, r_37_3, r_36_4, r_37_4, r_36_5, r_37_5, r_39, r_8, oc202, ol202, c1, e1, c2]
  exact n2
theorem lw_23 {ν : MMem} (h : INV ν) (hS : SCR ν) {i : Int} (h0 : 0 ≤ i) (hi : i + 6 ≤ ν 202 (-1)) {Q : MVal → MMem → Prop} (nx : ∀ ν', INV ν' → ν' 202 = ν 202 → At 197 37 [(11, 202), (9, 0), (10, 47), (0, i)] [] ν' Q) : At 197 25 [(11, 202), (9, 0), (10, 47), (0, i)] [] ν Q := by
  have hl := hS.1
  obtain ⟨μ1, μ2, v, c1, c2, h2, e2, e1⟩ := l_was h (ν 202 (i + 1)) (ν 202 (i + 2))
  have mi1 : m_i 0 i 1 = i + 1 := m_i0 (by omega) (by omega)
  have mi2 : m_i 0 i 2 = i + 2 := m_i0 (by omega) (by omega)
  have n2 := nx μ2 h2 e2
  rw [t197_25]
  simp only [B197_25, Classical.not_not, Prod.mk.injEq, m_l, m_lp, m_lq, m_ps, m_ws, m_en, List.replicate, if_true, if_false, reduceIte, true_and, and_true, false_and, and_false, true_or, or_true, false_or, or_false, and_self, or_self, not_true_eq_false, not_false_eq_true, ne_eq, Nat.reduceLeDiff, Nat.reduceEqDiff, Nat.reduceAdd, Int.reduceLE, Int.reduceLT, Int.reduceEq, Int.reduceNe, Int.reduceAdd, Int.reduceNeg, Nat.reduceSub, Nat.succ_ne_zero, Nat.not_succ_le_zero, Nat.reduceMul, Int.reduceMul, Int.reduceSub, Int.reduceToNat, Nat.zero_le, Nat.reduceLT, r_0, r_1, r_2, r_3, r_4, r_5, r_6, r_7, r_9, r_10, r_11, r_12, r_13, r_14, r_15, r_16, r_17, r_18, r_19, r_20_0, r_21_0, r_20_1, r_21_1, r_20_2, r_21_2, r_20_3, r_21_3, r_20_4, r_21_4, r_20_5, r_21_5, r_22_0, r_22_1, r_23, r_24, r_25, r_26, r_27, r_28, r_29, r_30_0, r_30_1, r_30_2, r_31, r_31b, r_32, r_33, r_33b, r_33c, r_34, r_34b, r_35, r_45, r_46, r_47_0, r_47_1, r_40, r_50, r_51, r_41_0, r_41_1, r_42, r_43, r_44, r_36_0, r_37_0, r_38_0, r_48_0, r_36_1, r_37_1, r_38_1, r_48_1, r_36_2, r_37_2, r_38_2, r_48_2, r_36_3, r_37_3, r_36_4, r_37_4, r_36_5, r_37_5, r_39, r_8, oc202, ol202, mi1, mi2, c1, e1, c2]
  exact ⟨⟨by omega, by omega⟩, ⟨by omega, by omega⟩, ⟨by omega, by omega⟩, ⟨by omega, by omega⟩, n2⟩
theorem lw_24 {ν : MMem} (h : INV ν) (hS : SCR ν) {i : Int} (h0 : 0 ≤ i) (hi : i + 6 ≤ ν 202 (-1)) {Q : MVal → MMem → Prop} (nx : ∀ ν', INV ν' → ν' 202 = ν 202 → At 197 37 [(11, 202), (9, 0), (10, 47), (0, i)] [] ν' Q) : At 197 26 [(11, 202), (9, 0), (10, 47), (0, i)] [] ν Q := by
  have hl := hS.1
  obtain ⟨μ1, μ2, v, c1, c2, h2, e2, e1⟩ := l_ask h (ν 202 (i + 1))
  have mi1 : m_i 0 i 1 = i + 1 := m_i0 (by omega) (by omega)
  have n2 := nx μ2 h2 e2
  rw [t197_26]
  simp only [B197_26, Classical.not_not, Prod.mk.injEq, m_l, m_lp, m_lq, m_ps, m_ws, m_en, List.replicate, if_true, if_false, reduceIte, true_and, and_true, false_and, and_false, true_or, or_true, false_or, or_false, and_self, or_self, not_true_eq_false, not_false_eq_true, ne_eq, Nat.reduceLeDiff, Nat.reduceEqDiff, Nat.reduceAdd, Int.reduceLE, Int.reduceLT, Int.reduceEq, Int.reduceNe, Int.reduceAdd, Int.reduceNeg, Nat.reduceSub, Nat.succ_ne_zero, Nat.not_succ_le_zero, Nat.reduceMul, Int.reduceMul, Int.reduceSub, Int.reduceToNat, Nat.zero_le, Nat.reduceLT, r_0, r_1, r_2, r_3, r_4, r_5, r_6, r_7, r_9, r_10, r_11, r_12, r_13, r_14, r_15, r_16, r_17, r_18, r_19, r_20_0, r_21_0, r_20_1, r_21_1, r_20_2, r_21_2, r_20_3, r_21_3, r_20_4, r_21_4, r_20_5, r_21_5, r_22_0, r_22_1, r_23, r_24, r_25, r_26, r_27, r_28, r_29, r_30_0, r_30_1, r_30_2, r_31, r_31b, r_32, r_33, r_33b, r_33c, r_34, r_34b, r_35, r_45, r_46, r_47_0, r_47_1, r_40, r_50, r_51, r_41_0, r_41_1, r_42, r_43, r_44, r_36_0, r_37_0, r_38_0, r_48_0, r_36_1, r_37_1, r_38_1, r_48_1, r_36_2, r_37_2, r_38_2, r_48_2, r_36_3, r_37_3, r_36_4, r_37_4, r_36_5, r_37_5, r_39, r_8, oc202, ol202, mi1, c1, e1, c2]
  exact ⟨⟨by omega, by omega⟩, ⟨by omega, by omega⟩, n2⟩
theorem lw_25 {ν : MMem} (h : INV ν) (hS : SCR ν) {i : Int} (h0 : 0 ≤ i) (hi : i + 6 ≤ ν 202 (-1)) {Q : MVal → MMem → Prop} (nx : ∀ ν', INV ν' → ν' 202 = ν 202 → At 197 37 [(11, 202), (9, 0), (10, 47), (0, i)] [] ν' Q) : At 197 27 [(11, 202), (9, 0), (10, 47), (0, i)] [] ν Q := by
  have hl := hS.1
  obtain ⟨μ1, μ2, v, c1, c2, h2, e2, e1⟩ := l_chance h (ν 202 (i + 1)) (ν 202 (i + 2)) (ν 202 (i + 3))
  have mi1 : m_i 0 i 1 = i + 1 := m_i0 (by omega) (by omega)
  have mi2 : m_i 0 i 2 = i + 2 := m_i0 (by omega) (by omega)
  have mi3 : m_i 0 i 3 = i + 3 := m_i0 (by omega) (by omega)
  have n2 := nx μ2 h2 e2
  rw [t197_27]
  simp only [B197_27, Classical.not_not, Prod.mk.injEq, m_l, m_lp, m_lq, m_ps, m_ws, m_en, List.replicate, if_true, if_false, reduceIte, true_and, and_true, false_and, and_false, true_or, or_true, false_or, or_false, and_self, or_self, not_true_eq_false, not_false_eq_true, ne_eq, Nat.reduceLeDiff, Nat.reduceEqDiff, Nat.reduceAdd, Int.reduceLE, Int.reduceLT, Int.reduceEq, Int.reduceNe, Int.reduceAdd, Int.reduceNeg, Nat.reduceSub, Nat.succ_ne_zero, Nat.not_succ_le_zero, Nat.reduceMul, Int.reduceMul, Int.reduceSub, Int.reduceToNat, Nat.zero_le, Nat.reduceLT, r_0, r_1, r_2, r_3, r_4, r_5, r_6, r_7, r_9, r_10, r_11, r_12, r_13, r_14, r_15, r_16, r_17, r_18, r_19, r_20_0, r_21_0, r_20_1, r_21_1, r_20_2, r_21_2, r_20_3, r_21_3, r_20_4, r_21_4, r_20_5, r_21_5, r_22_0, r_22_1, r_23, r_24, r_25, r_26, r_27, r_28, r_29, r_30_0, r_30_1, r_30_2, r_31, r_31b, r_32, r_33, r_33b, r_33c, r_34, r_34b, r_35, r_45, r_46, r_47_0, r_47_1, r_40, r_50, r_51, r_41_0, r_41_1, r_42, r_43, r_44, r_36_0, r_37_0, r_38_0, r_48_0, r_36_1, r_37_1, r_38_1, r_48_1, r_36_2, r_37_2, r_38_2, r_48_2, r_36_3, r_37_3, r_36_4, r_37_4, r_36_5, r_37_5, r_39, r_8, oc202, ol202, mi1, mi2, mi3, c1, e1, c2, cmp_eq]
  exact ⟨⟨by omega, by omega⟩, ⟨by omega, by omega⟩, ⟨by omega, by omega⟩, ⟨by omega, by omega⟩, ⟨by omega, by omega⟩, ⟨by omega, by omega⟩, n2⟩
theorem lw_26 {ν : MMem} (h : INV ν) (hS : SCR ν) {i : Int} (h0 : 0 ≤ i) (hi : i + 6 ≤ ν 202 (-1)) {Q : MVal → MMem → Prop} (nx : ∀ ν', INV ν' → ν' 202 = ν 202 → At 197 37 [(11, 202), (9, 0), (10, 47), (0, i)] [] ν' Q) : At 197 28 [(11, 202), (9, 0), (10, 47), (0, i)] [] ν Q := by
  have hl := hS.1
  obtain ⟨μ1, μ2, v, c1, c2, h2, e2, e1⟩ := l_ages h (ν 202 (i + 1)) (ν 202 (i + 2)) (ν 202 (i + 3))
  have mi1 : m_i 0 i 1 = i + 1 := m_i0 (by omega) (by omega)
  have mi2 : m_i 0 i 2 = i + 2 := m_i0 (by omega) (by omega)
  have mi3 : m_i 0 i 3 = i + 3 := m_i0 (by omega) (by omega)
  have n2 := nx μ2 h2 e2
  rw [t197_28]
  simp only [B197_28, Classical.not_not, Prod.mk.injEq, m_l, m_lp, m_lq, m_ps, m_ws, m_en, List.replicate, if_true, if_false, reduceIte, true_and, and_true, false_and, and_false, true_or, or_true, false_or, or_false, and_self, or_self, not_true_eq_false, not_false_eq_true, ne_eq, Nat.reduceLeDiff, Nat.reduceEqDiff, Nat.reduceAdd, Int.reduceLE, Int.reduceLT, Int.reduceEq, Int.reduceNe, Int.reduceAdd, Int.reduceNeg, Nat.reduceSub, Nat.succ_ne_zero, Nat.not_succ_le_zero, Nat.reduceMul, Int.reduceMul, Int.reduceSub, Int.reduceToNat, Nat.zero_le, Nat.reduceLT, r_0, r_1, r_2, r_3, r_4, r_5, r_6, r_7, r_9, r_10, r_11, r_12, r_13, r_14, r_15, r_16, r_17, r_18, r_19, r_20_0, r_21_0, r_20_1, r_21_1, r_20_2, r_21_2, r_20_3, r_21_3, r_20_4, r_21_4, r_20_5, r_21_5, r_22_0, r_22_1, r_23, r_24, r_25, r_26, r_27, r_28, r_29, r_30_0, r_30_1, r_30_2, r_31, r_31b, r_32, r_33, r_33b, r_33c, r_34, r_34b, r_35, r_45, r_46, r_47_0, r_47_1, r_40, r_50, r_51, r_41_0, r_41_1, r_42, r_43, r_44, r_36_0, r_37_0, r_38_0, r_48_0, r_36_1, r_37_1, r_38_1, r_48_1, r_36_2, r_37_2, r_38_2, r_48_2, r_36_3, r_37_3, r_36_4, r_37_4, r_36_5, r_37_5, r_39, r_8, oc202, ol202, mi1, mi2, mi3, c1, e1, c2]
  exact ⟨⟨by omega, by omega⟩, ⟨by omega, by omega⟩, ⟨by omega, by omega⟩, ⟨by omega, by omega⟩, ⟨by omega, by omega⟩, ⟨by omega, by omega⟩, n2⟩
theorem lw_27 {ν : MMem} (h : INV ν) (hS : SCR ν) {i : Int} (h0 : 0 ≤ i) (hi : i + 6 ≤ ν 202 (-1)) {Q : MVal → MMem → Prop} (nx : ∀ ν', INV ν' → ν' 202 = ν 202 → At 197 37 [(11, 202), (9, 0), (10, 47), (0, i)] [] ν' Q) : At 197 29 [(11, 202), (9, 0), (10, 47), (0, i)] [] ν Q := by
  have hl := hS.1
  obtain ⟨μ1, μ2, v, c1, c2, h2, e2, e1⟩ := l_sheet h (ν 202 (i + 1)) (ν 202 (i + 2)) (ν 202 (i + 3))
  have mi1 : m_i 0 i 1 = i + 1 := m_i0 (by omega) (by omega)
  have mi2 : m_i 0 i 2 = i + 2 := m_i0 (by omega) (by omega)
  have mi3 : m_i 0 i 3 = i + 3 := m_i0 (by omega) (by omega)
  have n2 := nx μ2 h2 e2
  rw [t197_29]
  simp only [B197_29, Classical.not_not, Prod.mk.injEq, m_l, m_lp, m_lq, m_ps, m_ws, m_en, List.replicate, if_true, if_false, reduceIte, true_and, and_true, false_and, and_false, true_or, or_true, false_or, or_false, and_self, or_self, not_true_eq_false, not_false_eq_true, ne_eq, Nat.reduceLeDiff, Nat.reduceEqDiff, Nat.reduceAdd, Int.reduceLE, Int.reduceLT, Int.reduceEq, Int.reduceNe, Int.reduceAdd, Int.reduceNeg, Nat.reduceSub, Nat.succ_ne_zero, Nat.not_succ_le_zero, Nat.reduceMul, Int.reduceMul, Int.reduceSub, Int.reduceToNat, Nat.zero_le, Nat.reduceLT, r_0, r_1, r_2, r_3, r_4, r_5, r_6, r_7, r_9, r_10, r_11, r_12, r_13, r_14, r_15, r_16, r_17, r_18, r_19, r_20_0, r_21_0, r_20_1, r_21_1, r_20_2, r_21_2, r_20_3, r_21_3, r_20_4, r_21_4, r_20_5, r_21_5, r_22_0, r_22_1, r_23, r_24, r_25, r_26, r_27, r_28, r_29, r_30_0, r_30_1, r_30_2, r_31, r_31b, r_32, r_33, r_33b, r_33c, r_34, r_34b, r_35, r_45, r_46, r_47_0, r_47_1, r_40, r_50, r_51, r_41_0, r_41_1, r_42, r_43, r_44, r_36_0, r_37_0, r_38_0, r_48_0, r_36_1, r_37_1, r_38_1, r_48_1, r_36_2, r_37_2, r_38_2, r_48_2, r_36_3, r_37_3, r_36_4, r_37_4, r_36_5, r_37_5, r_39, r_8, oc202, ol202, mi1, mi2, mi3, c1, e1, c2]
  exact ⟨⟨by omega, by omega⟩, ⟨by omega, by omega⟩, ⟨by omega, by omega⟩, ⟨by omega, by omega⟩, ⟨by omega, by omega⟩, ⟨by omega, by omega⟩, n2⟩
theorem lw_28 {ν : MMem} (h : INV ν) (hS : SCR ν) {i : Int} (h0 : 0 ≤ i) (hi : i + 6 ≤ ν 202 (-1)) {Q : MVal → MMem → Prop} (nx : ∀ ν', INV ν' → ν' 202 = ν 202 → At 197 37 [(11, 202), (9, 0), (10, 47), (0, i)] [] ν' Q) : At 197 30 [(11, 202), (9, 0), (10, 47), (0, i)] [] ν Q := by
  have hl := hS.1
  obtain ⟨μ1, μ2, v, c1, c2, h2, e2, e1⟩ := l_lose h (ν 202 (i + 1))
  have mi1 : m_i 0 i 1 = i + 1 := m_i0 (by omega) (by omega)
  have n2 := nx μ2 h2 e2
  rw [t197_30]
  simp only [B197_30, Classical.not_not, Prod.mk.injEq, m_l, m_lp, m_lq, m_ps, m_ws, m_en, List.replicate, if_true, if_false, reduceIte, true_and, and_true, false_and, and_false, true_or, or_true, false_or, or_false, and_self, or_self, not_true_eq_false, not_false_eq_true, ne_eq, Nat.reduceLeDiff, Nat.reduceEqDiff, Nat.reduceAdd, Int.reduceLE, Int.reduceLT, Int.reduceEq, Int.reduceNe, Int.reduceAdd, Int.reduceNeg, Nat.reduceSub, Nat.succ_ne_zero, Nat.not_succ_le_zero, Nat.reduceMul, Int.reduceMul, Int.reduceSub, Int.reduceToNat, Nat.zero_le, Nat.reduceLT, r_0, r_1, r_2, r_3, r_4, r_5, r_6, r_7, r_9, r_10, r_11, r_12, r_13, r_14, r_15, r_16, r_17, r_18, r_19, r_20_0, r_21_0, r_20_1, r_21_1, r_20_2, r_21_2, r_20_3, r_21_3, r_20_4, r_21_4, r_20_5, r_21_5, r_22_0, r_22_1, r_23, r_24, r_25, r_26, r_27, r_28, r_29, r_30_0, r_30_1, r_30_2, r_31, r_31b, r_32, r_33, r_33b, r_33c, r_34, r_34b, r_35, r_45, r_46, r_47_0, r_47_1, r_40, r_50, r_51, r_41_0, r_41_1, r_42, r_43, r_44, r_36_0, r_37_0, r_38_0, r_48_0, r_36_1, r_37_1, r_38_1, r_48_1, r_36_2, r_37_2, r_38_2, r_48_2, r_36_3, r_37_3, r_36_4, r_37_4, r_36_5, r_37_5, r_39, r_8, oc202, ol202, mi1, c1, e1, c2]
  exact ⟨⟨by omega, by omega⟩, ⟨by omega, by omega⟩, n2⟩
theorem lw_29 {ν : MMem} (h : INV ν) (hS : SCR ν) {i : Int} (h0 : 0 ≤ i) (hi : i + 6 ≤ ν 202 (-1)) {Q : MVal → MMem → Prop} (nx : ∀ ν', INV ν' → ν' 202 = ν 202 → At 197 37 [(11, 202), (9, 0), (10, 47), (0, i)] [] ν' Q) : At 197 31 [(11, 202), (9, 0), (10, 47), (0, i)] [] ν Q := by
  have hl := hS.1
  obtain ⟨μ1, μ2, v, c1, c2, h2, e2, e1⟩ := l_lay h (ν 202 (i + 1)) (ν 202 (i + 2)) (ν 202 (i + 3)) (ν 202 (i + 4))
  have mi1 : m_i 0 i 1 = i + 1 := m_i0 (by omega) (by omega)
  have mi2 : m_i 0 i 2 = i + 2 := m_i0 (by omega) (by omega)
  have mi3 : m_i 0 i 3 = i + 3 := m_i0 (by omega) (by omega)
  have mi4 : m_i 0 i 4 = i + 4 := m_i0 (by omega) (by omega)
  have n2 := nx μ2 h2 e2
  rw [t197_31]
  simp only [B197_31, Classical.not_not, Prod.mk.injEq, m_l, m_lp, m_lq, m_ps, m_ws, m_en, List.replicate, if_true, if_false, reduceIte, true_and, and_true, false_and, and_false, true_or, or_true, false_or, or_false, and_self, or_self, not_true_eq_false, not_false_eq_true, ne_eq, Nat.reduceLeDiff, Nat.reduceEqDiff, Nat.reduceAdd, Int.reduceLE, Int.reduceLT, Int.reduceEq, Int.reduceNe, Int.reduceAdd, Int.reduceNeg, Nat.reduceSub, Nat.succ_ne_zero, Nat.not_succ_le_zero, Nat.reduceMul, Int.reduceMul, Int.reduceSub, Int.reduceToNat, Nat.zero_le, Nat.reduceLT, r_0, r_1, r_2, r_3, r_4, r_5, r_6, r_7, r_9, r_10, r_11, r_12, r_13, r_14, r_15, r_16, r_17, r_18, r_19, r_20_0, r_21_0, r_20_1, r_21_1, r_20_2, r_21_2, r_20_3, r_21_3, r_20_4, r_21_4, r_20_5, r_21_5, r_22_0, r_22_1, r_23, r_24, r_25, r_26, r_27, r_28, r_29, r_30_0, r_30_1, r_30_2, r_31, r_31b, r_32, r_33, r_33b, r_33c, r_34, r_34b, r_35, r_45, r_46, r_47_0, r_47_1, r_40, r_50, r_51, r_41_0, r_41_1, r_42, r_43, r_44, r_36_0, r_37_0, r_38_0, r_48_0, r_36_1, r_37_1, r_38_1, r_48_1, r_36_2, r_37_2, r_38_2, r_48_2, r_36_3, r_37_3, r_36_4, r_37_4, r_36_5, r_37_5, r_39, r_8, oc202, ol202, mi1, mi2, mi3, mi4, c1, e1, c2]
  exact ⟨⟨by omega, by omega⟩, ⟨by omega, by omega⟩, ⟨by omega, by omega⟩, ⟨by omega, by omega⟩, ⟨by omega, by omega⟩, ⟨by omega, by omega⟩, ⟨by omega, by omega⟩, ⟨by omega, by omega⟩, n2⟩
theorem lw_30 {ν : MMem} (h : INV ν) (hS : SCR ν) {i : Int} (h0 : 0 ≤ i) (hi : i + 6 ≤ ν 202 (-1)) {Q : MVal → MMem → Prop} (nx : ∀ ν', INV ν' → ν' 202 = ν 202 → At 197 37 [(11, 202), (9, 0), (10, 47), (0, i)] [] ν' Q) : At 197 32 [(11, 202), (9, 0), (10, 47), (0, i)] [] ν Q := by
  have hl := hS.1
  obtain ⟨μ1, μ2, v, c1, c2, h2, e2, e1⟩ := l_get h (ν 202 (i + 1)) (ν 202 (i + 2)) (ν 202 (i + 3))
  have mi1 : m_i 0 i 1 = i + 1 := m_i0 (by omega) (by omega)
  have mi2 : m_i 0 i 2 = i + 2 := m_i0 (by omega) (by omega)
  have mi3 : m_i 0 i 3 = i + 3 := m_i0 (by omega) (by omega)
  have n2 := nx μ2 h2 e2
  rw [t197_32]
  simp only [B197_32, Classical.not_not, Prod.mk.injEq, m_l, m_lp, m_lq, m_ps, m_ws, m_en, List.replicate, if_true, if_false, reduceIte, true_and, and_true, false_and, and_false, true_or, or_true, false_or, or_false, and_self, or_self, not_true_eq_false, not_false_eq_true, ne_eq, Nat.reduceLeDiff, Nat.reduceEqDiff, Nat.reduceAdd, Int.reduceLE, Int.reduceLT, Int.reduceEq, Int.reduceNe, Int.reduceAdd, Int.reduceNeg, Nat.reduceSub, Nat.succ_ne_zero, Nat.not_succ_le_zero, Nat.reduceMul, Int.reduceMul, Int.reduceSub, Int.reduceToNat, Nat.zero_le, Nat.reduceLT, r_0, r_1, r_2, r_3, r_4, r_5, r_6, r_7, r_9, r_10, r_11, r_12, r_13, r_14, r_15, r_16, r_17, r_18, r_19, r_20_0, r_21_0, r_20_1, r_21_1, r_20_2, r_21_2, r_20_3, r_21_3, r_20_4, r_21_4, r_20_5, r_21_5, r_22_0, r_22_1, r_23, r_24, r_25, r_26, r_27, r_28, r_29, r_30_0, r_30_1, r_30_2, r_31, r_31b, r_32, r_33, r_33b, r_33c, r_34, r_34b, r_35, r_45, r_46, r_47_0, r_47_1, r_40, r_50, r_51, r_41_0, r_41_1, r_42, r_43, r_44, r_36_0, r_37_0, r_38_0, r_48_0, r_36_1, r_37_1, r_38_1, r_48_1, r_36_2, r_37_2, r_38_2, r_48_2, r_36_3, r_37_3, r_36_4, r_37_4, r_36_5, r_37_5, r_39, r_8, oc202, ol202, mi1, mi2, mi3, c1, e1, c2]
  exact ⟨⟨by omega, by omega⟩, ⟨by omega, by omega⟩, ⟨by omega, by omega⟩, ⟨by omega, by omega⟩, ⟨by omega, by omega⟩, ⟨by omega, by omega⟩, n2⟩
theorem lw_31 {ν : MMem} (h : INV ν) (hS : SCR ν) {i : Int} (h0 : 0 ≤ i) (hi : i + 6 ≤ ν 202 (-1)) {Q : MVal → MMem → Prop} (nx : ∀ ν', INV ν' → ν' 202 = ν 202 → At 197 37 [(11, 202), (9, 0), (10, 47), (0, i)] [] ν' Q) : At 197 33 [(11, 202), (9, 0), (10, 47), (0, i)] [] ν Q := by
  have hl := hS.1
  obtain ⟨μ1, μ2, v, c1, c2, h2, e2, e1⟩ := l_copy h (ν 202 (i + 1)) (ν 202 (i + 2)) (ν 202 (i + 3)) (ν 202 (i + 4)) (ν 202 (i + 5)) ⟨hS.2 _, hS.2 _, hS.2 _⟩
  have mi1 : m_i 0 i 1 = i + 1 := m_i0 (by omega) (by omega)
  have mi2 : m_i 0 i 2 = i + 2 := m_i0 (by omega) (by omega)
  have mi3 : m_i 0 i 3 = i + 3 := m_i0 (by omega) (by omega)
  have mi4 : m_i 0 i 4 = i + 4 := m_i0 (by omega) (by omega)
  have mi5 : m_i 0 i 5 = i + 5 := m_i0 (by omega) (by omega)
  have n2 := nx μ2 h2 e2
  rw [t197_33]
  simp only [B197_33, Classical.not_not, Prod.mk.injEq, m_l, m_lp, m_lq, m_ps, m_ws, m_en, List.replicate, if_true, if_false, reduceIte, true_and, and_true, false_and, and_false, true_or, or_true, false_or, or_false, and_self, or_self, not_true_eq_false, not_false_eq_true, ne_eq, Nat.reduceLeDiff, Nat.reduceEqDiff, Nat.reduceAdd, Int.reduceLE, Int.reduceLT, Int.reduceEq, Int.reduceNe, Int.reduceAdd, Int.reduceNeg, Nat.reduceSub, Nat.succ_ne_zero, Nat.not_succ_le_zero, Nat.reduceMul, Int.reduceMul, Int.reduceSub, Int.reduceToNat, Nat.zero_le, Nat.reduceLT, r_0, r_1, r_2, r_3, r_4, r_5, r_6, r_7, r_9, r_10, r_11, r_12, r_13, r_14, r_15, r_16, r_17, r_18, r_19, r_20_0, r_21_0, r_20_1, r_21_1, r_20_2, r_21_2, r_20_3, r_21_3, r_20_4, r_21_4, r_20_5, r_21_5, r_22_0, r_22_1, r_23, r_24, r_25, r_26, r_27, r_28, r_29, r_30_0, r_30_1, r_30_2, r_31, r_31b, r_32, r_33, r_33b, r_33c, r_34, r_34b, r_35, r_45, r_46, r_47_0, r_47_1, r_40, r_50, r_51, r_41_0, r_41_1, r_42, r_43, r_44, r_36_0, r_37_0, r_38_0, r_48_0, r_36_1, r_37_1, r_38_1, r_48_1, r_36_2, r_37_2, r_38_2, r_48_2, r_36_3, r_37_3, r_36_4, r_37_4, r_36_5, r_37_5, r_39, r_8, oc202, ol202, mi1, mi2, mi3, mi4, mi5, c1, e1, c2]
  exact ⟨⟨by omega, by omega⟩, ⟨by omega, by omega⟩, ⟨by omega, by omega⟩, ⟨by omega, by omega⟩, ⟨by omega, by omega⟩, ⟨by omega, by omega⟩, ⟨by omega, by omega⟩, ⟨by omega, by omega⟩, ⟨by omega, by omega⟩, ⟨by omega, by omega⟩, n2⟩
theorem lw_32 {ν : MMem} (h : INV ν) (hS : SCR ν) {i : Int} (h0 : 0 ≤ i) (hi : i + 6 ≤ ν 202 (-1)) {Q : MVal → MMem → Prop} (nx : ∀ ν', INV ν' → ν' 202 = ν 202 → At 197 37 [(11, 202), (9, 0), (10, 47), (0, i)] [] ν' Q) : At 197 34 [(11, 202), (9, 0), (10, 47), (0, i)] [] ν Q := by
  have hl := hS.1
  obtain ⟨μ1, μ2, v, c1, c2, h2, e2, e1⟩ := l_write h (ν 202 (i + 1)) (ν 202 (i + 2))
  have mi1 : m_i 0 i 1 = i + 1 := m_i0 (by omega) (by omega)
  have mi2 : m_i 0 i 2 = i + 2 := m_i0 (by omega) (by omega)
  have n2 := nx μ2 h2 e2
  rw [t197_34]
  simp only [B197_34, Classical.not_not, Prod.mk.injEq, m_l, m_lp, m_lq, m_ps, m_ws, m_en, List.replicate, if_true, if_false, reduceIte, true_and, and_true, false_and, and_false, true_or, or_true, false_or, or_false, and_self, or_self, not_true_eq_false, not_false_eq_true, ne_eq, Nat.reduceLeDiff, Nat.reduceEqDiff, Nat.reduceAdd, Int.reduceLE, Int.reduceLT, Int.reduceEq, Int.reduceNe, Int.reduceAdd, Int.reduceNeg, Nat.reduceSub, Nat.succ_ne_zero, Nat.not_succ_le_zero, Nat.reduceMul, Int.reduceMul, Int.reduceSub, Int.reduceToNat, Nat.zero_le, Nat.reduceLT, r_0, r_1, r_2, r_3, r_4, r_5, r_6, r_7, r_9, r_10, r_11, r_12, r_13, r_14, r_15, r_16, r_17, r_18, r_19, r_20_0, r_21_0, r_20_1, r_21_1, r_20_2, r_21_2, r_20_3, r_21_3, r_20_4, r_21_4, r_20_5, r_21_5, r_22_0, r_22_1, r_23, r_24, r_25, r_26, r_27, r_28, r_29, r_30_0, r_30_1, r_30_2, r_31, r_31b, r_32, r_33, r_33b, r_33c, r_34, r_34b, r_35, r_45, r_46, r_47_0, r_47_1, r_40, r_50, r_51, r_41_0, r_41_1, r_42, r_43, r_44, r_36_0, r_37_0, r_38_0, r_48_0, r_36_1, r_37_1, r_38_1, r_48_1, r_36_2, r_37_2, r_38_2, r_48_2, r_36_3, r_37_3, r_36_4, r_37_4, r_36_5, r_37_5, r_39, r_8, oc202, ol202, mi1, mi2, c1, e1, c2]
  exact ⟨⟨by omega, by omega⟩, ⟨by omega, by omega⟩, ⟨by omega, by omega⟩, ⟨by omega, by omega⟩, n2⟩
theorem lw_33 {ν : MMem} (h : INV ν) (hS : SCR ν) {i : Int} (h0 : 0 ≤ i) (hi : i + 6 ≤ ν 202 (-1)) {Q : MVal → MMem → Prop} (nx : ∀ ν', INV ν' → ν' 202 = ν 202 → At 197 37 [(11, 202), (9, 0), (10, 47), (0, i)] [] ν' Q) : At 197 35 [(11, 202), (9, 0), (10, 47), (0, i)] [] ν Q := by
  have hl := hS.1
  obtain ⟨μ1, μ2, v, c1, c2, h2, e2, e1⟩ := l_count h (ν 202 (i + 1))
  have mi1 : m_i 0 i 1 = i + 1 := m_i0 (by omega) (by omega)
  have n2 := nx μ2 h2 e2
  rw [t197_35]
  simp only [B197_35, Classical.not_not, Prod.mk.injEq, m_l, m_lp, m_lq, m_ps, m_ws, m_en, List.replicate, if_true, if_false, reduceIte, true_and, and_true, false_and, and_false, true_or, or_true, false_or, or_false, and_self, or_self, not_true_eq_false, not_false_eq_true, ne_eq, Nat.reduceLeDiff, Nat.reduceEqDiff, Nat.reduceAdd, Int.reduceLE, Int.reduceLT, Int.reduceEq, Int.reduceNe, Int.reduceAdd, Int.reduceNeg, Nat.reduceSub, Nat.succ_ne_zero, Nat.not_succ_le_zero, Nat.reduceMul, Int.reduceMul, Int.reduceSub, Int.reduceToNat, Nat.zero_le, Nat.reduceLT, r_0, r_1, r_2, r_3, r_4, r_5, r_6, r_7, r_9, r_10, r_11, r_12, r_13, r_14, r_15, r_16, r_17, r_18, r_19, r_20_0, r_21_0, r_20_1, r_21_1, r_20_2, r_21_2, r_20_3, r_21_3, r_20_4, r_21_4, r_20_5, r_21_5, r_22_0, r_22_1, r_23, r_24, r_25, r_26, r_27, r_28, r_29, r_30_0, r_30_1, r_30_2, r_31, r_31b, r_32, r_33, r_33b, r_33c, r_34, r_34b, r_35, r_45, r_46, r_47_0, r_47_1, r_40, r_50, r_51, r_41_0, r_41_1, r_42, r_43, r_44, r_36_0, r_37_0, r_38_0, r_48_0, r_36_1, r_37_1, r_38_1, r_48_1, r_36_2, r_37_2, r_38_2, r_48_2, r_36_3, r_37_3, r_36_4, r_37_4, r_36_5, r_37_5, r_39, r_8, oc202, ol202, mi1, c1, e1, c2]
  exact ⟨⟨by omega, by omega⟩, ⟨by omega, by omega⟩, n2⟩
theorem lw_34 {ν : MMem} (h : INV ν) (hS : SCR ν) {i : Int} (h0 : 0 ≤ i) (hi : i + 6 ≤ ν 202 (-1)) {Q : MVal → MMem → Prop} (nx : ∀ ν', INV ν' → ν' 202 = ν 202 → At 197 37 [(11, 202), (9, 0), (10, 47), (0, i)] [] ν' Q) : At 197 36 [(11, 202), (9, 0), (10, 47), (0, i)] [] ν Q := by
  have hl := hS.1
  obtain ⟨μ1, μ2, v, c1, c2, h2, e2, e1⟩ := l_digest h 
  have n2 := nx μ2 h2 e2
  rw [t197_36]
  simp only [B197_36, Classical.not_not, Prod.mk.injEq, m_l, m_lp, m_lq, m_ps, m_ws, m_en, List.replicate, if_true, if_false, reduceIte, true_and, and_true, false_and, and_false, true_or, or_true, false_or, or_false, and_self, or_self, not_true_eq_false, not_false_eq_true, ne_eq, Nat.reduceLeDiff, Nat.reduceEqDiff, Nat.reduceAdd, Int.reduceLE, Int.reduceLT, Int.reduceEq, Int.reduceNe, Int.reduceAdd, Int.reduceNeg, Nat.reduceSub, Nat.succ_ne_zero, Nat.not_succ_le_zero, Nat.reduceMul, Int.reduceMul, Int.reduceSub, Int.reduceToNat, Nat.zero_le, Nat.reduceLT, r_0, r_1, r_2, r_3, r_4, r_5, r_6, r_7, r_9, r_10, r_11, r_12, r_13, r_14, r_15, r_16, r_17, r_18, r_19, r_20_0, r_21_0, r_20_1, r_21_1, r_20_2, r_21_2, r_20_3, r_21_3, r_20_4, r_21_4, r_20_5, r_21_5, r_22_0, r_22_1, r_23, r_24, r_25, r_26, r_27, r_28, r_29, r_30_0, r_30_1, r_30_2, r_31, r_31b, r_32, r_33, r_33b, r_33c, r_34, r_34b, r_35, r_45, r_46, r_47_0, r_47_1, r_40, r_50, r_51, r_41_0, r_41_1, r_42, r_43, r_44, r_36_0, r_37_0, r_38_0, r_48_0, r_36_1, r_37_1, r_38_1, r_48_1, r_36_2, r_37_2, r_38_2, r_48_2, r_36_3, r_37_3, r_36_4, r_37_4, r_36_5, r_37_5, r_39, r_8, oc202, ol202, c1, e1, c2, cmp_eq]
  exact n2
theorem lw_sw {x : Int} : m_st 0 [2, 3, 4, 5, 6, 7, 8, 9, 10, 11, 12, 13, 14, 15, 16, 17, 18, 19, 20, 21, 22, 23, 24, 25, 26, 27, 28, 29, 30, 31, 32, 33, 34, 35, 36] 37 x = if 0 ≤ x ∧ x < 35 then x.toNat + 2 else 37 := by
  by_cases q : 0 ≤ x ∧ x < 35
  · rw [if_pos q]
    obtain ⟨n, rfl⟩ : ∃ n : Nat, x = n := ⟨x.toNat, by omega⟩
    have : ∀ m : Fin 35, m_st 0 [2, 3, 4, 5, 6, 7, 8, 9, 10, 11, 12, 13, 14, 15, 16, 17, 18, 19, 20, 21, 22, 23, 24, 25, 26, 27, 28, 29, 30, 31, 32, 33, 34, 35, 36] 37 ((m.val : Nat) : Int) = (m.val : Nat) + 2 := by decide +kernel
    exact this ⟨n, by omega⟩
  · rw [if_neg q]
    have ne : ∀ k : Int, 0 ≤ k → k < 35 → ¬ x = k := fun k k0 k1 e => q (by omega)
    simp only [m_st]
    rw [if_neg (ne _ (by decide) (by decide)), if_neg (ne _ (by decide) (by decide)), if_neg (ne _ (by decide) (by decide)), if_neg (ne _ (by decide) (by decide)), if_neg (ne _ (by decide) (by decide)), if_neg (ne _ (by decide) (by decide)), if_neg (ne _ (by decide) (by decide)), if_neg (ne _ (by decide) (by decide)), if_neg (ne _ (by decide) (by decide)), if_neg (ne _ (by decide) (by decide)), if_neg (ne _ (by decide) (by decide)), if_neg (ne _ (by decide) (by decide)), if_neg (ne _ (by decide) (by decide)), if_neg (ne _ (by decide) (by decide)), if_neg (ne _ (by decide) (by decide)), if_neg (ne _ (by decide) (by decide)), if_neg (ne _ (by decide) (by decide)), if_neg (ne _ (by decide) (by decide)), if_neg (ne _ (by decide) (by decide)), if_neg (ne _ (by decide) (by decide)), if_neg (ne _ (by decide) (by decide)), if_neg (ne _ (by decide) (by decide)), if_neg (ne _ (by decide) (by decide)), if_neg (ne _ (by decide) (by decide)), if_neg (ne _ (by decide) (by decide)), if_neg (ne _ (by decide) (by decide)), if_neg (ne _ (by decide) (by decide)), if_neg (ne _ (by decide) (by decide)), if_neg (ne _ (by decide) (by decide)), if_neg (ne _ (by decide) (by decide)), if_neg (ne _ (by decide) (by decide)), if_neg (ne _ (by decide) (by decide)), if_neg (ne _ (by decide) (by decide)), if_neg (ne _ (by decide) (by decide)), if_neg (ne _ (by decide) (by decide))]
theorem lw_step {ν : MMem} (h : INV ν) (hS : SCR ν) {i x : Int} (h0 : 0 ≤ i) (hi : i + 6 ≤ ν 202 (-1)) {Q : MVal → MMem → Prop} (nx : ∀ ν', INV ν' → ν' 202 = ν 202 → At 197 37 [(11, 202), (9, 0), (10, 47), (0, i)] [] ν' Q) : At 197 (m_st 0 [2, 3, 4, 5, 6, 7, 8, 9, 10, 11, 12, 13, 14, 15, 16, 17, 18, 19, 20, 21, 22, 23, 24, 25, 26, 27, 28, 29, 30, 31, 32, 33, 34, 35, 36] 37 x) [(11, 202), (9, 0), (10, 47), (0, i)] [] ν Q := by
  rw [lw_sw]
  by_cases q : 0 ≤ x ∧ x < 35
  · rw [if_pos q]
    have hx : x = 0 ∨ x = 1 ∨ x = 2 ∨ x = 3 ∨ x = 4 ∨ x = 5 ∨ x = 6 ∨ x = 7 ∨ x = 8 ∨ x = 9 ∨ x = 10 ∨ x = 11 ∨ x = 12 ∨ x = 13 ∨ x = 14 ∨ x = 15 ∨ x = 16 ∨ x = 17 ∨ x = 18 ∨ x = 19 ∨ x = 20 ∨ x = 21 ∨ x = 22 ∨ x = 23 ∨ x = 24 ∨ x = 25 ∨ x = 26 ∨ x = 27 ∨ x = 28 ∨ x = 29 ∨ x = 30 ∨ x = 31 ∨ x = 32 ∨ x = 33 ∨ x = 34 := by omega
    rcases hx with rfl | rfl | rfl | rfl | rfl | rfl | rfl | rfl | rfl | rfl | rfl | rfl | rfl | rfl | rfl | rfl | rfl | rfl | rfl | rfl | rfl | rfl | rfl | rfl | rfl | rfl | rfl | rfl | rfl | rfl | rfl | rfl | rfl | rfl | rfl
    · exact lw_0 h hS h0 hi nx
    · exact lw_1 h hS h0 hi nx
    · exact lw_2 h hS h0 hi nx
    · exact lw_3 h hS h0 hi nx
    · exact lw_4 h hS h0 hi nx
    · exact lw_5 h hS h0 hi nx
    · exact lw_6 h hS h0 hi nx
    · exact lw_7 h hS h0 hi nx
    · exact lw_8 h hS h0 hi nx
    · exact lw_9 h hS h0 hi nx
    · exact lw_10 h hS h0 hi nx
    · exact lw_11 h hS h0 hi nx
    · exact lw_12 h hS h0 hi nx
    · exact lw_13 h hS h0 hi nx
    · exact lw_14 h hS h0 hi nx
    · exact lw_15 h hS h0 hi nx
    · exact lw_16 h hS h0 hi nx
    · exact lw_17 h hS h0 hi nx
    · exact lw_18 h hS h0 hi nx
    · exact lw_19 h hS h0 hi nx
    · exact lw_20 h hS h0 hi nx
    · exact lw_21 h hS h0 hi nx
    · exact lw_22 h hS h0 hi nx
    · exact lw_23 h hS h0 hi nx
    · exact lw_24 h hS h0 hi nx
    · exact lw_25 h hS h0 hi nx
    · exact lw_26 h hS h0 hi nx
    · exact lw_27 h hS h0 hi nx
    · exact lw_28 h hS h0 hi nx
    · exact lw_29 h hS h0 hi nx
    · exact lw_30 h hS h0 hi nx
    · exact lw_31 h hS h0 hi nx
    · exact lw_32 h hS h0 hi nx
    · exact lw_33 h hS h0 hi nx
    · exact lw_34 h hS h0 hi nx
  · rw [if_neg q]
    exact nx ν h rfl
theorem law_loop {μ : MMem} (hS : SCR μ) {Q : MVal → MMem → Prop} (h : ∀ ν, INV ν → ν 202 = μ 202 → Q (0, 1) ν) : ∀ (d : Nat) (i : Int) (ν : MMem), INV ν → ν 202 = μ 202 → 0 ≤ i → i ≤ μ 202 (-1) → μ 202 (-1) < i + 6 * d + 6 → At 197 1 [(11, 202), (9, 0), (10, 47), (0, i)] [] ν Q := by
  have hl := hS.1
  intro d
  induction d with
  | zero =>
    intro i ν hI e i0 i1 i2
    have := h ν hI e
    have m6 : m_i 1 (μ 202 (-1)) 6 = μ 202 (-1) - 6 := m_i1 (by omega) (by omega)
    rw [t197_1]
    simp only [B197_1, t197_38, B197_38, Classical.not_not, Prod.mk.injEq, m_l, m_lp, m_lq, m_ps, m_ws, m_en, List.replicate, if_true, if_false, reduceIte, true_and, and_true, false_and, and_false, true_or, or_true, false_or, or_false, and_self, or_self, not_true_eq_false, not_false_eq_true, ne_eq, Nat.reduceLeDiff, Nat.reduceEqDiff, Nat.reduceAdd, Int.reduceLE, Int.reduceLT, Int.reduceEq, Int.reduceNe, Int.reduceAdd, Int.reduceNeg, Nat.reduceSub, Nat.succ_ne_zero, Nat.not_succ_le_zero, Nat.reduceMul, Int.reduceMul, Int.reduceSub, Int.reduceToNat, Nat.zero_le, Nat.reduceLT, r_0, r_1, r_2, r_3, r_4, r_5, r_6, r_7, r_9, r_10, r_11, r_12, r_13, r_14, r_15, r_16, r_17, r_18, r_19, r_20_0, r_21_0, r_20_1, r_21_1, r_20_2, r_21_2, r_20_3, r_21_3, r_20_4, r_21_4, r_20_5, r_21_5, r_22_0, r_22_1, r_23, r_24, r_25, r_26, r_27, r_28, r_29, r_30_0, r_30_1, r_30_2, r_31, r_31b, r_32, r_33, r_33b, r_33c, r_34, r_34b, r_35, r_45, r_46, r_47_0, r_47_1, r_40, r_50, r_51, r_41_0, r_41_1, r_42, r_43, r_44, r_36_0, r_37_0, r_38_0, r_48_0, r_36_1, r_37_1, r_38_1, r_48_1, r_36_2, r_37_2, r_38_2, r_48_2, r_36_3, r_37_3, r_36_4, r_37_4, r_36_5, r_37_5, r_39, r_8, ol202, e, m6]
    rw [if_pos (by omega)]
    exact this
  | succ d ih =>
    intro i ν hI e i0 i1 i2
    have m6 : m_i 1 (μ 202 (-1)) 6 = μ 202 (-1) - 6 := m_i1 (by omega) (by omega)
    by_cases q : μ 202 (-1) - 6 < i
    · have := h ν hI e
      rw [t197_1]
      simp only [B197_1, t197_38, B197_38, Classical.not_not, Prod.mk.injEq, m_l, m_lp, m_lq, m_ps, m_ws, m_en, List.replicate, if_true, if_false, reduceIte, true_and, and_true, false_and, and_false, true_or, or_true, false_or, or_false, and_self, or_self, not_true_eq_false, not_false_eq_true, ne_eq, Nat.reduceLeDiff, Nat.reduceEqDiff, Nat.reduceAdd, Int.reduceLE, Int.reduceLT, Int.reduceEq, Int.reduceNe, Int.reduceAdd, Int.reduceNeg, Nat.reduceSub, Nat.succ_ne_zero, Nat.not_succ_le_zero, Nat.reduceMul, Int.reduceMul, Int.reduceSub, Int.reduceToNat, Nat.zero_le, Nat.reduceLT, r_0, r_1, r_2, r_3, r_4, r_5, r_6, r_7, r_9, r_10, r_11, r_12, r_13, r_14, r_15, r_16, r_17, r_18, r_19, r_20_0, r_21_0, r_20_1, r_21_1, r_20_2, r_21_2, r_20_3, r_21_3, r_20_4, r_21_4, r_20_5, r_21_5, r_22_0, r_22_1, r_23, r_24, r_25, r_26, r_27, r_28, r_29, r_30_0, r_30_1, r_30_2, r_31, r_31b, r_32, r_33, r_33b, r_33c, r_34, r_34b, r_35, r_45, r_46, r_47_0, r_47_1, r_40, r_50, r_51, r_41_0, r_41_1, r_42, r_43, r_44, r_36_0, r_37_0, r_38_0, r_48_0, r_36_1, r_37_1, r_38_1, r_48_1, r_36_2, r_37_2, r_38_2, r_48_2, r_36_3, r_37_3, r_36_4, r_37_4, r_36_5, r_37_5, r_39, r_8, ol202, e, m6]
      rw [if_pos q]
      exact this
    · have hS2 : SCR ν := by
        unfold SCR at *
        rw [e]
        exact hS
      have st := fun x => lw_step hI hS2 (x := x) i0 (by rw [e]; omega) (Q := Q) (fun ν' h' e' => by
        have m66 : m_i 0 i 6 = i + 6 := m_i0 (by omega) (by omega)
        rw [t197_37]
        simp only [B197_37, Classical.not_not, Prod.mk.injEq, m_l, m_lp, m_lq, m_ps, m_ws, m_en, List.replicate, if_true, if_false, reduceIte, true_and, and_true, false_and, and_false, true_or, or_true, false_or, or_false, and_self, or_self, not_true_eq_false, not_false_eq_true, ne_eq, Nat.reduceLeDiff, Nat.reduceEqDiff, Nat.reduceAdd, Int.reduceLE, Int.reduceLT, Int.reduceEq, Int.reduceNe, Int.reduceAdd, Int.reduceNeg, Nat.reduceSub, Nat.succ_ne_zero, Nat.not_succ_le_zero, Nat.reduceMul, Int.reduceMul, Int.reduceSub, Int.reduceToNat, Nat.zero_le, Nat.reduceLT, r_0, r_1, r_2, r_3, r_4, r_5, r_6, r_7, r_9, r_10, r_11, r_12, r_13, r_14, r_15, r_16, r_17, r_18, r_19, r_20_0, r_21_0, r_20_1, r_21_1, r_20_2, r_21_2, r_20_3, r_21_3, r_20_4, r_21_4, r_20_5, r_21_5, r_22_0, r_22_1, r_23, r_24, r_25, r_26, r_27, r_28, r_29, r_30_0, r_30_1, r_30_2, r_31, r_31b, r_32, r_33, r_33b, r_33c, r_34, r_34b, r_35, r_45, r_46, r_47_0, r_47_1, r_40, r_50, r_51, r_41_0, r_41_1, r_42, r_43, r_44, r_36_0, r_37_0, r_38_0, r_48_0, r_36_1, r_37_1, r_38_1, r_48_1, r_36_2, r_37_2, r_38_2, r_48_2, r_36_3, r_37_3, r_36_4, r_37_4, r_36_5, r_37_5, r_39, r_8, m66]
        exact ih (i + 6) ν' h' (e'.trans e) (by omega) (by omega) (by push_cast at i2; omega))
      rw [t197_1]
      simp only [B197_1, t197_38, B197_38, Classical.not_not, Prod.mk.injEq, m_l, m_lp, m_lq, m_ps, m_ws, m_en, List.replicate, if_true, if_false, reduceIte, true_and, and_true, false_and, and_false, true_or, or_true, false_or, or_false, and_self, or_self, not_true_eq_false, not_false_eq_true, ne_eq, Nat.reduceLeDiff, Nat.reduceEqDiff, Nat.reduceAdd, Int.reduceLE, Int.reduceLT, Int.reduceEq, Int.reduceNe, Int.reduceAdd, Int.reduceNeg, Nat.reduceSub, Nat.succ_ne_zero, Nat.not_succ_le_zero, Nat.reduceMul, Int.reduceMul, Int.reduceSub, Int.reduceToNat, Nat.zero_le, Nat.reduceLT, r_0, r_1, r_2, r_3, r_4, r_5, r_6, r_7, r_9, r_10, r_11, r_12, r_13, r_14, r_15, r_16, r_17, r_18, r_19, r_20_0, r_21_0, r_20_1, r_21_1, r_20_2, r_21_2, r_20_3, r_21_3, r_20_4, r_21_4, r_20_5, r_21_5, r_22_0, r_22_1, r_23, r_24, r_25, r_26, r_27, r_28, r_29, r_30_0, r_30_1, r_30_2, r_31, r_31b, r_32, r_33, r_33b, r_33c, r_34, r_34b, r_35, r_45, r_46, r_47_0, r_47_1, r_40, r_50, r_51, r_41_0, r_41_1, r_42, r_43, r_44, r_36_0, r_37_0, r_38_0, r_48_0, r_36_1, r_37_1, r_38_1, r_48_1, r_36_2, r_37_2, r_38_2, r_48_2, r_36_3, r_37_3, r_36_4, r_37_4, r_36_5, r_37_5, r_39, r_8, ol202, oc202, e, m6]
      rw [if_neg q]
      exact ⟨by omega, st _⟩
theorem law_all {μ : MMem} (hI : INV μ) (hS : SCR μ) : At 197 0 [(11, 202), (9, 0), (10, 47), (14, 0)] [] μ (fun r ν => r = (0, 1)) := by
  have hl := hS.1
  rw [t197_0]
  simp only [B197_0, Classical.not_not, Prod.mk.injEq, m_l, m_lp, m_lq, m_ps, m_ws, m_en, List.replicate, if_true, if_false, reduceIte, true_and, and_true, false_and, and_false, true_or, or_true, false_or, or_false, and_self, or_self, not_true_eq_false, not_false_eq_true, ne_eq, Nat.reduceLeDiff, Nat.reduceEqDiff, Nat.reduceAdd, Int.reduceLE, Int.reduceLT, Int.reduceEq, Int.reduceNe, Int.reduceAdd, Int.reduceNeg, Nat.reduceSub, Nat.succ_ne_zero, Nat.not_succ_le_zero, Nat.reduceMul, Int.reduceMul, Int.reduceSub, Int.reduceToNat, Nat.zero_le, Nat.reduceLT, r_0, r_1, r_2, r_3, r_4, r_5, r_6, r_7, r_9, r_10, r_11, r_12, r_13, r_14, r_15, r_16, r_17, r_18, r_19, r_20_0, r_21_0, r_20_1, r_21_1, r_20_2, r_21_2, r_20_3, r_21_3, r_20_4, r_21_4, r_20_5, r_21_5, r_22_0, r_22_1, r_23, r_24, r_25, r_26, r_27, r_28, r_29, r_30_0, r_30_1, r_30_2, r_31, r_31b, r_32, r_33, r_33b, r_33c, r_34, r_34b, r_35, r_45, r_46, r_47_0, r_47_1, r_40, r_50, r_51, r_41_0, r_41_1, r_42, r_43, r_44, r_36_0, r_37_0, r_38_0, r_48_0, r_36_1, r_37_1, r_38_1, r_48_1, r_36_2, r_37_2, r_38_2, r_48_2, r_36_3, r_37_3, r_36_4, r_37_4, r_36_5, r_37_5, r_39, r_8]
  exact law_loop hS (fun ν _ _ => rfl) (μ 202 (-1)).toNat 0 μ hI rfl (by omega) (by omega) (by omega)
