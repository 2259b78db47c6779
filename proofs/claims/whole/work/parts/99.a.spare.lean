theorem d_sp11 {T : MMem} (hT : TW T) (h3 : T 0 3 = 0) (h0 : ow T 0 ≠ 0) (h1 : s1N T (ne T) = -1) {a : Nat} (ha : a < ne T) (h2 : s3N T a = -1) {μ : MMem} (hD : DT μ T) {i : Int} {Q : MVal → MMem → Prop} (hr : ∀ μ', FX μ μ' → Q (0, spS T i) μ') (h : ∀ (ν : MMem) (u : MVal), FX μ ν → s3N T (a + 1) = -1 → At 171 10 [(10, 47), (0, i), (0, (a : Int) + 1), u] [] ν Q) : ∀ (d b : Nat) (ν : MMem), b + d = ne T → a < b → FX μ ν → s2N T a b = -1 → At 171 11 [(10, 47), (0, i), (0, (a : Int)), (0, (b : Int))] [] ν Q := by
  have h8 := hT.2.2.1
  have hn : (ne T : Int) = T 0 2 := by unfold ne; omega
  intro d
  induction d with
  | zero =>
    intro b ν hb hab hF hs
    have e : b = ne T := by omega
    subst e
    have e11 := (hD.fx hF).2.2.1
    have := h ν (0, ((ne T : Nat) : Int)) hF (by rw [s3N, if_pos h2, if_neg (fun q => q hs)])
    rw [t171_11]
    simp only [t171_0, t171_1, t171_2, t171_3, t171_5, t171_6, t171_7, t171_8, t171_9, t171_12, t171_13, t171_14, t171_15, t171_16, t171_17, B171_0, B171_1, B171_2, B171_3, B171_4, B171_5, B171_6, B171_7, B171_8, B171_9, B171_10, B171_11, B171_12, B171_13, B171_14, B171_15, B171_16, B171_17, Classical.not_not, Prod.mk.injEq, m_l, m_lp, m_lq, m_ps, m_ws, m_en, List.replicate, if_true, if_false, reduceIte, true_and, and_true, false_and, and_false, true_or, or_true, false_or, or_false, and_self, or_self, not_true_eq_false, not_false_eq_true, ne_eq, Nat.reduceLeDiff, Nat.reduceEqDiff, Nat.reduceAdd, Int.reduceLE, Int.reduceLT, Int.reduceEq, Int.reduceNe, Int.reduceAdd, Int.reduceNeg, Nat.reduceSub, Nat.succ_ne_zero, Nat.not_succ_le_zero, Nat.reduceMul, Int.reduceMul, Int.reduceSub, Int.reduceToNat, Nat.zero_le, Nat.reduceLT, r_0, r_1, r_2, r_3, r_4, r_5, r_6, r_7, r_9, r_10, r_11, r_12, r_13, r_14, r_15, r_16, r_17, r_18, r_19, r_20_0, r_21_0, r_20_1, r_21_1, r_20_2, r_21_2, r_20_3, r_21_3, r_20_4, r_21_4, r_20_5, r_21_5, r_22_0, r_22_1, r_23, r_24, r_25, r_26, r_27, r_28, r_29, r_30_0, r_30_1, r_30_2, r_31, r_31b, r_32, r_33, r_33b, r_33c, r_34, r_34b, r_35, r_45, r_46, r_47_0, r_47_1, r_40, r_50, r_51, r_41_0, r_41_1, r_42, r_43, r_44, r_36_0, r_37_0, r_38_0, r_48_0, r_36_1, r_37_1, r_38_1, r_48_1, r_36_2, r_37_2, r_38_2, r_48_2, r_36_3, r_37_3, r_36_4, r_37_4, r_36_5, r_37_5, r_39, r_8, al_13, al_14, al_15, al_16, al_18, al_19, al_25, al_26, al_27, al_28, al_29, al_30, al_31, al_32, al_33, al_34, al_35, al_36, al_37, al_38, al_39, al_40, al_41, al_42, al_43, al_44, al_45, al_46, al_48, al_49, al_50, al_51, al_52, al_53, al_54, al_55, al_56, al_57, al_58, al_59, al_60, al_61, al_62, al_63, al_64, al_65, al_66, al_67, al_68, al_69, al_70, rf_0_0, rf_0_1, rf_0_2, rf_0_3, rf_0_4, rf_0_5, rf_0_6, rf_0_7, rf_0_8, rf_0_10, rf_0_11, rf_1_0, rf_1_1, rf_1_2, rf_2_0, rf_2_1, rf_2_2, rf_3_0, rf_3_1, rf_3_2, rf_4_0, rf_4_1, rf_4_2, rf_5_0, rf_5_1, rf_5_2, rf_6_0, rf_6_1, rf_7_0, rf_7_1, rf_8_0, rf_8_1, rf_8_5, rf_8_6, rf_8_7, rf_8_8, rf_8_9, rf_9_0, rf_10_0, rf_11_0, rf_12_0, rf_47_0, rf_47_1, rf_47_2, rf_47_3, rf_47_5, rf_47_6, rf_47_8, rf_47_10, rf_47_12, rf_47_14, rf_47_15, rf_47_16, rf_47_17, rf_47_18, rf_47_19, rf_47_20, rf_47_21, rf_47_22, rf_47_23, rf_47_24, rf_47_26, rf_47_27, rf_47_29, rf_17, rf_20, rf_21, rf_22, rf_23, rf_24, rl_17, rl_20, rl_21, rl_22, rl_23, rl_24, e11]
    rw [if_pos (by omega), m_i0 (by omega) (by omega)]
    exact this
  | succ d ih =>
    intro b ν hb hab hF hs
    have hD1 := hD.fx hF
    have e11 := hD1.2.2.1
    obtain ⟨μ1, f1, c1⟩ := d_isSpared ν hT hD1 h3 (m_i 4 (sh1 a) (sh1 b))
    have ih := ih (b + 1) μ1 (by omega) (by omega) (hF.tr f1)
    have mb : m_i 0 b 1 = (b : Int) + 1 := m_i0 (by omega) (by omega)
    have e11' := (hD1.fx f1).2.2.1
    rw [t171_11]
    unfold sh1 at c1
    by_cases hz : ow T (m_i 4 (sh1 a) (sh1 b)) = 0
    · have e1 : s2N T a (b + 1) = b := by rw [s2N, if_pos hs, if_pos ⟨by omega, hz⟩]
      have e2 : s2N T a (ne T) = b := by
        have := s2N_up e1 (by omega) d
        rw [show b + 1 + d = ne T by omega] at this
        exact this
      have e4 : s3N T (a + 1) = a := by rw [s3N, if_pos h2, if_pos (by omega)]
      have e5 : s3N T (ne T) = a := by
        have := s3N_up e4 (by omega) (ne T - (a + 1))
        rw [show a + 1 + (ne T - (a + 1)) = ne T by omega] at this
        exact this
      have := hr μ1 (hF.tr f1)
      unfold spS at this
      rw [if_neg h0, if_neg (fun q => q h1), e5, if_pos (by omega), e2] at this
      unfold sh1 at hz
      simp only [t171_0, t171_1, t171_2, t171_3, t171_5, t171_6, t171_7, t171_8, t171_9, t171_12, t171_13, t171_14, t171_15, t171_16, t171_17, B171_0, B171_1, B171_2, B171_3, B171_4, B171_5, B171_6, B171_7, B171_8, B171_9, B171_10, B171_11, B171_12, B171_13, B171_14, B171_15, B171_16, B171_17, Classical.not_not, Prod.mk.injEq, m_l, m_lp, m_lq, m_ps, m_ws, m_en, List.replicate, if_true, if_false, reduceIte, true_and, and_true, false_and, and_false, true_or, or_true, false_or, or_false, and_self, or_self, not_true_eq_false, not_false_eq_true, ne_eq, Nat.reduceLeDiff, Nat.reduceEqDiff, Nat.reduceAdd, Int.reduceLE, Int.reduceLT, Int.reduceEq, Int.reduceNe, Int.reduceAdd, Int.reduceNeg, Nat.reduceSub, Nat.succ_ne_zero, Nat.not_succ_le_zero, Nat.reduceMul, Int.reduceMul, Int.reduceSub, Int.reduceToNat, Nat.zero_le, Nat.reduceLT, r_0, r_1, r_2, r_3, r_4, r_5, r_6, r_7, r_9, r_10, r_11, r_12, r_13, r_14, r_15, r_16, r_17, r_18, r_19, r_20_0, r_21_0, r_20_1, r_21_1, r_20_2, r_21_2, r_20_3, r_21_3, r_20_4, r_21_4, r_20_5, r_21_5, r_22_0, r_22_1, r_23, r_24, r_25, r_26, r_27, r_28, r_29, r_30_0, r_30_1, r_30_2, r_31, r_31b, r_32, r_33, r_33b, r_33c, r_34, r_34b, r_35, r_45, r_46, r_47_0, r_47_1, r_40, r_50, r_51, r_41_0, r_41_1, r_42, r_43, r_44, r_36_0, r_37_0, r_38_0, r_48_0, r_36_1, r_37_1, r_38_1, r_48_1, r_36_2, r_37_2, r_38_2, r_48_2, r_36_3, r_37_3, r_36_4, r_37_4, r_36_5, r_37_5, r_39, r_8, al_13, al_14, al_15, al_16, al_18, al_19, al_25, al_26, al_27, al_28, al_29, al_30, al_31, al_32, al_33, al_34, al_35, al_36, al_37, al_38, al_39, al_40, al_41, al_42, al_43, al_44, al_45, al_46, al_48, al_49, al_50, al_51, al_52, al_53, al_54, al_55, al_56, al_57, al_58, al_59, al_60, al_61, al_62, al_63, al_64, al_65, al_66, al_67, al_68, al_69, al_70, rf_0_0, rf_0_1, rf_0_2, rf_0_3, rf_0_4, rf_0_5, rf_0_6, rf_0_7, rf_0_8, rf_0_10, rf_0_11, rf_1_0, rf_1_1, rf_1_2, rf_2_0, rf_2_1, rf_2_2, rf_3_0, rf_3_1, rf_3_2, rf_4_0, rf_4_1, rf_4_2, rf_5_0, rf_5_1, rf_5_2, rf_6_0, rf_6_1, rf_7_0, rf_7_1, rf_8_0, rf_8_1, rf_8_5, rf_8_6, rf_8_7, rf_8_8, rf_8_9, rf_9_0, rf_10_0, rf_11_0, rf_12_0, rf_47_0, rf_47_1, rf_47_2, rf_47_3, rf_47_5, rf_47_6, rf_47_8, rf_47_10, rf_47_12, rf_47_14, rf_47_15, rf_47_16, rf_47_17, rf_47_18, rf_47_19, rf_47_20, rf_47_21, rf_47_22, rf_47_23, rf_47_24, rf_47_26, rf_47_27, rf_47_29, rf_17, rf_20, rf_21, rf_22, rf_23, rf_24, rl_17, rl_20, rl_21, rl_22, rl_23, rl_24, e11, c1, hz]
      rw [if_neg (by omega)]
      grind
    · have := ih (by rw [s2N, if_pos hs, if_neg (fun q => hz q.2)])
      push_cast at this
      unfold sh1 at hz
      simp only [t171_0, t171_1, t171_2, t171_3, t171_5, t171_6, t171_7, t171_8, t171_9, t171_12, t171_13, t171_14, t171_15, t171_16, t171_17, B171_0, B171_1, B171_2, B171_3, B171_4, B171_5, B171_6, B171_7, B171_8, B171_9, B171_10, B171_11, B171_12, B171_13, B171_14, B171_15, B171_16, B171_17, Classical.not_not, Prod.mk.injEq, m_l, m_lp, m_lq, m_ps, m_ws, m_en, List.replicate, if_true, if_false, reduceIte, true_and, and_true, false_and, and_false, true_or, or_true, false_or, or_false, and_self, or_self, not_true_eq_false, not_false_eq_true, ne_eq, Nat.reduceLeDiff, Nat.reduceEqDiff, Nat.reduceAdd, Int.reduceLE, Int.reduceLT, Int.reduceEq, Int.reduceNe, Int.reduceAdd, Int.reduceNeg, Nat.reduceSub, Nat.succ_ne_zero, Nat.not_succ_le_zero, Nat.reduceMul, Int.reduceMul, Int.reduceSub, Int.reduceToNat, Nat.zero_le, Nat.reduceLT, r_0, r_1, r_2, r_3, r_4, r_5, r_6, r_7, r_9, r_10, r_11, r_12, r_13, r_14, r_15, r_16, r_17, r_18, r_19, r_20_0, r_21_0, r_20_1, r_21_1, r_20_2, r_21_2, r_20_3, r_21_3, r_20_4, r_21_4, r_20_5, r_21_5, r_22_0, r_22_1, r_23, r_24, r_25, r_26, r_27, r_28, r_29, r_30_0, r_30_1, r_30_2, r_31, r_31b, r_32, r_33, r_33b, r_33c, r_34, r_34b, r_35, r_45, r_46, r_47_0, r_47_1, r_40, r_50, r_51, r_41_0, r_41_1, r_42, r_43, r_44, r_36_0, r_37_0, r_38_0, r_48_0, r_36_1, r_37_1, r_38_1, r_48_1, r_36_2, r_37_2, r_38_2, r_48_2, r_36_3, r_37_3, r_36_4, r_37_4, r_36_5, r_37_5, r_39, r_8, al_13, al_14, al_15, al_16, al_18, al_19, al_25, al_26, al_27, al_28, al_29, al_30, al_31, al_32, al_33, al_34, al_35, al_36, al_37, al_38, al_39, al_40, al_41, al_42, al_43, al_44, al_45, al_46, al_48, al_49, al_50, al_51, al_52, al_53, al_54, al_55, al_56, al_57, al_58, al_59, al_60, al_61, al_62, al_63, al_64, al_65, al_66, al_67, al_68, al_69, al_70, rf_0_0, rf_0_1, rf_0_2, rf_0_3, rf_0_4, rf_0_5, rf_0_6, rf_0_7, rf_0_8, rf_0_10, rf_0_11, rf_1_0, rf_1_1, rf_1_2, rf_2_0, rf_2_1, rf_2_2, rf_3_0, rf_3_1, rf_3_2, rf_4_0, rf_4_1, rf_4_2, rf_5_0, rf_5_1, rf_5_2, rf_6_0, rf_6_1, rf_7_0, rf_7_1, rf_8_0, rf_8_1, rf_8_5, rf_8_6, rf_8_7, rf_8_8, rf_8_9, rf_9_0, rf_10_0, rf_11_0, rf_12_0, rf_47_0, rf_47_1, rf_47_2, rf_47_3, rf_47_5, rf_47_6, rf_47_8, rf_47_10, rf_47_12, rf_47_14, rf_47_15, rf_47_16, rf_47_17, rf_47_18, rf_47_19, rf_47_20, rf_47_21, rf_47_22, rf_47_23, rf_47_24, rf_47_26, rf_47_27, rf_47_29, rf_17, rf_20, rf_21, rf_22, rf_23, rf_24, rl_17, rl_20, rl_21, rl_22, rl_23, rl_24, e11, c1, hz, mb]
      rw [if_neg (by omega)]
      exact this
theorem d_sp10 {T : MMem} (hT : TW T) (h3 : T 0 3 = 0) (h0 : ow T 0 ≠ 0) (h1 : s1N T (ne T) = -1) {μ : MMem} (hD : DT μ T) {i : Int} {Q : MVal → MMem → Prop} (hr : ∀ μ', FX μ μ' → Q (0, spS T i) μ') : ∀ (d b : Nat) (ν : MMem) (u : MVal), b + d = ne T → FX μ ν → s3N T b = -1 → At 171 10 [(10, 47), (0, i), (0, (b : Int)), u] [] ν Q := by
  have h8 := hT.2.2.1
  have hn : (ne T : Int) = T 0 2 := by unfold ne; omega
  intro d
  induction d with
  | zero =>
    intro b ν u hb hF hs
    have e : b = ne T := by omega
    subst e
    have e11 := (hD.fx hF).2.2.1
    have := hr ν hF
    unfold spS at this
    rw [if_neg h0, if_neg (fun q => q h1), if_neg (fun q => q hs)] at this
    rw [t171_10]
    simp only [t171_0, t171_1, t171_2, t171_3, t171_5, t171_6, t171_7, t171_8, t171_9, t171_12, t171_13, t171_14, t171_15, t171_16, t171_17, B171_0, B171_1, B171_2, B171_3, B171_4, B171_5, B171_6, B171_7, B171_8, B171_9, B171_10, B171_11, B171_12, B171_13, B171_14, B171_15, B171_16, B171_17, Classical.not_not, Prod.mk.injEq, m_l, m_lp, m_lq, m_ps, m_ws, m_en, List.replicate, if_true, if_false, reduceIte, true_and, and_true, false_and, and_false, true_or, or_true, false_or, or_false, and_self, or_self, not_true_eq_false, not_false_eq_true, ne_eq, Nat.reduceLeDiff, Nat.reduceEqDiff, Nat.reduceAdd, Int.reduceLE, Int.reduceLT, Int.reduceEq, Int.reduceNe, Int.reduceAdd, Int.reduceNeg, Nat.reduceSub, Nat.succ_ne_zero, Nat.not_succ_le_zero, Nat.reduceMul, Int.reduceMul, Int.reduceSub, Int.reduceToNat, Nat.zero_le, Nat.reduceLT, r_0, r_1, r_2, r_3, r_4, r_5, r_6, r_7, r_9, r_10, r_11, r_12, r_13, r_14, r_15, r_16, r_17, r_18, r_19, r_20_0, r_21_0, r_20_1, r_21_1, r_20_2, r_21_2, r_20_3, r_21_3, r_20_4, r_21_4, r_20_5, r_21_5, r_22_0, r_22_1, r_23, r_24, r_25, r_26, r_27, r_28, r_29, r_30_0, r_30_1, r_30_2, r_31, r_31b, r_32, r_33, r_33b, r_33c, r_34, r_34b, r_35, r_45, r_46, r_47_0, r_47_1, r_40, r_50, r_51, r_41_0, r_41_1, r_42, r_43, r_44, r_36_0, r_37_0, r_38_0, r_48_0, r_36_1, r_37_1, r_38_1, r_48_1, r_36_2, r_37_2, r_38_2, r_48_2, r_36_3, r_37_3, r_36_4, r_37_4, r_36_5, r_37_5, r_39, r_8, al_13, al_14, al_15, al_16, al_18, al_19, al_25, al_26, al_27, al_28, al_29, al_30, al_31, al_32, al_33, al_34, al_35, al_36, al_37, al_38, al_39, al_40, al_41, al_42, al_43, al_44, al_45, al_46, al_48, al_49, al_50, al_51, al_52, al_53, al_54, al_55, al_56, al_57, al_58, al_59, al_60, al_61, al_62, al_63, al_64, al_65, al_66, al_67, al_68, al_69, al_70, rf_0_0, rf_0_1, rf_0_2, rf_0_3, rf_0_4, rf_0_5, rf_0_6, rf_0_7, rf_0_8, rf_0_10, rf_0_11, rf_1_0, rf_1_1, rf_1_2, rf_2_0, rf_2_1, rf_2_2, rf_3_0, rf_3_1, rf_3_2, rf_4_0, rf_4_1, rf_4_2, rf_5_0, rf_5_1, rf_5_2, rf_6_0, rf_6_1, rf_7_0, rf_7_1, rf_8_0, rf_8_1, rf_8_5, rf_8_6, rf_8_7, rf_8_8, rf_8_9, rf_9_0, rf_10_0, rf_11_0, rf_12_0, rf_47_0, rf_47_1, rf_47_2, rf_47_3, rf_47_5, rf_47_6, rf_47_8, rf_47_10, rf_47_12, rf_47_14, rf_47_15, rf_47_16, rf_47_17, rf_47_18, rf_47_19, rf_47_20, rf_47_21, rf_47_22, rf_47_23, rf_47_24, rf_47_26, rf_47_27, rf_47_29, rf_17, rf_20, rf_21, rf_22, rf_23, rf_24, rl_17, rl_20, rl_21, rl_22, rl_23, rl_24, e11]
    rw [if_pos (by omega)]
    exact this
  | succ d ih =>
    intro b ν u hb hF hs
    have e11 := (hD.fx hF).2.2.1
    rw [t171_10]
    simp only [t171_0, t171_1, t171_2, t171_3, t171_5, t171_6, t171_7, t171_8, t171_9, t171_12, t171_13, t171_14, t171_15, t171_16, t171_17, B171_0, B171_1, B171_2, B171_3, B171_4, B171_5, B171_6, B171_7, B171_8, B171_9, B171_10, B171_11, B171_12, B171_13, B171_14, B171_15, B171_16, B171_17, Classical.not_not, Prod.mk.injEq, m_l, m_lp, m_lq, m_ps, m_ws, m_en, List.replicate, if_true, if_false, reduceIte, true_and, and_true, false_and, and_false, true_or, or_true, false_or, or_false, and_self, or_self, not_true_eq_false, not_false_eq_true, ne_eq, Nat.reduceLeDiff, Nat.reduceEqDiff, Nat.reduceAdd, Int.reduceLE, Int.reduceLT, Int.reduceEq, Int.reduceNe, Int.reduceAdd, Int.reduceNeg, Nat.reduceSub, Nat.succ_ne_zero, Nat.not_succ_le_zero, Nat.reduceMul, Int.reduceMul, Int.reduceSub, Int.reduceToNat, Nat.zero_le, Nat.reduceLT, r_0, r_1, r_2, r_3, r_4, r_5, r_6, r_7, r_9, r_10, r_11, r_12, r_13, r_14, r_15, r_16, r_17, r_18, r_19, r_20_0, r_21_0, r_20_1, r_21_1, r_20_2, r_21_2, r_20_3, r_21_3, r_20_4, r_21_4, r_20_5, r_21_5, r_22_0, r_22_1, r_23, r_24, r_25, r_26, r_27, r_28, r_29, r_30_0, r_30_1, r_30_2, r_31, r_31b, r_32, r_33, r_33b, r_33c, r_34, r_34b, r_35, r_45, r_46, r_47_0, r_47_1, r_40, r_50, r_51, r_41_0, r_41_1, r_42, r_43, r_44, r_36_0, r_37_0, r_38_0, r_48_0, r_36_1, r_37_1, r_38_1, r_48_1, r_36_2, r_37_2, r_38_2, r_48_2, r_36_3, r_37_3, r_36_4, r_37_4, r_36_5, r_37_5, r_39, r_8, al_13, al_14, al_15, al_16, al_18, al_19, al_25, al_26, al_27, al_28, al_29, al_30, al_31, al_32, al_33, al_34, al_35, al_36, al_37, al_38, al_39, al_40, al_41, al_42, al_43, al_44, al_45, al_46, al_48, al_49, al_50, al_51, al_52, al_53, al_54, al_55, al_56, al_57, al_58, al_59, al_60, al_61, al_62, al_63, al_64, al_65, al_66, al_67, al_68, al_69, al_70, rf_0_0, rf_0_1, rf_0_2, rf_0_3, rf_0_4, rf_0_5, rf_0_6, rf_0_7, rf_0_8, rf_0_10, rf_0_11, rf_1_0, rf_1_1, rf_1_2, rf_2_0, rf_2_1, rf_2_2, rf_3_0, rf_3_1, rf_3_2, rf_4_0, rf_4_1, rf_4_2, rf_5_0, rf_5_1, rf_5_2, rf_6_0, rf_6_1, rf_7_0, rf_7_1, rf_8_0, rf_8_1, rf_8_5, rf_8_6, rf_8_7, rf_8_8, rf_8_9, rf_9_0, rf_10_0, rf_11_0, rf_12_0, rf_47_0, rf_47_1, rf_47_2, rf_47_3, rf_47_5, rf_47_6, rf_47_8, rf_47_10, rf_47_12, rf_47_14, rf_47_15, rf_47_16, rf_47_17, rf_47_18, rf_47_19, rf_47_20, rf_47_21, rf_47_22, rf_47_23, rf_47_24, rf_47_26, rf_47_27, rf_47_29, rf_17, rf_20, rf_21, rf_22, rf_23, rf_24, rl_17, rl_20, rl_21, rl_22, rl_23, rl_24, e11]
    rw [if_neg (by omega), m_i0 (by omega) (by omega)]
    have := d_sp11 hT h3 h0 h1 (a := b) (by omega) hs hD (i := i) hr (fun ν' u' f s => by
      have := ih (b + 1) ν' u' (by omega) f s
      push_cast at this
      exact this) (ne T - (b + 1)) (b + 1) ν (by omega) (by omega) hF (s2N_le _ (by omega))
    push_cast at this
    exact this
theorem d_sp4 {T : MMem} (hT : TW T) (h3 : T 0 3 = 0) (h0 : ow T 0 ≠ 0) {μ : MMem} (hD : DT μ T) {i : Int} {Q : MVal → MMem → Prop} (hr : ∀ μ', FX μ μ' → Q (0, spS T i) μ') {u : MVal} : ∀ (d b : Nat) (ν : MMem), b + d = ne T → FX μ ν → s1N T b = -1 → At 171 4 [(10, 47), (0, i), (0, (b : Int)), u] [] ν Q := by
  have h8 := hT.2.2.1
  have hn : (ne T : Int) = T 0 2 := by unfold ne; omega
  intro d
  induction d with
  | zero =>
    intro b ν hb hF hs
    have e : b = ne T := by omega
    subst e
    have e11 := (hD.fx hF).2.2.1
    have := d_sp10 hT h3 h0 hs hD (i := i) hr (ne T) 0 ν u (by omega) hF rfl
    rw [t171_4]
    simp only [t171_0, t171_1, t171_2, t171_3, t171_5, t171_6, t171_7, t171_8, t171_9, t171_12, t171_13, t171_14, t171_15, t171_16, t171_17, B171_0, B171_1, B171_2, B171_3, B171_4, B171_5, B171_6, B171_7, B171_8, B171_9, B171_10, B171_11, B171_12, B171_13, B171_14, B171_15, B171_16, B171_17, Classical.not_not, Prod.mk.injEq, m_l, m_lp, m_lq, m_ps, m_ws, m_en, List.replicate, if_true, if_false, reduceIte, true_and, and_true, false_and, and_false, true_or, or_true, false_or, or_false, and_self, or_self, not_true_eq_false, not_false_eq_true, ne_eq, Nat.reduceLeDiff, Nat.reduceEqDiff, Nat.reduceAdd, Int.reduceLE, Int.reduceLT, Int.reduceEq, Int.reduceNe, Int.reduceAdd, Int.reduceNeg, Nat.reduceSub, Nat.succ_ne_zero, Nat.not_succ_le_zero, Nat.reduceMul, Int.reduceMul, Int.reduceSub, Int.reduceToNat, Nat.zero_le, Nat.reduceLT, r_0, r_1, r_2, r_3, r_4, r_5, r_6, r_7, r_9, r_10, r_11, r_12, r_13, r_14, r_15, r_16, r_17, r_18, r_19, r_20_0, r_21_0, r_20_1, r_21_1, r_20_2, r_21_2, r_20_3, r_21_3, r_20_4, r_21_4, r_20_5, r_21_5, r_22_0, r_22_1, r_23, r_24, r_25, r_26, r_27, r_28, r_29, r_30_0, r_30_1, r_30_2, r_31, r_31b, r_32, r_33, r_33b, r_33c, r_34, r_34b, r_35, r_45, r_46, r_47_0, r_47_1, r_40, r_50, r_51, r_41_0, r_41_1, r_42, r_43, r_44, r_36_0, r_37_0, r_38_0, r_48_0, r_36_1, r_37_1, r_38_1, r_48_1, r_36_2, r_37_2, r_38_2, r_48_2, r_36_3, r_37_3, r_36_4, r_37_4, r_36_5, r_37_5, r_39, r_8, al_13, al_14, al_15, al_16, al_18, al_19, al_25, al_26, al_27, al_28, al_29, al_30, al_31, al_32, al_33, al_34, al_35, al_36, al_37, al_38, al_39, al_40, al_41, al_42, al_43, al_44, al_45, al_46, al_48, al_49, al_50, al_51, al_52, al_53, al_54, al_55, al_56, al_57, al_58, al_59, al_60, al_61, al_62, al_63, al_64, al_65, al_66, al_67, al_68, al_69, al_70, rf_0_0, rf_0_1, rf_0_2, rf_0_3, rf_0_4, rf_0_5, rf_0_6, rf_0_7, rf_0_8, rf_0_10, rf_0_11, rf_1_0, rf_1_1, rf_1_2, rf_2_0, rf_2_1, rf_2_2, rf_3_0, rf_3_1, rf_3_2, rf_4_0, rf_4_1, rf_4_2, rf_5_0, rf_5_1, rf_5_2, rf_6_0, rf_6_1, rf_7_0, rf_7_1, rf_8_0, rf_8_1, rf_8_5, rf_8_6, rf_8_7, rf_8_8, rf_8_9, rf_9_0, rf_10_0, rf_11_0, rf_12_0, rf_47_0, rf_47_1, rf_47_2, rf_47_3, rf_47_5, rf_47_6, rf_47_8, rf_47_10, rf_47_12, rf_47_14, rf_47_15, rf_47_16, rf_47_17, rf_47_18, rf_47_19, rf_47_20, rf_47_21, rf_47_22, rf_47_23, rf_47_24, rf_47_26, rf_47_27, rf_47_29, rf_17, rf_20, rf_21, rf_22, rf_23, rf_24, rl_17, rl_20, rl_21, rl_22, rl_23, rl_24, e11]
    rw [if_pos (by omega)]
    exact this
  | succ d ih =>
    intro b ν hb hF hs
    have hD1 := hD.fx hF
    have e11 := hD1.2.2.1
    obtain ⟨μ1, f1, c1⟩ := d_isSpared ν hT hD1 h3 (sh1 b)
    have ih := ih (b + 1) μ1 (by omega) (hF.tr f1)
    have mb : m_i 0 b 1 = (b : Int) + 1 := m_i0 (by omega) (by omega)
    rw [t171_4]
    unfold sh1 at c1
    by_cases hz : ow T (sh1 b) = 0
    · have e1 : s1N T (b + 1) = b := by rw [s1N, if_pos hs, if_pos hz]
      have e2 : s1N T (ne T) = b := by
        have := s1N_up e1 (by omega) d
        rw [show b + 1 + d = ne T by omega] at this
        exact this
      have := hr μ1 (hF.tr f1)
      unfold spS at this
      rw [if_neg h0, e2, if_pos (by omega)] at this
      unfold sh1 at hz
      simp only [t171_0, t171_1, t171_2, t171_3, t171_5, t171_6, t171_7, t171_8, t171_9, t171_12, t171_13, t171_14, t171_15, t171_16, t171_17, B171_0, B171_1, B171_2, B171_3, B171_4, B171_5, B171_6, B171_7, B171_8, B171_9, B171_10, B171_11, B171_12, B171_13, B171_14, B171_15, B171_16, B171_17, Classical.not_not, Prod.mk.injEq, m_l, m_lp, m_lq, m_ps, m_ws, m_en, List.replicate, if_true, if_false, reduceIte, true_and, and_true, false_and, and_false, true_or, or_true, false_or, or_false, and_self, or_self, not_true_eq_false, not_false_eq_true, ne_eq, Nat.reduceLeDiff, Nat.reduceEqDiff, Nat.reduceAdd, Int.reduceLE, Int.reduceLT, Int.reduceEq, Int.reduceNe, Int.reduceAdd, Int.reduceNeg, Nat.reduceSub, Nat.succ_ne_zero, Nat.not_succ_le_zero, Nat.reduceMul, Int.reduceMul, Int.reduceSub, Int.reduceToNat, Nat.zero_le, Nat.reduceLT, r_0, r_1, r_2, r_3, r_4, r_5, r_6, r_7, r_9, r_10, r_11, r_12, r_13, r_14, r_15, r_16, r_17, r_18, r_19, r_20_0, r_21_0, r_20_1, r_21_1, r_20_2, r_21_2, r_20_3, r_21_3, r_20_4, r_21_4, r_20_5, r_21_5, r_22_0, r_22_1, r_23, r_24, r_25, r_26, r_27, r_28, r_29, r_30_0, r_30_1, r_30_2, r_31, r_31b, r_32, r_33, r_33b, r_33c, r_34, r_34b, r_35, r_45, r_46, r_47_0, r_47_1, r_40, r_50, r_51, r_41_0, r_41_1, r_42, r_43, r_44, r_36_0, r_37_0, r_38_0, r_48_0, r_36_1, r_37_1, r_38_1, r_48_1, r_36_2, r_37_2, r_38_2, r_48_2, r_36_3, r_37_3, r_36_4, r_37_4, r_36_5, r_37_5, r_39, r_8, al_13, al_14, al_15, al_16, al_18, al_19, al_25, al_26, al_27, al_28, al_29, al_30, al_31, al_32, al_33, al_34, al_35, al_36, al_37, al_38, al_39, al_40, al_41, al_42, al_43, al_44, al_45, al_46, al_48, al_49, al_50, al_51, al_52, al_53, al_54, al_55, al_56, al_57, al_58, al_59, al_60, al_61, al_62, al_63, al_64, al_65, al_66, al_67, al_68, al_69, al_70, rf_0_0, rf_0_1, rf_0_2, rf_0_3, rf_0_4, rf_0_5, rf_0_6, rf_0_7, rf_0_8, rf_0_10, rf_0_11, rf_1_0, rf_1_1, rf_1_2, rf_2_0, rf_2_1, rf_2_2, rf_3_0, rf_3_1, rf_3_2, rf_4_0, rf_4_1, rf_4_2, rf_5_0, rf_5_1, rf_5_2, rf_6_0, rf_6_1, rf_7_0, rf_7_1, rf_8_0, rf_8_1, rf_8_5, rf_8_6, rf_8_7, rf_8_8, rf_8_9, rf_9_0, rf_10_0, rf_11_0, rf_12_0, rf_47_0, rf_47_1, rf_47_2, rf_47_3, rf_47_5, rf_47_6, rf_47_8, rf_47_10, rf_47_12, rf_47_14, rf_47_15, rf_47_16, rf_47_17, rf_47_18, rf_47_19, rf_47_20, rf_47_21, rf_47_22, rf_47_23, rf_47_24, rf_47_26, rf_47_27, rf_47_29, rf_17, rf_20, rf_21, rf_22, rf_23, rf_24, rl_17, rl_20, rl_21, rl_22, rl_23, rl_24, e11, c1, hz]
      rw [if_neg (by omega)]
      grind
    · have := ih (by rw [s1N, if_pos hs, if_neg hz])
      push_cast at this
      unfold sh1 at hz
      simp only [t171_0, t171_1, t171_2, t171_3, t171_5, t171_6, t171_7, t171_8, t171_9, t171_12, t171_13, t171_14, t171_15, t171_16, t171_17, B171_0, B171_1, B171_2, B171_3, B171_4, B171_5, B171_6, B171_7, B171_8, B171_9, B171_10, B171_11, B171_12, B171_13, B171_14, B171_15, B171_16, B171_17, Classical.not_not, Prod.mk.injEq, m_l, m_lp, m_lq, m_ps, m_ws, m_en, List.replicate, if_true, if_false, reduceIte, true_and, and_true, false_and, and_false, true_or, or_true, false_or, or_false, and_self, or_self, not_true_eq_false, not_false_eq_true, ne_eq, Nat.reduceLeDiff, Nat.reduceEqDiff, Nat.reduceAdd, Int.reduceLE, Int.reduceLT, Int.reduceEq, Int.reduceNe, Int.reduceAdd, Int.reduceNeg, Nat.reduceSub, Nat.succ_ne_zero, Nat.not_succ_le_zero, Nat.reduceMul, Int.reduceMul, Int.reduceSub, Int.reduceToNat, Nat.zero_le, Nat.reduceLT, r_0, r_1, r_2, r_3, r_4, r_5, r_6, r_7, r_9, r_10, r_11, r_12, r_13, r_14, r_15, r_16, r_17, r_18, r_19, r_20_0, r_21_0, r_20_1, r_21_1, r_20_2, r_21_2, r_20_3, r_21_3, r_20_4, r_21_4, r_20_5, r_21_5, r_22_0, r_22_1, r_23, r_24, r_25, r_26, r_27, r_28, r_29, r_30_0, r_30_1, r_30_2, r_31, r_31b, r_32, r_33, r_33b, r_33c, r_34, r_34b, r_35, r_45, r_46, r_47_0, r_47_1, r_40, r_50, r_51, r_41_0, r_41_1, r_42, r_43, r_44, r_36_0, r_37_0, r_38_0, r_48_0, r_36_1, r_37_1, r_38_1, r_48_1, r_36_2, r_37_2, r_38_2, r_48_2, r_36_3, r_37_3, r_36_4, r_37_4, r_36_5, r_37_5, r_39, r_8, al_13, al_14, al_15, al_16, al_18, al_19, al_25, al_26, al_27, al_28, al_29, al_30, al_31, al_32, al_33, al_34, al_35, al_36, al_37, al_38, al_39, al_40, al_41, al_42, al_43, al_44, al_45, al_46, al_48, al_49, al_50, al_51, al_52, al_53, al_54, al_55, al_56, al_57, al_58, al_59, al_60, al_61, al_62, al_63, al_64, al_65, al_66, al_67, al_68, al_69, al_70, rf_0_0, rf_0_1, rf_0_2, rf_0_3, rf_0_4, rf_0_5, rf_0_6, rf_0_7, rf_0_8, rf_0_10, rf_0_11, rf_1_0, rf_1_1, rf_1_2, rf_2_0, rf_2_1, rf_2_2, rf_3_0, rf_3_1, rf_3_2, rf_4_0, rf_4_1, rf_4_2, rf_5_0, rf_5_1, rf_5_2, rf_6_0, rf_6_1, rf_7_0, rf_7_1, rf_8_0, rf_8_1, rf_8_5, rf_8_6, rf_8_7, rf_8_8, rf_8_9, rf_9_0, rf_10_0, rf_11_0, rf_12_0, rf_47_0, rf_47_1, rf_47_2, rf_47_3, rf_47_5, rf_47_6, rf_47_8, rf_47_10, rf_47_12, rf_47_14, rf_47_15, rf_47_16, rf_47_17, rf_47_18, rf_47_19, rf_47_20, rf_47_21, rf_47_22, rf_47_23, rf_47_24, rf_47_26, rf_47_27, rf_47_29, rf_17, rf_20, rf_21, rf_22, rf_23, rf_24, rl_17, rl_20, rl_21, rl_22, rl_23, rl_24, e11, c1, hz, mb]
      rw [if_neg (by omega)]
      exact this
theorem d_spareBy {T : MMem} (μ : MMem) (hT : TW T) (h3 : T 0 3 = 0) (hD : DT μ T) (i : Int) : ∃ μ' : MMem, FX μ μ' ∧ ∀ Q : MVal → MMem → Prop, Cal 171 [(10, 47), (0, i)] μ Q = Q (0, spS T i) μ' := by
  refine cal_ex (P := fun μ' => FX μ μ') rfl ?_
  show Rn 171 B171_0 [(10, 47), (0, i), (14, 0), (14, 0)] [] μ _
  obtain ⟨μ1, f1, c1⟩ := d_isSpared μ hT hD h3 0
  by_cases h0 : ow T 0 = 0
  · simp only [t171_0, t171_1, t171_2, t171_3, t171_5, t171_6, t171_7, t171_8, t171_9, t171_12, t171_13, t171_14, t171_15, t171_16, t171_17, B171_0, B171_1, B171_2, B171_3, B171_4, B171_5, B171_6, B171_7, B171_8, B171_9, B171_10, B171_11, B171_12, B171_13, B171_14, B171_15, B171_16, B171_17, Classical.not_not, Prod.mk.injEq, m_l, m_lp, m_lq, m_ps, m_ws, m_en, List.replicate, if_true, if_false, reduceIte, true_and, and_true, false_and, and_false, true_or, or_true, false_or, or_false, and_self, or_self, not_true_eq_false, not_false_eq_true, ne_eq, Nat.reduceLeDiff, Nat.reduceEqDiff, Nat.reduceAdd, Int.reduceLE, Int.reduceLT, Int.reduceEq, Int.reduceNe, Int.reduceAdd, Int.reduceNeg, Nat.reduceSub, Nat.succ_ne_zero, Nat.not_succ_le_zero, Nat.reduceMul, Int.reduceMul, Int.reduceSub, Int.reduceToNat, Nat.zero_le, Nat.reduceLT, r_0, r_1, r_2, r_3, r_4, r_5, r_6, r_7, r_9, r_10, r_11, r_12, r_13, r_14, r_15, r_16, r_17, r_18, r_19, r_20_0, r_21_0, r_20_1, r_21_1, r_20_2, r_21_2, r_20_3, r_21_3, r_20_4, r_21_4, r_20_5, r_21_5, r_22_0, r_22_1, r_23, r_24, r_25, r_26, r_27, r_28, r_29, r_30_0, r_30_1, r_30_2, r_31, r_31b, r_32, r_33, r_33b, r_33c, r_34, r_34b, r_35, r_45, r_46, r_47_0, r_47_1, r_40, r_50, r_51, r_41_0, r_41_1, r_42, r_43, r_44, r_36_0, r_37_0, r_38_0, r_48_0, r_36_1, r_37_1, r_38_1, r_48_1, r_36_2, r_37_2, r_38_2, r_48_2, r_36_3, r_37_3, r_36_4, r_37_4, r_36_5, r_37_5, r_39, r_8, al_13, al_14, al_15, al_16, al_18, al_19, al_25, al_26, al_27, al_28, al_29, al_30, al_31, al_32, al_33, al_34, al_35, al_36, al_37, al_38, al_39, al_40, al_41, al_42, al_43, al_44, al_45, al_46, al_48, al_49, al_50, al_51, al_52, al_53, al_54, al_55, al_56, al_57, al_58, al_59, al_60, al_61, al_62, al_63, al_64, al_65, al_66, al_67, al_68, al_69, al_70, rf_0_0, rf_0_1, rf_0_2, rf_0_3, rf_0_4, rf_0_5, rf_0_6, rf_0_7, rf_0_8, rf_0_10, rf_0_11, rf_1_0, rf_1_1, rf_1_2, rf_2_0, rf_2_1, rf_2_2, rf_3_0, rf_3_1, rf_3_2, rf_4_0, rf_4_1, rf_4_2, rf_5_0, rf_5_1, rf_5_2, rf_6_0, rf_6_1, rf_7_0, rf_7_1, rf_8_0, rf_8_1, rf_8_5, rf_8_6, rf_8_7, rf_8_8, rf_8_9, rf_9_0, rf_10_0, rf_11_0, rf_12_0, rf_47_0, rf_47_1, rf_47_2, rf_47_3, rf_47_5, rf_47_6, rf_47_8, rf_47_10, rf_47_12, rf_47_14, rf_47_15, rf_47_16, rf_47_17, rf_47_18, rf_47_19, rf_47_20, rf_47_21, rf_47_22, rf_47_23, rf_47_24, rf_47_26, rf_47_27, rf_47_29, rf_17, rf_20, rf_21, rf_22, rf_23, rf_24, rl_17, rl_20, rl_21, rl_22, rl_23, rl_24, c1, h0]
    unfold spS
    rw [if_pos h0]
    grind
  · simp only [t171_0, t171_1, t171_2, t171_3, t171_5, t171_6, t171_7, t171_8, t171_9, t171_12, t171_13, t171_14, t171_15, t171_16, t171_17, B171_0, B171_1, B171_2, B171_3, B171_4, B171_5, B171_6, B171_7, B171_8, B171_9, B171_10, B171_11, B171_12, B171_13, B171_14, B171_15, B171_16, B171_17, Classical.not_not, Prod.mk.injEq, m_l, m_lp, m_lq, m_ps, m_ws, m_en, List.replicate, if_true, if_false, reduceIte, true_and, and_true, false_and, and_false, true_or, or_true, false_or, or_false, and_self, or_self, not_true_eq_false, not_false_eq_true, ne_eq, Nat.reduceLeDiff, Nat.reduceEqDiff, Nat.reduceAdd, Int.reduceLE, Int.reduceLT, Int.reduceEq, Int.reduceNe, Int.reduceAdd, Int.reduceNeg, Nat.reduceSub, Nat.succ_ne_zero, Nat.not_succ_le_zero, Nat.reduceMul, Int.reduceMul, Int.reduceSub, Int.reduceToNat, Nat.zero_le, Nat.reduceLT, r_0, r_1, r_2, r_3, r_4, r_5, r_6, r_7, r_9, r_10, r_11, r_12, r_13, r_14, r_15, r_16, r_17, r_18, r_19, r_20_0, r_21_0, r_20_1, r_21_1, r_20_2, r_21_2, r_20_3, r_21_3, r_20_4, r_21_4, r_20_5, r_21_5, r_22_0, r_22_1, r_23, r_24, r_25, r_26, r_27, r_28, r_29, r_30_0, r_30_1, r_30_2, r_31, r_31b, r_32, r_33, r_33b, r_33c, r_34, r_34b, r_35, r_45, r_46, r_47_0, r_47_1, r_40, r_50, r_51, r_41_0, r_41_1, r_42, r_43, r_44, r_36_0, r_37_0, r_38_0, r_48_0, r_36_1, r_37_1, r_38_1, r_48_1, r_36_2, r_37_2, r_38_2, r_48_2, r_36_3, r_37_3, r_36_4, r_37_4, r_36_5, r_37_5, r_39, r_8, al_13, al_14, al_15, al_16, al_18, al_19, al_25, al_26, al_27, al_28, al_29, al_30, al_31, al_32, al_33, al_34, al_35, al_36, al_37, al_38, al_39, al_40, al_41, al_42, al_43, al_44, al_45, al_46, al_48, al_49, al_50, al_51, al_52, al_53, al_54, al_55, al_56, al_57, al_58, al_59, al_60, al_61, al_62, al_63, al_64, al_65, al_66, al_67, al_68, al_69, al_70, rf_0_0, rf_0_1, rf_0_2, rf_0_3, rf_0_4, rf_0_5, rf_0_6, rf_0_7, rf_0_8, rf_0_10, rf_0_11, rf_1_0, rf_1_1, rf_1_2, rf_2_0, rf_2_1, rf_2_2, rf_3_0, rf_3_1, rf_3_2, rf_4_0, rf_4_1, rf_4_2, rf_5_0, rf_5_1, rf_5_2, rf_6_0, rf_6_1, rf_7_0, rf_7_1, rf_8_0, rf_8_1, rf_8_5, rf_8_6, rf_8_7, rf_8_8, rf_8_9, rf_9_0, rf_10_0, rf_11_0, rf_12_0, rf_47_0, rf_47_1, rf_47_2, rf_47_3, rf_47_5, rf_47_6, rf_47_8, rf_47_10, rf_47_12, rf_47_14, rf_47_15, rf_47_16, rf_47_17, rf_47_18, rf_47_19, rf_47_20, rf_47_21, rf_47_22, rf_47_23, rf_47_24, rf_47_26, rf_47_27, rf_47_29, rf_17, rf_20, rf_21, rf_22, rf_23, rf_24, rl_17, rl_20, rl_21, rl_22, rl_23, rl_24, c1, h0]
    exact d_sp4 hT h3 h0 hD (fun μ' f => ⟨rfl, f⟩) (ne T) 0 μ1 (by omega) f1 rfl
/-- sights of the reference -/
def DS (μ T : MMem) : Prop := (0 ≤ T 0 4 ∧ T 0 4 ≤ 8) ∧ μ 47 25 = T 0 4 ∧ ∀ j, 0 ≤ j → j < T 0 4 → (μ 68 (3 * j) = T 10 j ∧ μ 68 (3 * j + 1) = T 11 j ∧ μ 68 (3 * j + 2) = T 12 j) ∧ (0 ≤ T 10 j ∧ T 10 j < 24) ∧ (0 ≤ T 11 j ∧ T 11 j < 6)
theorem DS.fr {μ ν T T' : MMem} (h : DS μ T) (h68 : ν 68 = μ 68) (h25 : ν 47 25 = μ 47 25) (e4 : T' 0 4 = T 0 4) (e10 : T' 10 = T 10) (e11 : T' 11 = T 11) (e12 : T' 12 = T 12) : DS ν T' := by
  unfold DS at *
  rw [h68, h25, e4, e10, e11, e12]
  exact h
theorem d_seeL {μ T : MMem} (hT : TW T) (hD : DT μ T) (hS : DS μ T) (hL : LV μ T) {Q : MVal → MMem → Prop} (h : Q (0, if seB T (ns T) then 1 else 0) μ) : ∀ (d b : Nat) (u : MVal), b + d = ns T → At 175 1 [(10, 47), (0, if seB T b then 1 else 0), (0, (b : Int)), u] [] μ Q := by
  obtain ⟨h8, h25, hr⟩ := hS
  have hn : (ns T : Int) = T 0 4 := by unfold ns; omega
  have h6 := hT.1
  have h7 := hD.1
  intro d
  induction d with
  | zero =>
    intro b u hb
    have e : b = ns T := by omega
    subst e
    rw [t175_1]
    simp only [t175_0, t175_2, t175_3, t175_4, B175_0, B175_1, B175_2, B175_3, B175_4, Classical.not_not, Prod.mk.injEq, m_l, m_lp, m_lq, m_ps, m_ws, m_en, List.replicate, if_true, if_false, reduceIte, true_and, and_true, false_and, and_false, true_or, or_true, false_or, or_false, and_self, or_self, not_true_eq_false, not_false_eq_true, ne_eq, Nat.reduceLeDiff, Nat.reduceEqDiff, Nat.reduceAdd, Int.reduceLE, Int.reduceLT, Int.reduceEq, Int.reduceNe, Int.reduceAdd, Int.reduceNeg, Nat.reduceSub, Nat.succ_ne_zero, Nat.not_succ_le_zero, Nat.reduceMul, Int.reduceMul, Int.reduceSub, Int.reduceToNat, Nat.zero_le, Nat.reduceLT, r_0, r_1, r_2, r_3, r_4, r_5, r_6, r_7, r_9, r_10, r_11, r_12, r_13, r_14, r_15, r_16, r_17, r_18, r_19, r_20_0, r_21_0, r_20_1, r_21_1, r_20_2, r_21_2, r_20_3, r_21_3, r_20_4, r_21_4, r_20_5, r_21_5, r_22_0, r_22_1, r_23, r_24, r_25, r_26, r_27, r_28, r_29, r_30_0, r_30_1, r_30_2, r_31, r_31b, r_32, r_33, r_33b, r_33c, r_34, r_34b, r_35, r_45, r_46, r_47_0, r_47_1, r_40, r_50, r_51, r_41_0, r_41_1, r_42, r_43, r_44, r_36_0, r_37_0, r_38_0, r_48_0, r_36_1, r_37_1, r_38_1, r_48_1, r_36_2, r_37_2, r_38_2, r_48_2, r_36_3, r_37_3, r_36_4, r_37_4, r_36_5, r_37_5, r_39, r_8, al_13, al_14, al_15, al_16, al_18, al_19, al_25, al_26, al_27, al_28, al_29, al_30, al_31, al_32, al_33, al_34, al_35, al_36, al_37, al_38, al_39, al_40, al_41, al_42, al_43, al_44, al_45, al_46, al_48, al_49, al_50, al_51, al_52, al_53, al_54, al_55, al_56, al_57, al_58, al_59, al_60, al_61, al_62, al_63, al_64, al_65, al_66, al_67, al_68, al_69, al_70, rf_0_0, rf_0_1, rf_0_2, rf_0_3, rf_0_4, rf_0_5, rf_0_6, rf_0_7, rf_0_8, rf_0_10, rf_0_11, rf_1_0, rf_1_1, rf_1_2, rf_2_0, rf_2_1, rf_2_2, rf_3_0, rf_3_1, rf_3_2, rf_4_0, rf_4_1, rf_4_2, rf_5_0, rf_5_1, rf_5_2, rf_6_0, rf_6_1, rf_7_0, rf_7_1, rf_8_0, rf_8_1, rf_8_5, rf_8_6, rf_8_7, rf_8_8, rf_8_9, rf_9_0, rf_10_0, rf_11_0, rf_12_0, rf_47_0, rf_47_1, rf_47_2, rf_47_3, rf_47_5, rf_47_6, rf_47_8, rf_47_10, rf_47_12, rf_47_14, rf_47_15, rf_47_16, rf_47_17, rf_47_18, rf_47_19, rf_47_20, rf_47_21, rf_47_22, rf_47_23, rf_47_24, rf_47_26, rf_47_27, rf_47_29, rf_17, rf_20, rf_21, rf_22, rf_23, rf_24, rl_17, rl_20, rl_21, rl_22, rl_23, rl_24, h25, b01]
    rw [if_pos (by omega)]
    exact h
  | succ d ih =>
    intro b u hb
    have ih := fun u' => ih (b + 1) u' (by omega)
    obtain ⟨⟨r1, r2, r3⟩, r4, r5⟩ := hr b (by omega) (by omega)
    have m3 : m_i 2 3 b = 3 * (b : Int) := m_i2 (by omega) (by omega)
    have m31 : m_i 0 (3 * (b : Int)) 1 = 3 * (b : Int) + 1 := m_i0 (by omega) (by omega)
    have m32 : m_i 0 (3 * (b : Int)) 2 = 3 * (b : Int) + 2 := m_i0 (by omega) (by omega)
    have mb : m_i 0 b 1 = (b : Int) + 1 := m_i0 (by omega) (by omega)
    have ch := d_isHouse μ (T 11 b) (by omega)
    rw [h7] at ch
    rw [seB] at ih
    push_cast at ih
    rw [t175_1]
    cases hs : seB T b with
    | false =>
      rw [hs] at ih
      simp only [t175_0, t175_2, t175_3, t175_4, B175_0, B175_1, B175_2, B175_3, B175_4, Classical.not_not, Prod.mk.injEq, m_l, m_lp, m_lq, m_ps, m_ws, m_en, List.replicate, if_true, if_false, reduceIte, true_and, and_true, false_and, and_false, true_or, or_true, false_or, or_false, and_self, or_self, not_true_eq_false, not_false_eq_true, ne_eq, Nat.reduceLeDiff, Nat.reduceEqDiff, Nat.reduceAdd, Int.reduceLE, Int.reduceLT, Int.reduceEq, Int.reduceNe, Int.reduceAdd, Int.reduceNeg, Nat.reduceSub, Nat.succ_ne_zero, Nat.not_succ_le_zero, Nat.reduceMul, Int.reduceMul, Int.reduceSub, Int.reduceToNat, Nat.zero_le, Nat.reduceLT, r_0, r_1, r_2, r_3, r_4, r_5, r_6, r_7, r_9, r_10, r_11, r_12, r_13, r_14, r_15, r_16, r_17, r_18, r_19, r_20_0, r_21_0, r_20_1, r_21_1, r_20_2, r_21_2, r_20_3, r_21_3, r_20_4, r_21_4, r_20_5, r_21_5, r_22_0, r_22_1, r_23, r_24, r_25, r_26, r_27, r_28, r_29, r_30_0, r_30_1, r_30_2, r_31, r_31b, r_32, r_33, r_33b, r_33c, r_34, r_34b, r_35, r_45, r_46, r_47_0, r_47_1, r_40, r_50, r_51, r_41_0, r_41_1, r_42, r_43, r_44, r_36_0, r_37_0, r_38_0, r_48_0, r_36_1, r_37_1, r_38_1, r_48_1, r_36_2, r_37_2, r_38_2, r_48_2, r_36_3, r_37_3, r_36_4, r_37_4, r_36_5, r_37_5, r_39, r_8, al_13, al_14, al_15, al_16, al_18, al_19, al_25, al_26, al_27, al_28, al_29, al_30, al_31, al_32, al_33, al_34, al_35, al_36, al_37, al_38, al_39, al_40, al_41, al_42, al_43, al_44, al_45, al_46, al_48, al_49, al_50, al_51, al_52, al_53, al_54, al_55, al_56, al_57, al_58, al_59, al_60, al_61, al_62, al_63, al_64, al_65, al_66, al_67, al_68, al_69, al_70, rf_0_0, rf_0_1, rf_0_2, rf_0_3, rf_0_4, rf_0_5, rf_0_6, rf_0_7, rf_0_8, rf_0_10, rf_0_11, rf_1_0, rf_1_1, rf_1_2, rf_2_0, rf_2_1, rf_2_2, rf_3_0, rf_3_1, rf_3_2, rf_4_0, rf_4_1, rf_4_2, rf_5_0, rf_5_1, rf_5_2, rf_6_0, rf_6_1, rf_7_0, rf_7_1, rf_8_0, rf_8_1, rf_8_5, rf_8_6, rf_8_7, rf_8_8, rf_8_9, rf_9_0, rf_10_0, rf_11_0, rf_12_0, rf_47_0, rf_47_1, rf_47_2, rf_47_3, rf_47_5, rf_47_6, rf_47_8, rf_47_10, rf_47_12, rf_47_14, rf_47_15, rf_47_16, rf_47_17, rf_47_18, rf_47_19, rf_47_20, rf_47_21, rf_47_22, rf_47_23, rf_47_24, rf_47_26, rf_47_27, rf_47_29, rf_17, rf_20, rf_21, rf_22, rf_23, rf_24, rl_17, rl_20, rl_21, rl_22, rl_23, rl_24, h25, m3, m31, m32, mb, r1, r2, r3, Bool.false_eq_true]
      rw [if_neg (by omega)]
      simp only [Bool.false_and, Bool.false_eq_true, if_false] at ih
      exact ⟨by omega, ih _⟩
    | true =>
      rw [hs] at ih
      simp only [Bool.true_and] at ih
      by_cases e2 : T 11 b < T 0 0
      · have cg := d_gapOf μ hT hL (T 10 b).toNat (by omega) (T 11 b) ⟨r5.1, e2⟩
        rw [show (((T 10 b).toNat : Nat) : Int) = T 10 b by omega] at cg
        have es : sOK T b = decide (gap T (sm T ((T 10 b).toNat + 1)) (T 11 b) = T 12 b) := by
          unfold sOK
          simp [e2]
        simp only [t175_0, t175_2, t175_3, t175_4, B175_0, B175_1, B175_2, B175_3, B175_4, Classical.not_not, Prod.mk.injEq, m_l, m_lp, m_lq, m_ps, m_ws, m_en, List.replicate, if_true, if_false, reduceIte, true_and, and_true, false_and, and_false, true_or, or_true, false_or, or_false, and_self, or_self, not_true_eq_false, not_false_eq_true, ne_eq, Nat.reduceLeDiff, Nat.reduceEqDiff, Nat.reduceAdd, Int.reduceLE, Int.reduceLT, Int.reduceEq, Int.reduceNe, Int.reduceAdd, Int.reduceNeg, Nat.reduceSub, Nat.succ_ne_zero, Nat.not_succ_le_zero, Nat.reduceMul, Int.reduceMul, Int.reduceSub, Int.reduceToNat, Nat.zero_le, Nat.reduceLT, r_0, r_1, r_2, r_3, r_4, r_5, r_6, r_7, r_9, r_10, r_11, r_12, r_13, r_14, r_15, r_16, r_17, r_18, r_19, r_20_0, r_21_0, r_20_1, r_21_1, r_20_2, r_21_2, r_20_3, r_21_3, r_20_4, r_21_4, r_20_5, r_21_5, r_22_0, r_22_1, r_23, r_24, r_25, r_26, r_27, r_28, r_29, r_30_0, r_30_1, r_30_2, r_31, r_31b, r_32, r_33, r_33b, r_33c, r_34, r_34b, r_35, r_45, r_46, r_47_0, r_47_1, r_40, r_50, r_51, r_41_0, r_41_1, r_42, r_43, r_44, r_36_0, r_37_0, r_38_0, r_48_0, r_36_1, r_37_1, r_38_1, r_48_1, r_36_2, r_37_2, r_38_2, r_48_2, r_36_3, r_37_3, r_36_4, r_37_4, r_36_5, r_37_5, r_39, r_8, al_13, al_14, al_15, al_16, al_18, al_19, al_25, al_26, al_27, al_28, al_29, al_30, al_31, al_32, al_33, al_34, al_35, al_36, al_37, al_38, al_39, al_40, al_41, al_42, al_43, al_44, al_45, al_46, al_48, al_49, al_50, al_51, al_52, al_53, al_54, al_55, al_56, al_57, al_58, al_59, al_60, al_61, al_62, al_63, al_64, al_65, al_66, al_67, al_68, al_69, al_70, rf_0_0, rf_0_1, rf_0_2, rf_0_3, rf_0_4, rf_0_5, rf_0_6, rf_0_7, rf_0_8, rf_0_10, rf_0_11, rf_1_0, rf_1_1, rf_1_2, rf_2_0, rf_2_1, rf_2_2, rf_3_0, rf_3_1, rf_3_2, rf_4_0, rf_4_1, rf_4_2, rf_5_0, rf_5_1, rf_5_2, rf_6_0, rf_6_1, rf_7_0, rf_7_1, rf_8_0, rf_8_1, rf_8_5, rf_8_6, rf_8_7, rf_8_8, rf_8_9, rf_9_0, rf_10_0, rf_11_0, rf_12_0, rf_47_0, rf_47_1, rf_47_2, rf_47_3, rf_47_5, rf_47_6, rf_47_8, rf_47_10, rf_47_12, rf_47_14, rf_47_15, rf_47_16, rf_47_17, rf_47_18, rf_47_19, rf_47_20, rf_47_21, rf_47_22, rf_47_23, rf_47_24, rf_47_26, rf_47_27, rf_47_29, rf_17, rf_20, rf_21, rf_22, rf_23, rf_24, rl_17, rl_20, rl_21, rl_22, rl_23, rl_24, h25, m3, m31, m32, mb, r1, r2, r3, ch, b0, r5.1, e2, cg]
        rw [if_neg (by omega)]
        refine ⟨by omega, by omega, by omega, ?_⟩
        rw [es] at ih
        by_cases e3 : gap T (sm T ((T 10 b).toNat + 1)) (T 11 b) = T 12 b
        · simp only [e3, decide_true, if_true] at ih
          simp only [e3, Classical.not_not, Prod.mk.injEq, m_l, m_lp, m_lq, m_ps, m_ws, m_en, List.replicate, if_true, if_false, reduceIte, true_and, and_true, false_and, and_false, true_or, or_true, false_or, or_false, and_self, or_self, not_true_eq_false, not_false_eq_true, ne_eq, Nat.reduceLeDiff, Nat.reduceEqDiff, Nat.reduceAdd, Int.reduceLE, Int.reduceLT, Int.reduceEq, Int.reduceNe, Int.reduceAdd, Int.reduceNeg, Nat.reduceSub, Nat.succ_ne_zero, Nat.not_succ_le_zero, Nat.reduceMul, Int.reduceMul, Int.reduceSub, Int.reduceToNat, Nat.zero_le, Nat.reduceLT]
          exact ih _
        · simp only [e3, decide_false, Bool.false_eq_true, if_false] at ih
          simp only [e3, Classical.not_not, Prod.mk.injEq, m_l, m_lp, m_lq, m_ps, m_ws, m_en, List.replicate, if_true, if_false, reduceIte, true_and, and_true, false_and, and_false, true_or, or_true, false_or, or_false, and_self, or_self, not_true_eq_false, not_false_eq_true, ne_eq, Nat.reduceLeDiff, Nat.reduceEqDiff, Nat.reduceAdd, Int.reduceLE, Int.reduceLT, Int.reduceEq, Int.reduceNe, Int.reduceAdd, Int.reduceNeg, Nat.reduceSub, Nat.succ_ne_zero, Nat.not_succ_le_zero, Nat.reduceMul, Int.reduceMul, Int.reduceSub, Int.reduceToNat, Nat.zero_le, Nat.reduceLT]
          exact ih _
      · have es : sOK T b = false := by
          unfold sOK
          simp [e2]
        rw [es] at ih
        simp only [Bool.false_eq_true, if_false] at ih
        simp only [t175_0, t175_2, t175_3, t175_4, B175_0, B175_1, B175_2, B175_3, B175_4, Classical.not_not, Prod.mk.injEq, m_l, m_lp, m_lq, m_ps, m_ws, m_en, List.replicate, if_true, if_false, reduceIte, true_and, and_true, false_and, and_false, true_or, or_true, false_or, or_false, and_self, or_self, not_true_eq_false, not_false_eq_true, ne_eq, Nat.reduceLeDiff, Nat.reduceEqDiff, Nat.reduceAdd, Int.reduceLE, Int.reduceLT, Int.reduceEq, Int.reduceNe, Int.reduceAdd, Int.reduceNeg, Nat.reduceSub, Nat.succ_ne_zero, Nat.not_succ_le_zero, Nat.reduceMul, Int.reduceMul, Int.reduceSub, Int.reduceToNat, Nat.zero_le, Nat.reduceLT, r_0, r_1, r_2, r_3, r_4, r_5, r_6, r_7, r_9, r_10, r_11, r_12, r_13, r_14, r_15, r_16, r_17, r_18, r_19, r_20_0, r_21_0, r_20_1, r_21_1, r_20_2, r_21_2, r_20_3, r_21_3, r_20_4, r_21_4, r_20_5, r_21_5, r_22_0, r_22_1, r_23, r_24, r_25, r_26, r_27, r_28, r_29, r_30_0, r_30_1, r_30_2, r_31, r_31b, r_32, r_33, r_33b, r_33c, r_34, r_34b, r_35, r_45, r_46, r_47_0, r_47_1, r_40, r_50, r_51, r_41_0, r_41_1, r_42, r_43, r_44, r_36_0, r_37_0, r_38_0, r_48_0, r_36_1, r_37_1, r_38_1, r_48_1, r_36_2, r_37_2, r_38_2, r_48_2, r_36_3, r_37_3, r_36_4, r_37_4, r_36_5, r_37_5, r_39, r_8, al_13, al_14, al_15, al_16, al_18, al_19, al_25, al_26, al_27, al_28, al_29, al_30, al_31, al_32, al_33, al_34, al_35, al_36, al_37, al_38, al_39, al_40, al_41, al_42, al_43, al_44, al_45, al_46, al_48, al_49, al_50, al_51, al_52, al_53, al_54, al_55, al_56, al_57, al_58, al_59, al_60, al_61, al_62, al_63, al_64, al_65, al_66, al_67, al_68, al_69, al_70, rf_0_0, rf_0_1, rf_0_2, rf_0_3, rf_0_4, rf_0_5, rf_0_6, rf_0_7, rf_0_8, rf_0_10, rf_0_11, rf_1_0, rf_1_1, rf_1_2, rf_2_0, rf_2_1, rf_2_2, rf_3_0, rf_3_1, rf_3_2, rf_4_0, rf_4_1, rf_4_2, rf_5_0, rf_5_1, rf_5_2, rf_6_0, rf_6_1, rf_7_0, rf_7_1, rf_8_0, rf_8_1, rf_8_5, rf_8_6, rf_8_7, rf_8_8, rf_8_9, rf_9_0, rf_10_0, rf_11_0, rf_12_0, rf_47_0, rf_47_1, rf_47_2, rf_47_3, rf_47_5, rf_47_6, rf_47_8, rf_47_10, rf_47_12, rf_47_14, rf_47_15, rf_47_16, rf_47_17, rf_47_18, rf_47_19, rf_47_20, rf_47_21, rf_47_22, rf_47_23, rf_47_24, rf_47_26, rf_47_27, rf_47_29, rf_17, rf_20, rf_21, rf_22, rf_23, rf_24, rl_17, rl_20, rl_21, rl_22, rl_23, rl_24, h25, m3, m31, m32, mb, r1, r2, r3, ch, b0, r5.1, e2]
        rw [if_neg (by omega)]
        exact ⟨by omega, ih _⟩
theorem d_isSeen {T : MMem} (μ : MMem) (hT : TW T) (hD : DT μ T) (hS : DS μ T) : ∃ μ' : MMem, (FL μ μ' ∧ LV μ' T) ∧ ∀ Q : MVal → MMem → Prop, Cal 175 [(10, 47)] μ Q = Q (0, if seB T (ns T) then 1 else 0) μ' := by
  refine cal_ex (P := fun μ' => FL μ μ' ∧ LV μ' T) rfl ?_
  show Rn 175 B175_0 [(10, 47), (14, 0), (14, 0), (14, 0)] [] μ _
  obtain ⟨μ1, ⟨f1, l1⟩, c1⟩ := d_lives μ hT hD
  simp only [t175_0, t175_2, t175_3, t175_4, B175_0, B175_1, B175_2, B175_3, B175_4, Classical.not_not, Prod.mk.injEq, m_l, m_lp, m_lq, m_ps, m_ws, m_en, List.replicate, if_true, if_false, reduceIte, true_and, and_true, false_and, and_false, true_or, or_true, false_or, or_false, and_self, or_self, not_true_eq_false, not_false_eq_true, ne_eq, Nat.reduceLeDiff, Nat.reduceEqDiff, Nat.reduceAdd, Int.reduceLE, Int.reduceLT, Int.reduceEq, Int.reduceNe, Int.reduceAdd, Int.reduceNeg, Nat.reduceSub, Nat.succ_ne_zero, Nat.not_succ_le_zero, Nat.reduceMul, Int.reduceMul, Int.reduceSub, Int.reduceToNat, Nat.zero_le, Nat.reduceLT, r_0, r_1, r_2, r_3, r_4, r_5, r_6, r_7, r_9, r_10, r_11, r_12, r_13, r_14, r_15, r_16, r_17, r_18, r_19, r_20_0, r_21_0, r_20_1, r_21_1, r_20_2, r_21_2, r_20_3, r_21_3, r_20_4, r_21_4, r_20_5, r_21_5, r_22_0, r_22_1, r_23, r_24, r_25, r_26, r_27, r_28, r_29, r_30_0, r_30_1, r_30_2, r_31, r_31b, r_32, r_33, r_33b, r_33c, r_34, r_34b, r_35, r_45, r_46, r_47_0, r_47_1, r_40, r_50, r_51, r_41_0, r_41_1, r_42, r_43, r_44, r_36_0, r_37_0, r_38_0, r_48_0, r_36_1, r_37_1, r_38_1, r_48_1, r_36_2, r_37_2, r_38_2, r_48_2, r_36_3, r_37_3, r_36_4, r_37_4, r_36_5, r_37_5, r_39, r_8, al_13, al_14, al_15, al_16, al_18, al_19, al_25, al_26, al_27, al_28, al_29, al_30, al_31, al_32, al_33, al_34, al_35, al_36, al_37, al_38, al_39, al_40, al_41, al_42, al_43, al_44, al_45, al_46, al_48, al_49, al_50, al_51, al_52, al_53, al_54, al_55, al_56, al_57, al_58, al_59, al_60, al_61, al_62, al_63, al_64, al_65, al_66, al_67, al_68, al_69, al_70, rf_0_0, rf_0_1, rf_0_2, rf_0_3, rf_0_4, rf_0_5, rf_0_6, rf_0_7, rf_0_8, rf_0_10, rf_0_11, rf_1_0, rf_1_1, rf_1_2, rf_2_0, rf_2_1, rf_2_2, rf_3_0, rf_3_1, rf_3_2, rf_4_0, rf_4_1, rf_4_2, rf_5_0, rf_5_1, rf_5_2, rf_6_0, rf_6_1, rf_7_0, rf_7_1, rf_8_0, rf_8_1, rf_8_5, rf_8_6, rf_8_7, rf_8_8, rf_8_9, rf_9_0, rf_10_0, rf_11_0, rf_12_0, rf_47_0, rf_47_1, rf_47_2, rf_47_3, rf_47_5, rf_47_6, rf_47_8, rf_47_10, rf_47_12, rf_47_14, rf_47_15, rf_47_16, rf_47_17, rf_47_18, rf_47_19, rf_47_20, rf_47_21, rf_47_22, rf_47_23, rf_47_24, rf_47_26, rf_47_27, rf_47_29, rf_17, rf_20, rf_21, rf_22, rf_23, rf_24, rl_17, rl_20, rl_21, rl_22, rl_23, rl_24, c1]
  have hS1 : DS μ1 T := hS.fr (f1 68 (by decide)) (by rw [f1 47 (by decide)]) rfl rfl rfl rfl
  exact d_seeL hT (hD.fl f1) hS1 l1 ⟨rfl, f1, l1⟩ (ns T) 0 _ (by omega)
/-- while events are gone -/
def FV (μ ν : MMem) : Prop := (∀ a, a ≠ 47 → (a < 57 ∨ 67 < a) → ν a = μ a) ∧ ∀ j, j ≠ 13 → ν 47 j = μ 47 j
theorem FV.dt {μ ν T : MMem} (h : FV μ ν) (hD : DT μ T) (m : Int) : DT (m_w ν 47 13 m) (gn T m) := by
  have := hD.gn m
  have g : ∀ a : Int, a ≠ 47 → a < 57 → m_w ν 47 13 m a = m_w μ 47 13 m a := fun a h1 h2 => by rw [mw_ne h1, mw_ne h1]; exact h.1 a h1 (by omega)
  have e47 : m_w ν 47 13 m 47 = m_w μ 47 13 m 47 := by
    funext j
    rw [mw_at, mw_at]
    split
    · rfl
    · rename_i q; exact h.2 j q
  unfold DT at *
  rw [e47, g 54 (by decide) (by decide), g 55 (by decide) (by decide), g 56 (by decide) (by decide)]
  exact this
theorem FV.w {μ ν : MMem} (h : FV μ ν) (m : Int) : FV μ (m_w ν 47 13 m) := ⟨fun a h1 h2 => by rw [mw_ne h1]; exact h.1 a h1 h2, fun j hj => by rw [mw_at, if_neg hj]; exact h.2 j hj⟩
theorem FV.fl {μ ν ξ : MMem} (h : FV μ ν) (hf : FL ν ξ) : FV μ ξ := ⟨fun a h1 h2 => (hf a h2).trans (h.1 a h1 h2), fun j hj => by rw [hf 47 (by decide)]; exact h.2 j hj⟩
theorem FV.end {μ ν : MMem} (h : FV μ ν) (h0 : μ 47 13 = 0) : FX μ (m_w ν 47 13 0) := by
  refine ⟨fun a h1 _ h3 _ _ => by rw [mw_ne h1]; exact h.1 a h1 h3, fun j _ => ?_⟩
  rw [mw_at]
  by_cases q : j = 13
  · rw [if_pos q, q]; exact h0.symm
  · rw [if_neg q]; exact h.2 j q
theorem nvN_0 (T : MMem) : ∀ n : Nat, m_i 4 (nvN T n) 0 = nvN T n
  | 0 => m_or00
  | n + 1 => by
    rw [nvN]
    split
    · exact m_or0 _ _
    · exact nvN_0 T n
theorem d_nevL {μ T : MMem} (hT : TW T) (hD : DT μ T) (hS : DS μ T) (h0 : μ 47 13 = 0) {Q : MVal → MMem → Prop} (h : ∀ μ', FX μ μ' → Q (0, nvN T (ne T)) μ') : ∀ (d b : Nat) (ν : MMem), b + d = ne T → FV μ ν → At 176 1 [(10, 47), (0, nvN T b), (0, (b : Int))] [] ν Q := by
  have h8 := hT.2.2.1
  have hn : (ne T : Int) = T 0 2 := by unfold ne; omega
  intro d
  induction d with
  | zero =>
    intro b ν hb hF
    have e : b = ne T := by omega
    subst e
    have e11 : ν 47 11 = T 0 2 := by rw [hF.2 11 (by decide)]; exact hD.2.2.1
    have := h _ (hF.end h0)
    rw [t176_1]
    simp only [t176_0, t176_2, t176_3, t176_4, B176_0, B176_1, B176_2, B176_3, B176_4, Classical.not_not, Prod.mk.injEq, m_l, m_lp, m_lq, m_ps, m_ws, m_en, List.replicate, if_true, if_false, reduceIte, true_and, and_true, false_and, and_false, true_or, or_true, false_or, or_false, and_self, or_self, not_true_eq_false, not_false_eq_true, ne_eq, Nat.reduceLeDiff, Nat.reduceEqDiff, Nat.reduceAdd, Int.reduceLE, Int.reduceLT, Int.reduceEq, Int.reduceNe, Int.reduceAdd, Int.reduceNeg, Nat.reduceSub, Nat.succ_ne_zero, Nat.not_succ_le_zero, Nat.reduceMul, Int.reduceMul, Int.reduceSub, Int.reduceToNat, Nat.zero_le, Nat.reduceLT, r_0, r_1, r_2, r_3, r_4, r_5, r_6, r_7, r_9, r_10, r_11, r_12, r_13, r_14, r_15, r_16, r_17, r_18, r_19, r_20_0, r_21_0, r_20_1, r_21_1, r_20_2, r_21_2, r_20_3, r_21_3, r_20_4, r_21_4, r_20_5, r_21_5, r_22_0, r_22_1, r_23, r_24, r_25, r_26, r_27, r_28, r_29, r_30_0, r_30_1, r_30_2, r_31, r_31b, r_32, r_33, r_33b, r_33c, r_34, r_34b, r_35, r_45, r_46, r_47_0, r_47_1, r_40, r_50, r_51, r_41_0, r_41_1, r_42, r_43, r_44, r_36_0, r_37_0, r_38_0, r_48_0, r_36_1, r_37_1, r_38_1, r_48_1, r_36_2, r_37_2, r_38_2, r_48_2, r_36_3, r_37_3, r_36_4, r_37_4, r_36_5, r_37_5, r_39, r_8, al_13, al_14, al_15, al_16, al_18, al_19, al_25, al_26, al_27, al_28, al_29, al_30, al_31, al_32, al_33, al_34, al_35, al_36, al_37, al_38, al_39, al_40, al_41, al_42, al_43, al_44, al_45, al_46, al_48, al_49, al_50, al_51, al_52, al_53, al_54, al_55, al_56, al_57, al_58, al_59, al_60, al_61, al_62, al_63, al_64, al_65, al_66, al_67, al_68, al_69, al_70, rf_0_0, rf_0_1, rf_0_2, rf_0_3, rf_0_4, rf_0_5, rf_0_6, rf_0_7, rf_0_8, rf_0_10, rf_0_11, rf_1_0, rf_1_1, rf_1_2, rf_2_0, rf_2_1, rf_2_2, rf_3_0, rf_3_1, rf_3_2, rf_4_0, rf_4_1, rf_4_2, rf_5_0, rf_5_1, rf_5_2, rf_6_0, rf_6_1, rf_7_0, rf_7_1, rf_8_0, rf_8_1, rf_8_5, rf_8_6, rf_8_7, rf_8_8, rf_8_9, rf_9_0, rf_10_0, rf_11_0, rf_12_0, rf_47_0, rf_47_1, rf_47_2, rf_47_3, rf_47_5, rf_47_6, rf_47_8, rf_47_10, rf_47_12, rf_47_14, rf_47_15, rf_47_16, rf_47_17, rf_47_18, rf_47_19, rf_47_20, rf_47_21, rf_47_22, rf_47_23, rf_47_24, rf_47_26, rf_47_27, rf_47_29, rf_17, rf_20, rf_21, rf_22, rf_23, rf_24, rl_17, rl_20, rl_21, rl_22, rl_23, rl_24, e11]
    rw [if_pos (by omega)]
    exact this
  | succ d ih =>
    intro b ν hb hF
    have e11 : ν 47 11 = T 0 2 := by rw [hF.2 11 (by decide)]; exact hD.2.2.1
    have hD2 := hF.dt hD (sh1 b)
    have hS2 : DS (m_w ν 47 13 (sh1 b)) (gn T (sh1 b)) := hS.fr (by rw [mw_ne (by decide)]; exact hF.1 68 (by decide) (by decide)) (by rw [mw_at, if_neg (by decide)]; exact hF.2 25 (by decide)) (gn_at T _ (by decide)) (gn_ne T _ (by decide)) (gn_ne T _ (by decide)) (gn_ne T _ (by decide))
    obtain ⟨μ1, ⟨f1, l1⟩, c1⟩ := d_isSeen _ (hT.gn (sh1 b)) hD2 hS2
    have ens : ns (gn T (sh1 b)) = ns T := by
      unfold ns
      rw [gn_at T _ (by decide)]
    rw [ens] at c1
    have ih := ih (b + 1) μ1 (by omega) ((hF.w _).fl f1)
    have mb : m_i 0 b 1 = (b : Int) + 1 := m_i0 (by omega) (by omega)
    have h00 := nvN_0 T b
    rw [nvN] at ih
    push_cast at ih
    unfold sh1 at c1 ih
    rw [t176_1]
    simp only [t176_0, t176_2, t176_3, t176_4, B176_0, B176_1, B176_2, B176_3, B176_4, Classical.not_not, Prod.mk.injEq, m_l, m_lp, m_lq, m_ps, m_ws, m_en, List.replicate, if_true, if_false, reduceIte, true_and, and_true, false_and, and_false, true_or, or_true, false_or, or_false, and_self, or_self, not_true_eq_false, not_false_eq_true, ne_eq, Nat.reduceLeDiff, Nat.reduceEqDiff, Nat.reduceAdd, Int.reduceLE, Int.reduceLT, Int.reduceEq, Int.reduceNe, Int.reduceAdd, Int.reduceNeg, Nat.reduceSub, Nat.succ_ne_zero, Nat.not_succ_le_zero, Nat.reduceMul, Int.reduceMul, Int.reduceSub, Int.reduceToNat, Nat.zero_le, Nat.reduceLT, r_0, r_1, r_2, r_3, r_4, r_5, r_6, r_7, r_9, r_10, r_11, r_12, r_13, r_14, r_15, r_16, r_17, r_18, r_19, r_20_0, r_21_0, r_20_1, r_21_1, r_20_2, r_21_2, r_20_3, r_21_3, r_20_4, r_21_4, r_20_5, r_21_5, r_22_0, r_22_1, r_23, r_24, r_25, r_26, r_27, r_28, r_29, r_30_0, r_30_1, r_30_2, r_31, r_31b, r_32, r_33, r_33b, r_33c, r_34, r_34b, r_35, r_45, r_46, r_47_0, r_47_1, r_40, r_50, r_51, r_41_0, r_41_1, r_42, r_43, r_44, r_36_0, r_37_0, r_38_0, r_48_0, r_36_1, r_37_1, r_38_1, r_48_1, r_36_2, r_37_2, r_38_2, r_48_2, r_36_3, r_37_3, r_36_4, r_37_4, r_36_5, r_37_5, r_39, r_8, al_13, al_14, al_15, al_16, al_18, al_19, al_25, al_26, al_27, al_28, al_29, al_30, al_31, al_32, al_33, al_34, al_35, al_36, al_37, al_38, al_39, al_40, al_41, al_42, al_43, al_44, al_45, al_46, al_48, al_49, al_50, al_51, al_52, al_53, al_54, al_55, al_56, al_57, al_58, al_59, al_60, al_61, al_62, al_63, al_64, al_65, al_66, al_67, al_68, al_69, al_70, rf_0_0, rf_0_1, rf_0_2, rf_0_3, rf_0_4, rf_0_5, rf_0_6, rf_0_7, rf_0_8, rf_0_10, rf_0_11, rf_1_0, rf_1_1, rf_1_2, rf_2_0, rf_2_1, rf_2_2, rf_3_0, rf_3_1, rf_3_2, rf_4_0, rf_4_1, rf_4_2, rf_5_0, rf_5_1, rf_5_2, rf_6_0, rf_6_1, rf_7_0, rf_7_1, rf_8_0, rf_8_1, rf_8_5, rf_8_6, rf_8_7, rf_8_8, rf_8_9, rf_9_0, rf_10_0, rf_11_0, rf_12_0, rf_47_0, rf_47_1, rf_47_2, rf_47_3, rf_47_5, rf_47_6, rf_47_8, rf_47_10, rf_47_12, rf_47_14, rf_47_15, rf_47_16, rf_47_17, rf_47_18, rf_47_19, rf_47_20, rf_47_21, rf_47_22, rf_47_23, rf_47_24, rf_47_26, rf_47_27, rf_47_29, rf_17, rf_20, rf_21, rf_22, rf_23, rf_24, rl_17, rl_20, rl_21, rl_22, rl_23, rl_24, e11, c1, b0, mb]
    rw [if_neg (by omega)]
    grind
theorem d_neverNow {T : MMem} (μ : MMem) (hT : TW T) (hD : DT μ T) (hS : DS μ T) (h0 : μ 47 13 = 0) : ∃ μ' : MMem, FX μ μ' ∧ ∀ Q : MVal → MMem → Prop, Cal 176 [(10, 47)] μ Q = Q (0, nvN T (ne T)) μ' := by
  refine cal_ex (P := fun μ' => FX μ μ') rfl ?_
  show Rn 176 B176_0 [(10, 47), (14, 0), (14, 0)] [] μ _
  simp only [t176_0, t176_2, t176_3, t176_4, B176_0, B176_1, B176_2, B176_3, B176_4, Classical.not_not, Prod.mk.injEq, m_l, m_lp, m_lq, m_ps, m_ws, m_en, List.replicate, if_true, if_false, reduceIte, true_and, and_true, false_and, and_false, true_or, or_true, false_or, or_false, and_self, or_self, not_true_eq_false, not_false_eq_true, ne_eq, Nat.reduceLeDiff, Nat.reduceEqDiff, Nat.reduceAdd, Int.reduceLE, Int.reduceLT, Int.reduceEq, Int.reduceNe, Int.reduceAdd, Int.reduceNeg, Nat.reduceSub, Nat.succ_ne_zero, Nat.not_succ_le_zero, Nat.reduceMul, Int.reduceMul, Int.reduceSub, Int.reduceToNat, Nat.zero_le, Nat.reduceLT, r_0, r_1, r_2, r_3, r_4, r_5, r_6, r_7, r_9, r_10, r_11, r_12, r_13, r_14, r_15, r_16, r_17, r_18, r_19, r_20_0, r_21_0, r_20_1, r_21_1, r_20_2, r_21_2, r_20_3, r_21_3, r_20_4, r_21_4, r_20_5, r_21_5, r_22_0, r_22_1, r_23, r_24, r_25, r_26, r_27, r_28, r_29, r_30_0, r_30_1, r_30_2, r_31, r_31b, r_32, r_33, r_33b, r_33c, r_34, r_34b, r_35, r_45, r_46, r_47_0, r_47_1, r_40, r_50, r_51, r_41_0, r_41_1, r_42, r_43, r_44, r_36_0, r_37_0, r_38_0, r_48_0, r_36_1, r_37_1, r_38_1, r_48_1, r_36_2, r_37_2, r_38_2, r_48_2, r_36_3, r_37_3, r_36_4, r_37_4, r_36_5, r_37_5, r_39, r_8, al_13, al_14, al_15, al_16, al_18, al_19, al_25, al_26, al_27, al_28, al_29, al_30, al_31, al_32, al_33, al_34, al_35, al_36, al_37, al_38, al_39, al_40, al_41, al_42, al_43, al_44, al_45, al_46, al_48, al_49, al_50, al_51, al_52, al_53, al_54, al_55, al_56, al_57, al_58, al_59, al_60, al_61, al_62, al_63, al_64, al_65, al_66, al_67, al_68, al_69, al_70, rf_0_0, rf_0_1, rf_0_2, rf_0_3, rf_0_4, rf_0_5, rf_0_6, rf_0_7, rf_0_8, rf_0_10, rf_0_11, rf_1_0, rf_1_1, rf_1_2, rf_2_0, rf_2_1, rf_2_2, rf_3_0, rf_3_1, rf_3_2, rf_4_0, rf_4_1, rf_4_2, rf_5_0, rf_5_1, rf_5_2, rf_6_0, rf_6_1, rf_7_0, rf_7_1, rf_8_0, rf_8_1, rf_8_5, rf_8_6, rf_8_7, rf_8_8, rf_8_9, rf_9_0, rf_10_0, rf_11_0, rf_12_0, rf_47_0, rf_47_1, rf_47_2, rf_47_3, rf_47_5, rf_47_6, rf_47_8, rf_47_10, rf_47_12, rf_47_14, rf_47_15, rf_47_16, rf_47_17, rf_47_18, rf_47_19, rf_47_20, rf_47_21, rf_47_22, rf_47_23, rf_47_24, rf_47_26, rf_47_27, rf_47_29, rf_17, rf_20, rf_21, rf_22, rf_23, rf_24, rl_17, rl_20, rl_21, rl_22, rl_23, rl_24]
  exact d_nevL hT hD hS h0 (fun μ' f => ⟨rfl, f⟩) (ne T) 0 μ (by omega) ⟨fun _ _ _ => rfl, fun _ _ => rfl⟩
