theorem INV.txH {μ κ μ' ν : MMem} (h : INV μ) {n : Nat} (hn : n ≤ 17) (hk : ∀ a, a ≠ 6 → a ≠ 40 → κ a = μ a) (h2 : κ 6 2 = n) (hs : ∀ i, 0 ≤ i → i < (n : Int) → 0 ≤ κ 40 i ∧ κ 40 i < 256) (ht : TXH κ μ' n) (hν : ∀ a, a ≠ 0 → a ≠ 52 → a ≠ 53 → ν a = μ' a) (h9 : ν 0 9 = 1) (h12 : ν 0 12 = μ 0 12) (h53 : ν 53 0 = n) (h53' : ν 53 1 = μ 53 1) (hb : ∀ i, 0 ≤ i → i < (n : Int) → ν 52 (i) = κ 40 i) (hb' : ∀ i, 0 ≤ i → i < μ 7 2 → ν 52 (40 + i) = μ 52 (40 + i)) : INV ν := by
  have hx := XH.of hn h2 hs ht
  have c : ∀ a : Int, a ≠ 0 → a ≠ 52 → a ≠ 53 → a ≠ 6 → a ≠ 40 → a ≠ 1 → (a < 25 ∨ 26 < a) → ν a = μ a := fun a a1 a2 a3 a4 a5 a6 a7 => (hν a a1 a2 a3).trans ((ht.2.2.2.1 a a4 a6 a7).trans (hk a a4 a5))
  have e6 : ν 6 2 = n := by rw [hν 6 (by decide) (by decide) (by decide), ht.2.2.2.2 2 (by decide)]; exact h2
  have e40 : ν 40 = κ 40 := (hν 40 (by decide) (by decide) (by decide)).trans (ht.2.2.2.1 40 (by decide) (by decide) (by decide))
  obtain ⟨i1, i2, i3, i4, i5, i6, i7, i8, i9, i10⟩ := h
  have d : ∀ a : Int, (a = 2 ∨ a = 3 ∨ a = 5 ∨ a = 7 ∨ (9 ≤ a ∧ a ≤ 16) ∨ (27 ≤ a ∧ a ≤ 30) ∨ (31 ≤ a ∧ a ≤ 33) ∨ (37 ≤ a ∧ a ≤ 39) ∨ a = 41 ∨ (47 ≤ a ∧ a ≤ 50) ∨ a = 56 ∨ a = 68) → ν a = μ a := fun a ha => c a (by omega) (by omega) (by omega) (by omega) (by omega) (by omega) (by omega)
  refine ⟨(XH.c hx (hν 1 (by decide) (by decide) (by decide)) (hν 6 (by decide) (by decide) (by decide)) (hν 25 (by decide) (by decide) (by decide)) (hν 26 (by decide) (by decide) (by decide)) (hν 40 (by decide) (by decide) (by decide))), (i2.c (d 2 (by decide)) (d 7 (by decide)) (d 27 (by decide)) (d 28 (by decide)) (d 29 (by decide)) (d 30 (by decide)) (d 41 (by decide))), i3.c (d 3 (by decide)) (d 31 (by decide)) (d 32 (by decide)) (d 33 (by decide)), ?_, i5.c (d 3 (by decide)) (d 31 (by decide)) (d 32 (by decide)) (d 33 (by decide)) (d 56 (by decide)) (by rw [d 47 (by decide)]) (by rw [d 47 (by decide)]), MO.stale h9, i7.c (d 5 (by decide)) (d 37 (by decide)) (d 38 (by decide)), i8.c (d 5 (by decide)) (d 37 (by decide)) (d 38 (by decide)) (d 39 (by decide)) (d 68 (by decide)) (by rw [d 47 (by decide)]), i9.c (fun a a1 a2 => d a (by omega)) (d 48 (by decide)) (d 49 (by decide)) (d 50 (by decide)), by rw [d 47 (by decide), h12]; exact i10⟩
  obtain ⟨r1, r2, r3, r4⟩ := i4
  refine ⟨by rw [h53, e6], by rw [h53', d 7 (by decide)]; exact r2, fun i i0 i1 => ?_, fun i i0 i1 => ?_⟩
  · rw [e6] at i1
    rw [e40]
    exact hb i i0 i1
  · rw [d 7 (by decide)] at i1
    rw [d 41 (by decide), hb' i i0 i1]
    exact r4 i i0 i1
theorem c_type0 {μ : MMem} (hx : XH μ) {b : Int} (hb : 0 ≤ b ∧ b < 256) (hl : μ 6 2 < 17) : ∃ μ' : MMem, TXH (m_w (m_w μ 40 (μ 6 2) b) 6 2 (μ 6 2 + 1)) μ' ((μ 6 2).toNat + 1) ∧ ∀ Q : MVal → MMem → Prop, Cal 41 [(9, 0), (0, 0), (0, b)] μ Q = Q (0, μ 6 2 + 1) (m_w μ' 0 9 1) := by
  obtain ⟨x1, x2, -⟩ := hx
  have en : (((μ 6 2).toNat : Nat) : Int) = μ 6 2 := by omega
  obtain ⟨μ1, t1, c1⟩ := c_appH (μ := μ) (n := (μ 6 2).toNat) (by omega) en.symm (fun i i0 i1 => x2 i i0 (by omega)) hb
  rw [en] at t1
  refine ⟨μ1, t1, fun Q => ?_⟩
  refine cal_eq rfl ?_ Q
  show Rn 41 B41_0 [(9, 0), (0, 0), (0, b), (14, 0)] [] μ _
  have hb1 : (0 ≤ b ∧ b < 256) = True := eq_true hb
  have hl1 : (17 ≤ μ 6 2) = False := eq_false (by omega)
  have e2 : m_w μ1 0 9 1 6 2 = μ 6 2 + 1 := by
    rw [mw_ne (by decide), t1.2.2.2.2 2 (by decide), mw_at, if_pos rfl]
  simp only [t41_0, B41_0, t41_1, B41_1, t41_2, B41_2, t41_3, B41_3, Classical.not_not, Prod.mk.injEq, m_l, m_lp, m_lq, m_ps, m_ws, m_en, List.replicate, if_true, if_false, reduceIte, true_and, and_true, false_and, and_false, true_or, or_true, false_or, or_false, and_self, or_self, not_true_eq_false, not_false_eq_true, ne_eq, Nat.reduceLeDiff, Nat.reduceEqDiff, Nat.reduceAdd, Int.reduceLE, Int.reduceLT, Int.reduceEq, Int.reduceNe, Int.reduceAdd, Int.reduceNeg, Nat.reduceSub, Nat.succ_ne_zero, Nat.not_succ_le_zero, Nat.reduceMul, Int.reduceMul, Int.reduceSub, Int.reduceToNat, Nat.zero_le, Nat.reduceLT, r_0, r_1, r_2, r_3, r_4, r_5, r_6, r_7, r_9, r_10, r_11, r_12, r_13, r_14, r_15, r_16, r_17, r_18, r_19, r_20_0, r_21_0, r_20_1, r_21_1, r_20_2, r_21_2, r_20_3, r_21_3, r_20_4, r_21_4, r_20_5, r_21_5, r_22_0, r_22_1, r_23, r_24, r_25, r_26, r_27, r_28, r_29, r_30_0, r_30_1, r_30_2, r_31, r_31b, r_32, r_33, r_33b, r_33c, r_34, r_34b, r_35, r_45, r_46, r_47_0, r_47_1, r_40, r_50, r_51, r_41_0, r_41_1, r_42, r_43, r_44, r_36_0, r_37_0, r_38_0, r_48_0, r_36_1, r_37_1, r_38_1, r_48_1, r_36_2, r_37_2, r_38_2, r_48_2, r_36_3, r_37_3, r_36_4, r_37_4, r_36_5, r_37_5, r_39, r_8, al_13, al_14, al_15, al_16, al_18, al_19, al_25, al_26, al_27, al_28, al_29, al_30, al_31, al_32, al_33, al_34, al_35, al_36, al_37, al_38, al_39, al_40, al_41, al_42, al_43, al_44, al_45, al_46, al_48, al_49, al_50, al_51, al_52, al_53, al_54, al_55, al_56, al_57, al_58, al_59, al_60, al_61, al_62, al_63, al_64, al_65, al_66, al_67, al_68, al_69, al_70, rf_0_0, rf_0_1, rf_0_2, rf_0_3, rf_0_4, rf_0_5, rf_0_6, rf_0_7, rf_0_8, rf_0_10, rf_0_11, rf_1_0, rf_1_1, rf_1_2, rf_2_0, rf_2_1, rf_2_2, rf_3_0, rf_3_1, rf_3_2, rf_4_0, rf_4_1, rf_4_2, rf_5_0, rf_5_1, rf_5_2, rf_6_0, rf_6_1, rf_7_0, rf_7_1, rf_8_0, rf_8_1, rf_8_5, rf_8_6, rf_8_7, rf_8_8, rf_8_9, rf_9_0, rf_10_0, rf_11_0, rf_12_0, rf_47_0, rf_47_1, rf_47_2, rf_47_3, rf_47_5, rf_47_6, rf_47_8, rf_47_10, rf_47_12, rf_47_14, rf_47_15, rf_47_16, rf_47_17, rf_47_18, rf_47_19, rf_47_20, rf_47_21, rf_47_22, rf_47_23, rf_47_24, rf_47_26, rf_47_27, rf_47_29, rf_17, rf_20, rf_21, rf_22, rf_23, rf_24, rl_17, rl_20, rl_21, rl_22, rl_23, rl_24, c_textOf, c_isBelow, b0, hb1, ntf, c_fullH, hl1, c1, e2]
theorem c_typf0 {μ : MMem} {b : Int} (hb : 0 ≤ b ∧ b < 256) (hl : 17 ≤ μ 6 2) (Q : MVal → MMem → Prop) : Cal 41 [(9, 0), (0, 0), (0, b)] μ Q = Q (0, -4) μ := by
  refine cal_eq rfl ?_ Q
  show Rn 41 B41_0 [(9, 0), (0, 0), (0, b), (14, 0)] [] μ _
  have hb1 : (0 ≤ b ∧ b < 256) = True := eq_true hb
  have hl1 : (17 ≤ μ 6 2) = True := eq_true hl
  simp only [t41_0, B41_0, t41_1, B41_1, t41_2, B41_2, t41_3, B41_3, Classical.not_not, Prod.mk.injEq, m_l, m_lp, m_lq, m_ps, m_ws, m_en, List.replicate, if_true, if_false, reduceIte, true_and, and_true, false_and, and_false, true_or, or_true, false_or, or_false, and_self, or_self, not_true_eq_false, not_false_eq_true, ne_eq, Nat.reduceLeDiff, Nat.reduceEqDiff, Nat.reduceAdd, Int.reduceLE, Int.reduceLT, Int.reduceEq, Int.reduceNe, Int.reduceAdd, Int.reduceNeg, Nat.reduceSub, Nat.succ_ne_zero, Nat.not_succ_le_zero, Nat.reduceMul, Int.reduceMul, Int.reduceSub, Int.reduceToNat, Nat.zero_le, Nat.reduceLT, r_0, r_1, r_2, r_3, r_4, r_5, r_6, r_7, r_9, r_10, r_11, r_12, r_13, r_14, r_15, r_16, r_17, r_18, r_19, r_20_0, r_21_0, r_20_1, r_21_1, r_20_2, r_21_2, r_20_3, r_21_3, r_20_4, r_21_4, r_20_5, r_21_5, r_22_0, r_22_1, r_23, r_24, r_25, r_26, r_27, r_28, r_29, r_30_0, r_30_1, r_30_2, r_31, r_31b, r_32, r_33, r_33b, r_33c, r_34, r_34b, r_35, r_45, r_46, r_47_0, r_47_1, r_40, r_50, r_51, r_41_0, r_41_1, r_42, r_43, r_44, r_36_0, r_37_0, r_38_0, r_48_0, r_36_1, r_37_1, r_38_1, r_48_1, r_36_2, r_37_2, r_38_2, r_48_2, r_36_3, r_37_3, r_36_4, r_37_4, r_36_5, r_37_5, r_39, r_8, al_13, al_14, al_15, al_16, al_18, al_19, al_25, al_26, al_27, al_28, al_29, al_30, al_31, al_32, al_33, al_34, al_35, al_36, al_37, al_38, al_39, al_40, al_41, al_42, al_43, al_44, al_45, al_46, al_48, al_49, al_50, al_51, al_52, al_53, al_54, al_55, al_56, al_57, al_58, al_59, al_60, al_61, al_62, al_63, al_64, al_65, al_66, al_67, al_68, al_69, al_70, rf_0_0, rf_0_1, rf_0_2, rf_0_3, rf_0_4, rf_0_5, rf_0_6, rf_0_7, rf_0_8, rf_0_10, rf_0_11, rf_1_0, rf_1_1, rf_1_2, rf_2_0, rf_2_1, rf_2_2, rf_3_0, rf_3_1, rf_3_2, rf_4_0, rf_4_1, rf_4_2, rf_5_0, rf_5_1, rf_5_2, rf_6_0, rf_6_1, rf_7_0, rf_7_1, rf_8_0, rf_8_1, rf_8_5, rf_8_6, rf_8_7, rf_8_8, rf_8_9, rf_9_0, rf_10_0, rf_11_0, rf_12_0, rf_47_0, rf_47_1, rf_47_2, rf_47_3, rf_47_5, rf_47_6, rf_47_8, rf_47_10, rf_47_12, rf_47_14, rf_47_15, rf_47_16, rf_47_17, rf_47_18, rf_47_19, rf_47_20, rf_47_21, rf_47_22, rf_47_23, rf_47_24, rf_47_26, rf_47_27, rf_47_29, rf_17, rf_20, rf_21, rf_22, rf_23, rf_24, rl_17, rl_20, rl_21, rl_22, rl_23, rl_24, c_textOf, c_isBelow, b0, hb1, ntf, c_fullH, hl1]
theorem l_type0 {μ : MMem} (h : INV μ) {b : Int} (hb : 0 ≤ b ∧ b < 256) : LW 0 41 119 [(0, 0), (0, b)] μ := by
  have hx := h.1
  obtain ⟨r1, r2, r3, r4⟩ := h.2.2.2.1
  have n1 := hx.1
  by_cases hl : μ 6 2 < 17
  · obtain ⟨μ1, t1, c1⟩ := c_type0 hx hb hl
    have f := t1.2.2.2.1
    have e53 : m_w μ1 0 9 1 53 = μ 53 := by rw [mw_ne (by decide), f 53 (by decide) (by decide) (by decide), mw_ne (by decide), mw_ne (by decide)]
    have e52 : m_w μ1 0 9 1 52 = μ 52 := by rw [mw_ne (by decide), f 52 (by decide) (by decide) (by decide), mw_ne (by decide), mw_ne (by decide)]
    have c2 := fun Q => d_type_ok (μ := m_w μ1 0 9 1) (t := 0) (b := b) (by decide) hb (by rw [e53, r1]; exact n1.1) (by rw [e53, r1]; exact hl) Q
    unfold tyW at c2
    rw [e53, r1] at c2
    refine ⟨_, _, _, c1, c2, ?_, ?_, ?_⟩
    · refine h.txH (κ := m_w (m_w μ 40 (μ 6 2) b) 6 2 (μ 6 2 + 1)) (μ' := μ1) (n := (μ 6 2).toNat + 1) (by omega) (fun a a1 a2 => by rw [mw_ne a1, mw_ne a2]) (by rw [mw_at, if_pos rfl]; omega) (fun i i0 i1 => ?_) t1 (fun a a1 a2 a3 => by rw [mw_ne a3, mw_ne a2, mw_ne a1]) ?_ ?_ ?_ ?_ (fun i i0 i1 => ?_) (fun i i0 i1 => ?_)
      · rw [mw_ne (by decide), mw_at]
        split
        · exact hb
        · exact hx.2.1 i i0 (by omega)
      · simp only [mw8, Classical.not_not, Prod.mk.injEq, m_l, m_lp, m_lq, m_ps, m_ws, m_en, List.replicate, if_true, if_false, reduceIte, true_and, and_true, false_and, and_false, true_or, or_true, false_or, or_false, and_self, or_self, not_true_eq_false, not_false_eq_true, ne_eq, Nat.reduceLeDiff, Nat.reduceEqDiff, Nat.reduceAdd, Int.reduceLE, Int.reduceLT, Int.reduceEq, Int.reduceNe, Int.reduceAdd, Int.reduceNeg, Nat.reduceSub, Nat.succ_ne_zero, Nat.not_succ_le_zero, Nat.reduceMul, Int.reduceMul, Int.reduceSub, Int.reduceToNat, Nat.zero_le, Nat.reduceLT]
      · rw [mw_ne (by decide), mw_ne (by decide), mw_at, if_neg (by decide), f 0 (by decide) (by decide) (by decide), mw_ne (by decide), mw_ne (by decide)]
      · rw [mw_at, if_pos rfl]
        omega
      · rw [mw_at, if_neg (by decide), mw_ne (by decide), e53]
      · rw [mw_ne (by decide), mw_at, e52, mw_ne (by decide), mw_at]
        by_cases q : i = μ 6 2
        · rw [if_pos (by omega), if_pos q]
        · rw [if_neg (by omega), if_neg q]
          exact r3 i i0 (by omega)
      · have n2 := h.2.1.1
        rw [mw_ne (by decide), mw_at, if_neg (by omega), e52]
    · rw [mw_ne (by decide), mw_ne (by decide), mw_ne (by decide), f 202 (by decide) (by decide) (by decide), mw_ne (by decide), mw_ne (by decide)]
    · rw [mw_ne (by decide), f 202 (by decide) (by decide) (by decide), mw_ne (by decide), mw_ne (by decide)]
  · have c2 := fun Q => d_type_full (μ := μ) (t := 0) (b := b) (by decide) hb (by rw [r1]; show μ 6 2 = 17; omega) Q
    exact l_no h (c_typf0 hb (by omega)) c2
theorem c_wipe0 {μ : MMem} (hx : XH μ) : ∃ μ' : MMem, TXH (m_w μ 6 2 0) μ' 0 ∧ ∀ Q : MVal → MMem → Prop, Cal 42 [(9, 0), (0, 0)] μ Q = Q (0, μ 6 2) (m_w μ' 0 9 1) := by
  obtain ⟨x1, x2, -⟩ := hx
  have en : (((μ 6 2).toNat : Nat) : Int) = μ 6 2 := by omega
  obtain ⟨μ1, t1, c1⟩ := c_cutH (μ := μ) (n := (μ 6 2).toNat) (k := 0) (by omega) (by omega) en.symm (fun i i0 i1 => x2 i i0 (by omega))
  rw [show (((0 : Nat)) : Int) = 0 from rfl] at t1 c1
  refine ⟨μ1, t1, fun Q => ?_⟩
  refine cal_eq rfl ?_ Q
  show Rn 42 B42_0 [(9, 0), (0, 0), (14, 0), (14, 0)] [] μ _
  simp only [t42_0, B42_0, t42_1, B42_1, Classical.not_not, Prod.mk.injEq, m_l, m_lp, m_lq, m_ps, m_ws, m_en, List.replicate, if_true, if_false, reduceIte, true_and, and_true, false_and, and_false, true_or, or_true, false_or, or_false, and_self, or_self, not_true_eq_false, not_false_eq_true, ne_eq, Nat.reduceLeDiff, Nat.reduceEqDiff, Nat.reduceAdd, Int.reduceLE, Int.reduceLT, Int.reduceEq, Int.reduceNe, Int.reduceAdd, Int.reduceNeg, Nat.reduceSub, Nat.succ_ne_zero, Nat.not_succ_le_zero, Nat.reduceMul, Int.reduceMul, Int.reduceSub, Int.reduceToNat, Nat.zero_le, Nat.reduceLT, r_0, r_1, r_2, r_3, r_4, r_5, r_6, r_7, r_9, r_10, r_11, r_12, r_13, r_14, r_15, r_16, r_17, r_18, r_19, r_20_0, r_21_0, r_20_1, r_21_1, r_20_2, r_21_2, r_20_3, r_21_3, r_20_4, r_21_4, r_20_5, r_21_5, r_22_0, r_22_1, r_23, r_24, r_25, r_26, r_27, r_28, r_29, r_30_0, r_30_1, r_30_2, r_31, r_31b, r_32, r_33, r_33b, r_33c, r_34, r_34b, r_35, r_45, r_46, r_47_0, r_47_1, r_40, r_50, r_51, r_41_0, r_41_1, r_42, r_43, r_44, r_36_0, r_37_0, r_38_0, r_48_0, r_36_1, r_37_1, r_38_1, r_48_1, r_36_2, r_37_2, r_38_2, r_48_2, r_36_3, r_37_3, r_36_4, r_37_4, r_36_5, r_37_5, r_39, r_8, al_13, al_14, al_15, al_16, al_18, al_19, al_25, al_26, al_27, al_28, al_29, al_30, al_31, al_32, al_33, al_34, al_35, al_36, al_37, al_38, al_39, al_40, al_41, al_42, al_43, al_44, al_45, al_46, al_48, al_49, al_50, al_51, al_52, al_53, al_54, al_55, al_56, al_57, al_58, al_59, al_60, al_61, al_62, al_63, al_64, al_65, al_66, al_67, al_68, al_69, al_70, rf_0_0, rf_0_1, rf_0_2, rf_0_3, rf_0_4, rf_0_5, rf_0_6, rf_0_7, rf_0_8, rf_0_10, rf_0_11, rf_1_0, rf_1_1, rf_1_2, rf_2_0, rf_2_1, rf_2_2, rf_3_0, rf_3_1, rf_3_2, rf_4_0, rf_4_1, rf_4_2, rf_5_0, rf_5_1, rf_5_2, rf_6_0, rf_6_1, rf_7_0, rf_7_1, rf_8_0, rf_8_1, rf_8_5, rf_8_6, rf_8_7, rf_8_8, rf_8_9, rf_9_0, rf_10_0, rf_11_0, rf_12_0, rf_47_0, rf_47_1, rf_47_2, rf_47_3, rf_47_5, rf_47_6, rf_47_8, rf_47_10, rf_47_12, rf_47_14, rf_47_15, rf_47_16, rf_47_17, rf_47_18, rf_47_19, rf_47_20, rf_47_21, rf_47_22, rf_47_23, rf_47_24, rf_47_26, rf_47_27, rf_47_29, rf_17, rf_20, rf_21, rf_22, rf_23, rf_24, rl_17, rl_20, rl_21, rl_22, rl_23, rl_24, c_textOf, c1]
theorem c_undo0 {μ : MMem} (hx : XH μ) (h0 : μ 6 2 ≠ 0) : ∃ μ' : MMem, TXH (m_w μ 6 2 (μ 6 2 - 1)) μ' ((μ 6 2).toNat - 1) ∧ ∀ Q : MVal → MMem → Prop, Cal 43 [(9, 0), (0, 0)] μ Q = Q (0, μ 6 2 - 1) (m_w μ' 0 9 1) := by
  obtain ⟨x1, x2, -⟩ := hx
  have en : (((μ 6 2).toNat : Nat) : Int) = μ 6 2 := by omega
  have en1 : (((μ 6 2).toNat - 1 : Nat) : Int) = μ 6 2 - 1 := by omega
  obtain ⟨μ1, t1, c1⟩ := c_cutH (μ := μ) (n := (μ 6 2).toNat) (k := (μ 6 2).toNat - 1) (by omega) (by omega) en.symm (fun i i0 i1 => x2 i i0 (by omega))
  rw [en1] at t1 c1
  refine ⟨μ1, t1, fun Q => ?_⟩
  refine cal_eq rfl ?_ Q
  show Rn 43 B43_0 [(9, 0), (0, 0), (14, 0)] [] μ _
  have m1 : m_i 1 (μ 6 2) 1 = μ 6 2 - 1 := m_i1 (by omega) (by omega)
  have e2 : m_w μ1 0 9 1 6 2 = μ 6 2 - 1 := by
    rw [mw_ne (by decide), t1.2.2.2.2 2 (by decide), mw_at, if_pos rfl]
  simp only [t43_0, B43_0, t43_1, B43_1, t43_2, B43_2, Classical.not_not, Prod.mk.injEq, m_l, m_lp, m_lq, m_ps, m_ws, m_en, List.replicate, if_true, if_false, reduceIte, true_and, and_true, false_and, and_false, true_or, or_true, false_or, or_false, and_self, or_self, not_true_eq_false, not_false_eq_true, ne_eq, Nat.reduceLeDiff, Nat.reduceEqDiff, Nat.reduceAdd, Int.reduceLE, Int.reduceLT, Int.reduceEq, Int.reduceNe, Int.reduceAdd, Int.reduceNeg, Nat.reduceSub, Nat.succ_ne_zero, Nat.not_succ_le_zero, Nat.reduceMul, Int.reduceMul, Int.reduceSub, Int.reduceToNat, Nat.zero_le, Nat.reduceLT, r_0, r_1, r_2, r_3, r_4, r_5, r_6, r_7, r_9, r_10, r_11, r_12, r_13, r_14, r_15, r_16, r_17, r_18, r_19, r_20_0, r_21_0, r_20_1, r_21_1, r_20_2, r_21_2, r_20_3, r_21_3, r_20_4, r_21_4, r_20_5, r_21_5, r_22_0, r_22_1, r_23, r_24, r_25, r_26, r_27, r_28, r_29, r_30_0, r_30_1, r_30_2, r_31, r_31b, r_32, r_33, r_33b, r_33c, r_34, r_34b, r_35, r_45, r_46, r_47_0, r_47_1, r_40, r_50, r_51, r_41_0, r_41_1, r_42, r_43, r_44, r_36_0, r_37_0, r_38_0, r_48_0, r_36_1, r_37_1, r_38_1, r_48_1, r_36_2, r_37_2, r_38_2, r_48_2, r_36_3, r_37_3, r_36_4, r_37_4, r_36_5, r_37_5, r_39, r_8, al_13, al_14, al_15, al_16, al_18, al_19, al_25, al_26, al_27, al_28, al_29, al_30, al_31, al_32, al_33, al_34, al_35, al_36, al_37, al_38, al_39, al_40, al_41, al_42, al_43, al_44, al_45, al_46, al_48, al_49, al_50, al_51, al_52, al_53, al_54, al_55, al_56, al_57, al_58, al_59, al_60, al_61, al_62, al_63, al_64, al_65, al_66, al_67, al_68, al_69, al_70, rf_0_0, rf_0_1, rf_0_2, rf_0_3, rf_0_4, rf_0_5, rf_0_6, rf_0_7, rf_0_8, rf_0_10, rf_0_11, rf_1_0, rf_1_1, rf_1_2, rf_2_0, rf_2_1, rf_2_2, rf_3_0, rf_3_1, rf_3_2, rf_4_0, rf_4_1, rf_4_2, rf_5_0, rf_5_1, rf_5_2, rf_6_0, rf_6_1, rf_7_0, rf_7_1, rf_8_0, rf_8_1, rf_8_5, rf_8_6, rf_8_7, rf_8_8, rf_8_9, rf_9_0, rf_10_0, rf_11_0, rf_12_0, rf_47_0, rf_47_1, rf_47_2, rf_47_3, rf_47_5, rf_47_6, rf_47_8, rf_47_10, rf_47_12, rf_47_14, rf_47_15, rf_47_16, rf_47_17, rf_47_18, rf_47_19, rf_47_20, rf_47_21, rf_47_22, rf_47_23, rf_47_24, rf_47_26, rf_47_27, rf_47_29, rf_17, rf_20, rf_21, rf_22, rf_23, rf_24, rl_17, rl_20, rl_21, rl_22, rl_23, rl_24, c_textOf, m1, c1, e2, h0]
theorem l_cut0 {μ μ1 : MMem} (h : INV μ) {n : Nat} (hn : (n : Int) ≤ μ 6 2) (t1 : TXH (m_w μ 6 2 n) μ1 n) : INV (m_w (m_w μ1 0 9 1) 53 0 n) ∧ (m_w μ1 0 9 1) 53 = μ 53 ∧ (m_w (m_w μ1 0 9 1) 53 0 n) 202 = μ 202 := by
  have hx := h.1
  obtain ⟨r1, r2, r3, r4⟩ := h.2.2.2.1
  have n1 := hx.1
  have f := t1.2.2.2.1
  have e53 : m_w μ1 0 9 1 53 = μ 53 := by rw [mw_ne (by decide), f 53 (by decide) (by decide) (by decide), mw_ne (by decide)]
  have e52 : m_w μ1 0 9 1 52 = μ 52 := by rw [mw_ne (by decide), f 52 (by decide) (by decide) (by decide), mw_ne (by decide)]
  refine ⟨?_, e53, by rw [mw_ne (by decide), mw_ne (by decide), f 202 (by decide) (by decide) (by decide), mw_ne (by decide)]⟩
  refine h.txH (κ := m_w μ 6 2 n) (μ' := μ1) (n := n) (by omega) (fun a a1 a2 => by rw [mw_ne a1]) (by rw [mw_at, if_pos rfl]) (fun i i0 i1 => ?_) t1 (fun a a1 a2 a3 => by rw [mw_ne a3, mw_ne a1]) ?_ ?_ ?_ ?_ (fun i i0 i1 => ?_) (fun i i0 i1 => ?_)
  · rw [mw_ne (by decide)]
    exact hx.2.1 i i0 (by omega)
  · simp only [mw8, Classical.not_not, Prod.mk.injEq, m_l, m_lp, m_lq, m_ps, m_ws, m_en, List.replicate, if_true, if_false, reduceIte, true_and, and_true, false_and, and_false, true_or, or_true, false_or, or_false, and_self, or_self, not_true_eq_false, not_false_eq_true, ne_eq, Nat.reduceLeDiff, Nat.reduceEqDiff, Nat.reduceAdd, Int.reduceLE, Int.reduceLT, Int.reduceEq, Int.reduceNe, Int.reduceAdd, Int.reduceNeg, Nat.reduceSub, Nat.succ_ne_zero, Nat.not_succ_le_zero, Nat.reduceMul, Int.reduceMul, Int.reduceSub, Int.reduceToNat, Nat.zero_le, Nat.reduceLT]
  · rw [mw_ne (by decide), mw_at, if_neg (by decide), f 0 (by decide) (by decide) (by decide), mw_ne (by decide)]
  · rw [mw_at, if_pos rfl]
  · rw [mw_at, if_neg (by decide), e53]
  · rw [mw_ne (by decide), e52, mw_ne (by decide)]
    exact r3 i i0 (by omega)
  · rw [mw_ne (by decide), e52]
theorem l_wipe0 {μ : MMem} (h : INV μ) : LW 0 42 120 [(0, 0)] μ := by
  have n1 := h.1.1
  obtain ⟨μ1, t1, c1⟩ := c_wipe0 h.1
  obtain ⟨hI, e53, es⟩ := l_cut0 h (n := 0) n1.1 t1
  have c2 := d_wipe (m_w μ1 0 9 1) 0
  rw [if_pos (by decide), if_pos (by decide), e53, h.2.2.2.1.1] at c2
  exact ⟨_, _, _, c1, c2, hI, es, by rw [mw_ne (by decide), t1.2.2.2.1 202 (by decide) (by decide) (by decide), mw_ne (by decide)]⟩
theorem l_undo0 {μ : MMem} (h : INV μ) : LW 0 43 121 [(0, 0)] μ := by
  have n1 := h.1.1
  have r1 := h.2.2.2.1.1
  by_cases q : μ 6 2 = 0
  · have c2 := d_undo μ 0 (fun _ _ => by omega)
    rw [if_pos (by decide), if_pos (by omega), if_neg (fun z => z.2 (by omega))] at c2
    refine l_no h (fun Q => ?_) c2
    refine cal_eq rfl ?_ Q
    show Rn 43 B43_0 [(9, 0), (0, 0), (14, 0)] [] μ _
    simp only [t43_0, B43_0, t43_1, B43_1, t43_2, B43_2, Classical.not_not, Prod.mk.injEq, m_l, m_lp, m_lq, m_ps, m_ws, m_en, List.replicate, if_true, if_false, reduceIte, true_and, and_true, false_and, and_false, true_or, or_true, false_or, or_false, and_self, or_self, not_true_eq_false, not_false_eq_true, ne_eq, Nat.reduceLeDiff, Nat.reduceEqDiff, Nat.reduceAdd, Int.reduceLE, Int.reduceLT, Int.reduceEq, Int.reduceNe, Int.reduceAdd, Int.reduceNeg, Nat.reduceSub, Nat.succ_ne_zero, Nat.not_succ_le_zero, Nat.reduceMul, Int.reduceMul, Int.reduceSub, Int.reduceToNat, Nat.zero_le, Nat.reduceLT, r_0, r_1, r_2, r_3, r_4, r_5, r_6, r_7, r_9, r_10, r_11, r_12, r_13, r_14, r_15, r_16, r_17, r_18, r_19, r_20_0, r_21_0, r_20_1, r_21_1, r_20_2, r_21_2, r_20_3, r_21_3, r_20_4, r_21_4, r_20_5, r_21_5, r_22_0, r_22_1, r_23, r_24, r_25, r_26, r_27, r_28, r_29, r_30_0, r_30_1, r_30_2, r_31, r_31b, r_32, r_33, r_33b, r_33c, r_34, r_34b, r_35, r_45, r_46, r_47_0, r_47_1, r_40, r_50, r_51, r_41_0, r_41_1, r_42, r_43, r_44, r_36_0, r_37_0, r_38_0, r_48_0, r_36_1, r_37_1, r_38_1, r_48_1, r_36_2, r_37_2, r_38_2, r_48_2, r_36_3, r_37_3, r_36_4, r_37_4, r_36_5, r_37_5, r_39, r_8, al_13, al_14, al_15, al_16, al_18, al_19, al_25, al_26, al_27, al_28, al_29, al_30, al_31, al_32, al_33, al_34, al_35, al_36, al_37, al_38, al_39, al_40, al_41, al_42, al_43, al_44, al_45, al_46, al_48, al_49, al_50, al_51, al_52, al_53, al_54, al_55, al_56, al_57, al_58, al_59, al_60, al_61, al_62, al_63, al_64, al_65, al_66, al_67, al_68, al_69, al_70, rf_0_0, rf_0_1, rf_0_2, rf_0_3, rf_0_4, rf_0_5, rf_0_6, rf_0_7, rf_0_8, rf_0_10, rf_0_11, rf_1_0, rf_1_1, rf_1_2, rf_2_0, rf_2_1, rf_2_2, rf_3_0, rf_3_1, rf_3_2, rf_4_0, rf_4_1, rf_4_2, rf_5_0, rf_5_1, rf_5_2, rf_6_0, rf_6_1, rf_7_0, rf_7_1, rf_8_0, rf_8_1, rf_8_5, rf_8_6, rf_8_7, rf_8_8, rf_8_9, rf_9_0, rf_10_0, rf_11_0, rf_12_0, rf_47_0, rf_47_1, rf_47_2, rf_47_3, rf_47_5, rf_47_6, rf_47_8, rf_47_10, rf_47_12, rf_47_14, rf_47_15, rf_47_16, rf_47_17, rf_47_18, rf_47_19, rf_47_20, rf_47_21, rf_47_22, rf_47_23, rf_47_24, rf_47_26, rf_47_27, rf_47_29, rf_17, rf_20, rf_21, rf_22, rf_23, rf_24, rl_17, rl_20, rl_21, rl_22, rl_23, rl_24, c_textOf, q]
  · obtain ⟨μ1, t1, c1⟩ := c_undo0 h.1 q
    have en1 : (((μ 6 2).toNat - 1 : Nat) : Int) = μ 6 2 - 1 := by omega
    obtain ⟨hI, e53, es⟩ := l_cut0 h (n := (μ 6 2).toNat - 1) (by omega) (by rw [en1]; exact t1)
    rw [en1] at hI es
    have c2 := d_undo (m_w μ1 0 9 1) 0 (fun _ _ => by rw [e53]; omega)
    rw [if_pos (by decide), e53, r1, if_neg q, if_pos ⟨by decide, q⟩] at c2
    exact ⟨_, _, _, c1, c2, hI, es, by rw [mw_ne (by decide), t1.2.2.2.1 202 (by decide) (by decide) (by decide), mw_ne (by decide)]⟩
theorem INV.txB {μ κ μ' ν : MMem} (h : INV μ) {n : Nat} (hn : n ≤ 39) (hk : ∀ a, a ≠ 7 → a ≠ 41 → κ a = μ a) (h2 : κ 7 2 = n) (hs : ∀ i, 0 ≤ i → i < (n : Int) → 0 ≤ κ 41 i ∧ κ 41 i < 256) (ht : TXB κ μ' n) (hν : ∀ a, a ≠ 0 → a ≠ 52 → a ≠ 53 → ν a = μ' a) (h9 : ν 0 9 = 1) (h12 : ν 0 12 = μ 0 12) (h53 : ν 53 1 = n) (h53' : ν 53 0 = μ 53 0) (hb : ∀ i, 0 ≤ i → i < (n : Int) → ν 52 (40 + i) = κ 41 i) (hb' : ∀ i, 0 ≤ i → i < μ 6 2 → ν 52 (i) = μ 52 (i)) : INV ν := by
  have hx := XB.of hn h2 hs ht
  have c : ∀ a : Int, a ≠ 0 → a ≠ 52 → a ≠ 53 → a ≠ 7 → a ≠ 41 → a ≠ 2 → (a < 27 ∨ 30 < a) → ν a = μ a := fun a a1 a2 a3 a4 a5 a6 a7 => (hν a a1 a2 a3).trans ((ht.2.2.2.1 a a4 a6 a7).trans (hk a a4 a5))
  have e6 : ν 7 2 = n := by rw [hν 7 (by decide) (by decide) (by decide), ht.2.2.2.2 2 (by decide)]; exact h2
  have e40 : ν 41 = κ 41 := (hν 41 (by decide) (by decide) (by decide)).trans (ht.2.2.2.1 41 (by decide) (by decide) (by decide))
  obtain ⟨i1, i2, i3, i4, i5, i6, i7, i8, i9, i10⟩ := h
  have d : ∀ a : Int, (a = 1 ∨ a = 3 ∨ a = 5 ∨ a = 6 ∨ (9 ≤ a ∧ a ≤ 16) ∨ (25 ≤ a ∧ a ≤ 26) ∨ (31 ≤ a ∧ a ≤ 33) ∨ (37 ≤ a ∧ a ≤ 39) ∨ a = 40 ∨ (47 ≤ a ∧ a ≤ 50) ∨ a = 56 ∨ a = 68) → ν a = μ a := fun a ha => c a (by omega) (by omega) (by omega) (by omega) (by omega) (by omega) (by omega)
  refine ⟨(i1.c (d 1 (by decide)) (d 6 (by decide)) (d 25 (by decide)) (d 26 (by decide)) (d 40 (by decide))), (XB.c hx (hν 2 (by decide) (by decide) (by decide)) (hν 7 (by decide) (by decide) (by decide)) (hν 27 (by decide) (by decide) (by decide)) (hν 28 (by decide) (by decide) (by decide)) (hν 29 (by decide) (by decide) (by decide)) (hν 30 (by decide) (by decide) (by decide)) (hν 41 (by decide) (by decide) (by decide))), i3.c (d 3 (by decide)) (d 31 (by decide)) (d 32 (by decide)) (d 33 (by decide)), ?_, i5.c (d 3 (by decide)) (d 31 (by decide)) (d 32 (by decide)) (d 33 (by decide)) (d 56 (by decide)) (by rw [d 47 (by decide)]) (by rw [d 47 (by decide)]), MO.stale h9, i7.c (d 5 (by decide)) (d 37 (by decide)) (d 38 (by decide)), i8.c (d 5 (by decide)) (d 37 (by decide)) (d 38 (by decide)) (d 39 (by decide)) (d 68 (by decide)) (by rw [d 47 (by decide)]), i9.c (fun a a1 a2 => d a (by omega)) (d 48 (by decide)) (d 49 (by decide)) (d 50 (by decide)), by rw [d 47 (by decide), h12]; exact i10⟩
  obtain ⟨r1, r2, r3, r4⟩ := i4
  refine ⟨by rw [h53', d 6 (by decide)]; exact r1, by rw [h53, e6], fun i i0 i1 => ?_, fun i i0 i1 => ?_⟩
  · rw [d 6 (by decide)] at i1
    rw [d 40 (by decide), hb' i i0 i1]
    exact r3 i i0 i1
  · rw [e6] at i1
    rw [e40]
    exact hb i i0 i1
theorem c_type1 {μ : MMem} (hx : XB μ) {b : Int} (hb : 0 ≤ b ∧ b < 256) (hl : μ 7 2 < 39) : ∃ μ' : MMem, TXB (m_w (m_w μ 41 (μ 7 2) b) 7 2 (μ 7 2 + 1)) μ' ((μ 7 2).toNat + 1) ∧ ∀ Q : MVal → MMem → Prop, Cal 41 [(9, 0), (0, 1), (0, b)] μ Q = Q (0, μ 7 2 + 1) (m_w μ' 0 9 1) := by
  obtain ⟨x1, x2, -⟩ := hx
  have en : (((μ 7 2).toNat : Nat) : Int) = μ 7 2 := by omega
  obtain ⟨μ1, t1, c1⟩ := c_appB (μ := μ) (n := (μ 7 2).toNat) (by omega) en.symm (fun i i0 i1 => x2 i i0 (by omega)) hb
  rw [en] at t1
  refine ⟨μ1, t1, fun Q => ?_⟩
  refine cal_eq rfl ?_ Q
  show Rn 41 B41_0 [(9, 0), (0, 1), (0, b), (14, 0)] [] μ _
  have hb1 : (0 ≤ b ∧ b < 256) = True := eq_true hb
  have hl1 : (39 ≤ μ 7 2) = False := eq_false (by omega)
  have e2 : m_w μ1 0 9 1 7 2 = μ 7 2 + 1 := by
    rw [mw_ne (by decide), t1.2.2.2.2 2 (by decide), mw_at, if_pos rfl]
  simp only [t41_0, B41_0, t41_1, B41_1, t41_2, B41_2, t41_3, B41_3, Classical.not_not, Prod.mk.injEq, m_l, m_lp, m_lq, m_ps, m_ws, m_en, List.replicate, if_true, if_false, reduceIte, true_and, and_true, false_and, and_false, true_or, or_true, false_or, or_false, and_self, or_self, not_true_eq_false, not_false_eq_true, ne_eq, Nat.reduceLeDiff, Nat.reduceEqDiff, Nat.reduceAdd, Int.reduceLE, Int.reduceLT, Int.reduceEq, Int.reduceNe, Int.reduceAdd, Int.reduceNeg, Nat.reduceSub, Nat.succ_ne_zero, Nat.not_succ_le_zero, Nat.reduceMul, Int.reduceMul, Int.reduceSub, Int.reduceToNat, Nat.zero_le, Nat.reduceLT, r_0, r_1, r_2, r_3, r_4, r_5, r_6, r_7, r_9, r_10, r_11, r_12, r_13, r_14, r_15, r_16, r_17, r_18, r_19, r_20_0, r_21_0, r_20_1, r_21_1, r_20_2, r_21_2, r_20_3, r_21_3, r_20_4, r_21_4, r_20_5, r_21_5, r_22_0, r_22_1, r_23, r_24, r_25, r_26, r_27, r_28, r_29, r_30_0, r_30_1, r_30_2, r_31, r_31b, r_32, r_33, r_33b, r_33c, r_34, r_34b, r_35, r_45, r_46, r_47_0, r_47_1, r_40, r_50, r_51, r_41_0, r_41_1, r_42, r_43, r_44, r_36_0, r_37_0, r_38_0, r_48_0, r_36_1, r_37_1, r_38_1, r_48_1, r_36_2, r_37_2, r_38_2, r_48_2, r_36_3, r_37_3, r_36_4, r_37_4, r_36_5, r_37_5, r_39, r_8, al_13, al_14, al_15, al_16, al_18, al_19, al_25, al_26, al_27, al_28, al_29, al_30, al_31, al_32, al_33, al_34, al_35, al_36, al_37, al_38, al_39, al_40, al_41, al_42, al_43, al_44, al_45, al_46, al_48, al_49, al_50, al_51, al_52, al_53, al_54, al_55, al_56, al_57, al_58, al_59, al_60, al_61, al_62, al_63, al_64, al_65, al_66, al_67, al_68, al_69, al_70, rf_0_0, rf_0_1, rf_0_2, rf_0_3, rf_0_4, rf_0_5, rf_0_6, rf_0_7, rf_0_8, rf_0_10, rf_0_11, rf_1_0, rf_1_1, rf_1_2, rf_2_0, rf_2_1, rf_2_2, rf_3_0, rf_3_1, rf_3_2, rf_4_0, rf_4_1, rf_4_2, rf_5_0, rf_5_1, rf_5_2, rf_6_0, rf_6_1, rf_7_0, rf_7_1, rf_8_0, rf_8_1, rf_8_5, rf_8_6, rf_8_7, rf_8_8, rf_8_9, rf_9_0, rf_10_0, rf_11_0, rf_12_0, rf_47_0, rf_47_1, rf_47_2, rf_47_3, rf_47_5, rf_47_6, rf_47_8, rf_47_10, rf_47_12, rf_47_14, rf_47_15, rf_47_16, rf_47_17, rf_47_18, rf_47_19, rf_47_20, rf_47_21, rf_47_22, rf_47_23, rf_47_24, rf_47_26, rf_47_27, rf_47_29, rf_17, rf_20, rf_21, rf_22, rf_23, rf_24, rl_17, rl_20, rl_21, rl_22, rl_23, rl_24, c_textOf, c_isBelow, b0, hb1, ntf, c_fullB, hl1, c1, e2]
theorem c_typf1 {μ : MMem} {b : Int} (hb : 0 ≤ b ∧ b < 256) (hl : 39 ≤ μ 7 2) (Q : MVal → MMem → Prop) : Cal 41 [(9, 0), (0, 1), (0, b)] μ Q = Q (0, -4) μ := by
  refine cal_eq rfl ?_ Q
  show Rn 41 B41_0 [(9, 0), (0, 1), (0, b), (14, 0)] [] μ _
  have hb1 : (0 ≤ b ∧ b < 256) = True := eq_true hb
  have hl1 : (39 ≤ μ 7 2) = True := eq_true hl
  simp only [t41_0, B41_0, t41_1, B41_1, t41_2, B41_2, t41_3, B41_3, Classical.not_not, Prod.mk.injEq, m_l, m_lp, m_lq, m_ps, m_ws, m_en, List.replicate, if_true, if_false, reduceIte, true_and, and_true, false_and, and_false, true_or, or_true, false_or, or_false, and_self, or_self, not_true_eq_false, not_false_eq_true, ne_eq, Nat.reduceLeDiff, Nat.reduceEqDiff, Nat.reduceAdd, Int.reduceLE, Int.reduceLT, Int.reduceEq, Int.reduceNe, Int.reduceAdd, Int.reduceNeg, Nat.reduceSub, Nat.succ_ne_zero, Nat.not_succ_le_zero, Nat.reduceMul, Int.reduceMul, Int.reduceSub, Int.reduceToNat, Nat.zero_le, Nat.reduceLT, r_0, r_1, r_2, r_3, r_4, r_5, r_6, r_7, r_9, r_10, r_11, r_12, r_13, r_14, r_15, r_16, r_17, r_18, r_19, r_20_0, r_21_0, r_20_1, r_21_1, r_20_2, r_21_2, r_20_3, r_21_3, r_20_4, r_21_4, r_20_5, r_21_5, r_22_0, r_22_1, r_23, r_24, r_25, r_26, r_27, r_28, r_29, r_30_0, r_30_1, r_30_2, r_31, r_31b, r_32, r_33, r_33b, r_33c, r_34, r_34b, r_35, r_45, r_46, r_47_0, r_47_1, r_40, r_50, r_51, r_41_0, r_41_1, r_42, r_43, r_44, r_36_0, r_37_0, r_38_0, r_48_0, r_36_1, r_37_1, r_38_1, r_48_1, r_36_2, r_37_2, r_38_2, r_48_2, r_36_3, r_37_3, r_36_4, r_37_4, r_36_5, r_37_5, r_39, r_8, al_13, al_14, al_15, al_16, al_18, al_19, al_25, al_26, al_27, al_28, al_29, al_30, al_31, al_32, al_33, al_34, al_35, al_36, al_37, al_38, al_39, al_40, al_41, al_42, al_43, al_44, al_45, al_46, al_48, al_49, al_50, al_51, al_52, al_53, al_54, al_55, al_56, al_57, al_58, al_59, al_60, al_61, al_62, al_63, al_64, al_65, al_66, al_67, al_68, al_69, al_70, rf_0_0, rf_0_1, rf_0_2, rf_0_3, rf_0_4, rf_0_5, rf_0_6, rf_0_7, rf_0_8, rf_0_10, rf_0_11, rf_1_0, rf_1_1, rf_1_2, rf_2_0, rf_2_1, rf_2_2, rf_3_0, rf_3_1, rf_3_2, rf_4_0, rf_4_1, rf_4_2, rf_5_0, rf_5_1, rf_5_2, rf_6_0, rf_6_1, rf_7_0, rf_7_1, rf_8_0, rf_8_1, rf_8_5, rf_8_6, rf_8_7, rf_8_8, rf_8_9, rf_9_0, rf_10_0, rf_11_0, rf_12_0, rf_47_0, rf_47_1, rf_47_2, rf_47_3, rf_47_5, rf_47_6, rf_47_8, rf_47_10, rf_47_12, rf_47_14, rf_47_15, rf_47_16, rf_47_17, rf_47_18, rf_47_19, rf_47_20, rf_47_21, rf_47_22, rf_47_23, rf_47_24, rf_47_26, rf_47_27, rf_47_29, rf_17, rf_20, rf_21, rf_22, rf_23, rf_24, rl_17, rl_20, rl_21, rl_22, rl_23, rl_24, c_textOf, c_isBelow, b0, hb1, ntf, c_fullB, hl1]
theorem l_type1 {μ : MMem} (h : INV μ) {b : Int} (hb : 0 ≤ b ∧ b < 256) : LW 0 41 119 [(0, 1), (0, b)] μ := by
  have hx := h.2.1
  obtain ⟨r1, r2, r3, r4⟩ := h.2.2.2.1
  have n1 := hx.1
  by_cases hl : μ 7 2 < 39
  · obtain ⟨μ1, t1, c1⟩ := c_type1 hx hb hl
    have f := t1.2.2.2.1
    have e53 : m_w μ1 0 9 1 53 = μ 53 := by rw [mw_ne (by decide), f 53 (by decide) (by decide) (by decide), mw_ne (by decide), mw_ne (by decide)]
    have e52 : m_w μ1 0 9 1 52 = μ 52 := by rw [mw_ne (by decide), f 52 (by decide) (by decide) (by decide), mw_ne (by decide), mw_ne (by decide)]
    have c2 := fun Q => d_type_ok (μ := m_w μ1 0 9 1) (t := 1) (b := b) (by decide) hb (by rw [e53, r2]; exact n1.1) (by rw [e53, r2]; exact hl) Q
    unfold tyW at c2
    rw [e53, r2] at c2
    refine ⟨_, _, _, c1, c2, ?_, ?_, ?_⟩
    · refine h.txB (κ := m_w (m_w μ 41 (μ 7 2) b) 7 2 (μ 7 2 + 1)) (μ' := μ1) (n := (μ 7 2).toNat + 1) (by omega) (fun a a1 a2 => by rw [mw_ne a1, mw_ne a2]) (by rw [mw_at, if_pos rfl]; omega) (fun i i0 i1 => ?_) t1 (fun a a1 a2 a3 => by rw [mw_ne a3, mw_ne a2, mw_ne a1]) ?_ ?_ ?_ ?_ (fun i i0 i1 => ?_) (fun i i0 i1 => ?_)
      · rw [mw_ne (by decide), mw_at]
        split
        · exact hb
        · exact hx.2.1 i i0 (by omega)
      · simp only [mw8, Classical.not_not, Prod.mk.injEq, m_l, m_lp, m_lq, m_ps, m_ws, m_en, List.replicate, if_true, if_false, reduceIte, true_and, and_true, false_and, and_false, true_or, or_true, false_or, or_false, and_self, or_self, not_true_eq_false, not_false_eq_true, ne_eq, Nat.reduceLeDiff, Nat.reduceEqDiff, Nat.reduceAdd, Int.reduceLE, Int.reduceLT, Int.reduceEq, Int.reduceNe, Int.reduceAdd, Int.reduceNeg, Nat.reduceSub, Nat.succ_ne_zero, Nat.not_succ_le_zero, Nat.reduceMul, Int.reduceMul, Int.reduceSub, Int.reduceToNat, Nat.zero_le, Nat.reduceLT]
      · rw [mw_ne (by decide), mw_ne (by decide), mw_at, if_neg (by decide), f 0 (by decide) (by decide) (by decide), mw_ne (by decide), mw_ne (by decide)]
      · rw [mw_at, if_pos rfl]
        omega
      · rw [mw_at, if_neg (by decide), mw_ne (by decide), e53]
      · rw [mw_ne (by decide), mw_at, e52, mw_ne (by decide), mw_at]
        by_cases q : i = μ 7 2
        · rw [if_pos (by omega), if_pos q]
        · rw [if_neg (by omega), if_neg q]
          exact r4 i i0 (by omega)
      · have n2 := h.1.1
        rw [mw_ne (by decide), mw_at, if_neg (by omega), e52]
    · rw [mw_ne (by decide), mw_ne (by decide), mw_ne (by decide), f 202 (by decide) (by decide) (by decide), mw_ne (by decide), mw_ne (by decide)]
    · rw [mw_ne (by decide), f 202 (by decide) (by decide) (by decide), mw_ne (by decide), mw_ne (by decide)]
  · have c2 := fun Q => d_type_full (μ := μ) (t := 1) (b := b) (by decide) hb (by rw [r2]; show μ 7 2 = 39; omega) Q
    exact l_no h (c_typf1 hb (by omega)) c2
theorem c_wipe1 {μ : MMem} (hx : XB μ) : ∃ μ' : MMem, TXB (m_w μ 7 2 0) μ' 0 ∧ ∀ Q : MVal → MMem → Prop, Cal 42 [(9, 0), (0, 1)] μ Q = Q (0, μ 7 2) (m_w μ' 0 9 1) := by
  obtain ⟨x1, x2, -⟩ := hx
  have en : (((μ 7 2).toNat : Nat) : Int) = μ 7 2 := by omega
  obtain ⟨μ1, t1, c1⟩ := c_cutB (μ := μ) (n := (μ 7 2).toNat) (k := 0) (by omega) (by omega) en.symm (fun i i0 i1 => x2 i i0 (by omega))
  rw [show (((0 : Nat)) : Int) = 0 from rfl] at t1 c1
  refine ⟨μ1, t1, fun Q => ?_⟩
  refine cal_eq rfl ?_ Q
  show Rn 42 B42_0 [(9, 0), (0, 1), (14, 0), (14, 0)] [] μ _
  simp only [t42_0, B42_0, t42_1, B42_1, Classical.not_not, Prod.mk.injEq, m_l, m_lp, m_lq, m_ps, m_ws, m_en, List.replicate, if_true, if_false, reduceIte, true_and, and_true, false_and, and_false, true_or, or_true, false_or, or_false, and_self, or_self, not_true_eq_false, not_false_eq_true, ne_eq, Nat.reduceLeDiff, Nat.reduceEqDiff, Nat.reduceAdd, Int.reduceLE, Int.reduceLT, Int.reduceEq, Int.reduceNe, Int.reduceAdd, Int.reduceNeg, Nat.reduceSub, Nat.succ_ne_zero, Nat.not_succ_le_zero, Nat.reduceMul, Int.reduceMul, Int.reduceSub, Int.reduceToNat, Nat.zero_le, Nat.reduceLT, r_0, r_1, r_2, r_3, r_4, r_5, r_6, r_7, r_9, r_10, r_11, r_12, r_13, r_14, r_15, r_16, r_17, r_18, r_19, r_20_0, r_21_0, r_20_1, r_21_1, r_20_2, r_21_2, r_20_3, r_21_3, r_20_4, r_21_4, r_20_5, r_21_5, r_22_0, r_22_1, r_23, r_24, r_25, r_26, r_27, r_28, r_29, r_30_0, r_30_1, r_30_2, r_31, r_31b, r_32, r_33, r_33b, r_33c, r_34, r_34b, r_35, r_45, r_46, r_47_0, r_47_1, r_40, r_50, r_51, r_41_0, r_41_1, r_42, r_43, r_44, r_36_0, r_37_0, r_38_0, r_48_0, r_36_1, r_37_1, r_38_1, r_48_1, r_36_2, r_37_2, r_38_2, r_48_2, r_36_3, r_37_3, r_36_4, r_37_4, r_36_5, r_37_5, r_39, r_8, al_13, al_14, al_15, al_16, al_18, al_19, al_25, al_26, al_27, al_28, al_29, al_30, al_31, al_32, al_33, al_34, al_35, al_36, al_37, al_38, al_39, al_40, al_41, al_42, al_43, al_44, al_45, al_46, al_48, al_49, al_50, al_51, al_52, al_53, al_54, al_55, al_56, al_57, al_58, al_59, al_60, al_61, al_62, al_63, al_64, al_65, al_66, al_67, al_68, al_69, al_70, rf_0_0, rf_0_1, rf_0_2, rf_0_3, rf_0_4, rf_0_5, rf_0_6, rf_0_7, rf_0_8, rf_0_10, rf_0_11, rf_1_0, rf_1_1, rf_1_2, rf_2_0, rf_2_1, rf_2_2, rf_3_0, rf_3_1, rf_3_2, rf_4_0, rf_4_1, rf_4_2, rf_5_0, rf_5_1, rf_5_2, rf_6_0, rf_6_1, rf_7_0, rf_7_1, rf_8_0, rf_8_1, rf_8_5, rf_8_6, rf_8_7, rf_8_8, rf_8_9, rf_9_0, rf_10_0, rf_11_0, rf_12_0, rf_47_0, rf_47_1, rf_47_2, rf_47_3, rf_47_5, rf_47_6, rf_47_8, rf_47_10, rf_47_12, rf_47_14, rf_47_15, rf_47_16, rf_47_17, rf_47_18, rf_47_19, rf_47_20, rf_47_21, rf_47_22, rf_47_23, rf_47_24, rf_47_26, rf_47_27, rf_47_29, rf_17, rf_20, rf_21, rf_22, rf_23, rf_24, rl_17, rl_20, rl_21, rl_22, rl_23, rl_24, c_textOf, c1]
theorem c_undo1 {μ : MMem} (hx : XB μ) (h0 : μ 7 2 ≠ 0) : ∃ μ' : MMem, TXB (m_w μ 7 2 (μ 7 2 - 1)) μ' ((μ 7 2).toNat - 1) ∧ ∀ Q : MVal → MMem → Prop, Cal 43 [(9, 0), (0, 1)] μ Q = Q (0, μ 7 2 - 1) (m_w μ' 0 9 1) := by
  obtain ⟨x1, x2, -⟩ := hx
  have en : (((μ 7 2).toNat : Nat) : Int) = μ 7 2 := by omega
  have en1 : (((μ 7 2).toNat - 1 : Nat) : Int) = μ 7 2 - 1 := by omega
  obtain ⟨μ1, t1, c1⟩ := c_cutB (μ := μ) (n := (μ 7 2).toNat) (k := (μ 7 2).toNat - 1) (by omega) (by omega) en.symm (fun i i0 i1 => x2 i i0 (by omega))
  rw [en1] at t1 c1
  refine ⟨μ1, t1, fun Q => ?_⟩
  refine cal_eq rfl ?_ Q
  show Rn 43 B43_0 [(9, 0), (0, 1), (14, 0)] [] μ _
  have m1 : m_i 1 (μ 7 2) 1 = μ 7 2 - 1 := m_i1 (by omega) (by omega)
  have e2 : m_w μ1 0 9 1 7 2 = μ 7 2 - 1 := by
    rw [mw_ne (by decide), t1.2.2.2.2 2 (by decide), mw_at, if_pos rfl]
  simp only [t43_0, B43_0, t43_1, B43_1, t43_2, B43_2, Classical.not_not, Prod.mk.injEq, m_l, m_lp, m_lq, m_ps, m_ws, m_en, List.replicate, if_true, if_false, reduceIte, true_and, and_true, false_and, and_false, true_or, or_true, false_or, or_false, and_self, or_self, not_true_eq_false, not_false_eq_true, ne_eq, Nat.reduceLeDiff, Nat.reduceEqDiff, Nat.reduceAdd, Int.reduceLE, Int.reduceLT, Int.reduceEq, Int.reduceNe, Int.reduceAdd, Int.reduceNeg, Nat.reduceSub, Nat.succ_ne_zero, Nat.not_succ_le_zero, Nat.reduceMul, Int.reduceMul, Int.reduceSub, Int.reduceToNat, Nat.zero_le, Nat.reduceLT, r_0, r_1, r_2, r_3, r_4, r_5, r_6, r_7, r_9, r_10, r_11, r_12, r_13, r_14, r_15, r_16, r_17, r_18, r_19, r_20_0, r_21_0, r_20_1, r_21_1, r_20_2, r_21_2, r_20_3, r_21_3, r_20_4, r_21_4, r_20_5, r_21_5, r_22_0, r_22_1, r_23, r_24, r_25, r_26, r_27, r_28, r_29, r_30_0, r_30_1, r_30_2, r_31, r_31b, r_32, r_33, r_33b, r_33c, r_34, r_34b, r_35, r_45, r_46, r_47_0, r_47_1, r_40, r_50, r_51, r_41_0, r_41_1, r_42, r_43, r_44, r_36_0, r_37_0, r_38_0, r_48_0, r_36_1, r_37_1, r_38_1, r_48_1, r_36_2, r_37_2, r_38_2, r_48_2, r_36_3, r_37_3, r_36_4, r_37_4, r_36_5, r_37_5, r_39, r_8, al_13, al_14, al_15, al_16, al_18, al_19, al_25, al_26, al_27, al_28, al_29, al_30, al_31, al_32, al_33, al_34, al_35, al_36, al_37, al_38, al_39, al_40, al_41, al_42, al_43, al_44, al_45, al_46, al_48, al_49, al_50, al_51, al_52, al_53, al_54, al_55, al_56, al_57, al_58, al_59, al_60, al_61, al_62, al_63, al_64, al_65, al_66, al_67, al_68, al_69, al_70, rf_0_0, rf_0_1, rf_0_2, rf_0_3, rf_0_4, rf_0_5, rf_0_6, rf_0_7, rf_0_8, rf_0_10, rf_0_11, rf_1_0, rf_1_1, rf_1_2, rf_2_0, rf_2_1, rf_2_2, rf_3_0, rf_3_1, rf_3_2, rf_4_0, rf_4_1, rf_4_2, rf_5_0, rf_5_1, rf_5_2, rf_6_0, rf_6_1, rf_7_0, rf_7_1, rf_8_0, rf_8_1, rf_8_5, rf_8_6, rf_8_7, rf_8_8, rf_8_9, rf_9_0, rf_10_0, rf_11_0, rf_12_0, rf_47_0, rf_47_1, rf_47_2, rf_47_3, rf_47_5, rf_47_6, rf_47_8, rf_47_10, rf_47_12, rf_47_14, rf_47_15, rf_47_16, rf_47_17, rf_47_18, rf_47_19, rf_47_20, rf_47_21, rf_47_22, rf_47_23, rf_47_24, rf_47_26, rf_47_27, rf_47_29, rf_17, rf_20, rf_21, rf_22, rf_23, rf_24, rl_17, rl_20, rl_21, rl_22, rl_23, rl_24, c_textOf, m1, c1, e2, h0]
theorem l_cut1 {μ μ1 : MMem} (h : INV μ) {n : Nat} (hn : (n : Int) ≤ μ 7 2) (t1 : TXB (m_w μ 7 2 n) μ1 n) : INV (m_w (m_w μ1 0 9 1) 53 1 n) ∧ (m_w μ1 0 9 1) 53 = μ 53 ∧ (m_w (m_w μ1 0 9 1) 53 1 n) 202 = μ 202 := by
  have hx := h.2.1
  obtain ⟨r1, r2, r3, r4⟩ := h.2.2.2.1
  have n1 := hx.1
  have f := t1.2.2.2.1
  have e53 : m_w μ1 0 9 1 53 = μ 53 := by rw [mw_ne (by decide), f 53 (by decide) (by decide) (by decide), mw_ne (by decide)]
  have e52 : m_w μ1 0 9 1 52 = μ 52 := by rw [mw_ne (by decide), f 52 (by decide) (by decide) (by decide), mw_ne (by decide)]
  refine ⟨?_, e53, by rw [mw_ne (by decide), mw_ne (by decide), f 202 (by decide) (by decide) (by decide), mw_ne (by decide)]⟩
  refine h.txB (κ := m_w μ 7 2 n) (μ' := μ1) (n := n) (by omega) (fun a a1 a2 => by rw [mw_ne a1]) (by rw [mw_at, if_pos rfl]) (fun i i0 i1 => ?_) t1 (fun a a1 a2 a3 => by rw [mw_ne a3, mw_ne a1]) ?_ ?_ ?_ ?_ (fun i i0 i1 => ?_) (fun i i0 i1 => ?_)
  · rw [mw_ne (by decide)]
    exact hx.2.1 i i0 (by omega)
  · simp only [mw8, Classical.not_not, Prod.mk.injEq, m_l, m_lp, m_lq, m_ps, m_ws, m_en, List.replicate, if_true, if_false, reduceIte, true_and, and_true, false_and, and_false, true_or, or_true, false_or, or_false, and_self, or_self, not_true_eq_false, not_false_eq_true, ne_eq, Nat.reduceLeDiff, Nat.reduceEqDiff, Nat.reduceAdd, Int.reduceLE, Int.reduceLT, Int.reduceEq, Int.reduceNe, Int.reduceAdd, Int.reduceNeg, Nat.reduceSub, Nat.succ_ne_zero, Nat.not_succ_le_zero, Nat.reduceMul, Int.reduceMul, Int.reduceSub, Int.reduceToNat, Nat.zero_le, Nat.reduceLT]
  · rw [mw_ne (by decide), mw_at, if_neg (by decide), f 0 (by decide) (by decide) (by decide), mw_ne (by decide)]
  · rw [mw_at, if_pos rfl]
  · rw [mw_at, if_neg (by decide), e53]
  · rw [mw_ne (by decide), e52, mw_ne (by decide)]
    exact r4 i i0 (by omega)
  · rw [mw_ne (by decide), e52]
theorem l_wipe1 {μ : MMem} (h : INV μ) : LW 0 42 120 [(0, 1)] μ := by
  have n1 := h.2.1.1
  obtain ⟨μ1, t1, c1⟩ := c_wipe1 h.2.1
  obtain ⟨hI, e53, es⟩ := l_cut1 h (n := 0) n1.1 t1
  have c2 := d_wipe (m_w μ1 0 9 1) 1
  rw [if_pos (by decide), if_pos (by decide), e53, h.2.2.2.1.2.1] at c2
  exact ⟨_, _, _, c1, c2, hI, es, by rw [mw_ne (by decide), t1.2.2.2.1 202 (by decide) (by decide) (by decide), mw_ne (by decide)]⟩
theorem l_undo1 {μ : MMem} (h : INV μ) : LW 0 43 121 [(0, 1)] μ := by
  have n1 := h.2.1.1
  have r1 := h.2.2.2.1.2.1
  by_cases q : μ 7 2 = 0
  · have c2 := d_undo μ 1 (fun _ _ => by omega)
    rw [if_pos (by decide), if_pos (by omega), if_neg (fun z => z.2 (by omega))] at c2
    refine l_no h (fun Q => ?_) c2
    refine cal_eq rfl ?_ Q
    show Rn 43 B43_0 [(9, 0), (0, 1), (14, 0)] [] μ _
    simp only [t43_0, B43_0, t43_1, B43_1, t43_2, B43_2, Classical.not_not, Prod.mk.injEq, m_l, m_lp, m_lq, m_ps, m_ws, m_en, List.replicate, if_true, if_false, reduceIte, true_and, and_true, false_and, and_false, true_or, or_true, false_or, or_false, and_self, or_self, not_true_eq_false, not_false_eq_true, ne_eq, Nat.reduceLeDiff, Nat.reduceEqDiff, Nat.reduceAdd, Int.reduceLE, Int.reduceLT, Int.reduceEq, Int.reduceNe, Int.reduceAdd, Int.reduceNeg, Nat.reduceSub, Nat.succ_ne_zero, Nat.not_succ_le_zero, Nat.reduceMul, Int.reduceMul, Int.reduceSub, Int.reduceToNat, Nat.zero_le, Nat.reduceLT, r_0, r_1, r_2, r_3, r_4, r_5, r_6, r_7, r_9, r_10, r_11, r_12, r_13, r_14, r_15, r_16, r_17, r_18, r_19, r_20_0, r_21_0, r_20_1, r_21_1, r_20_2, r_21_2, r_20_3, r_21_3, r_20_4, r_21_4, r_20_5, r_21_5, r_22_0, r_22_1, r_23, r_24, r_25, r_26, r_27, r_28, r_29, r_30_0, r_30_1, r_30_2, r_31, r_31b, r_32, r_33, r_33b, r_33c, r_34, r_34b, r_35, r_45, r_46, r_47_0, r_47_1, r_40, r_50, r_51, r_41_0, r_41_1, r_42, r_43, r_44, r_36_0, r_37_0, r_38_0, r_48_0, r_36_1, r_37_1, r_38_1, r_48_1, r_36_2, r_37_2, r_38_2, r_48_2, r_36_3, r_37_3, r_36_4, r_37_4, r_36_5, r_37_5, r_39, r_8, al_13, al_14, al_15, al_16, al_18, al_19, al_25, al_26, al_27, al_28, al_29, al_30, al_31, al_32, al_33, al_34, al_35, al_36, al_37, al_38, al_39, al_40, al_41, al_42, al_43, al_44, al_45, al_46, al_48, al_49, al_50, al_51, al_52, al_53, al_54, al_55, al_56, al_57, al_58, al_59, al_60, al_61, al_62, al_63, al_64, al_65, al_66, al_67, al_68, al_69, al_70, rf_0_0, rf_0_1, rf_0_2, rf_0_3, rf_0_4, rf_0_5, rf_0_6, rf_0_7, rf_0_8, rf_0_10, rf_0_11, rf_1_0, rf_1_1, rf_1_2, rf_2_0, rf_2_1, rf_2_2, rf_3_0, rf_3_1, rf_3_2, rf_4_0, rf_4_1, rf_4_2, rf_5_0, rf_5_1, rf_5_2, rf_6_0, rf_6_1, rf_7_0, rf_7_1, rf_8_0, rf_8_1, rf_8_5, rf_8_6, rf_8_7, rf_8_8, rf_8_9, rf_9_0, rf_10_0, rf_11_0, rf_12_0, rf_47_0, rf_47_1, rf_47_2, rf_47_3, rf_47_5, rf_47_6, rf_47_8, rf_47_10, rf_47_12, rf_47_14, rf_47_15, rf_47_16, rf_47_17, rf_47_18, rf_47_19, rf_47_20, rf_47_21, rf_47_22, rf_47_23, rf_47_24, rf_47_26, rf_47_27, rf_47_29, rf_17, rf_20, rf_21, rf_22, rf_23, rf_24, rl_17, rl_20, rl_21, rl_22, rl_23, rl_24, c_textOf, q]
  · obtain ⟨μ1, t1, c1⟩ := c_undo1 h.2.1 q
    have en1 : (((μ 7 2).toNat - 1 : Nat) : Int) = μ 7 2 - 1 := by omega
    obtain ⟨hI, e53, es⟩ := l_cut1 h (n := (μ 7 2).toNat - 1) (by omega) (by rw [en1]; exact t1)
    rw [en1] at hI es
    have c2 := d_undo (m_w μ1 0 9 1) 1 (fun _ _ => by rw [e53]; omega)
    rw [if_pos (by decide), e53, r1, if_neg q, if_pos ⟨by decide, q⟩] at c2
    exact ⟨_, _, _, c1, c2, hI, es, by rw [mw_ne (by decide), t1.2.2.2.1 202 (by decide) (by decide) (by decide), mw_ne (by decide)]⟩
theorem l_type {μ : MMem} (h : INV μ) (t b : Int) : LW 0 41 119 [(0, t), (0, b)] μ := by
  by_cases hb : (0 ≤ t ∧ t ≤ 1) ∧ (0 ≤ b ∧ b < 256)
  · have h2 : t = 0 ∨ t = 1 := by omega
    rcases h2 with rfl | rfl
    · exact l_type0 h hb.2
    · exact l_type1 h hb.2
  · refine l_no h (fun Q => ?_) (fun Q => d_type_bad hb Q)
    refine cal_eq rfl ?_ Q
    show Rn 41 B41_0 [(9, 0), (0, t), (0, b), (14, 0)] [] μ _
    by_cases ht : 0 ≤ t ∧ t ≤ 1
    · have hb1 : (0 ≤ b ∧ b < 256) = False := eq_false (fun z => hb ⟨ht, z⟩)
      have h2 : t = 0 ∨ t = 1 := by omega
      rcases h2 with rfl | rfl
      · simp only [t41_0, B41_0, t41_1, B41_1, t41_2, B41_2, t41_3, B41_3, Classical.not_not, Prod.mk.injEq, m_l, m_lp, m_lq, m_ps, m_ws, m_en, List.replicate, if_true, if_false, reduceIte, true_and, and_true, false_and, and_false, true_or, or_true, false_or, or_false, and_self, or_self, not_true_eq_false, not_false_eq_true, ne_eq, Nat.reduceLeDiff, Nat.reduceEqDiff, Nat.reduceAdd, Int.reduceLE, Int.reduceLT, Int.reduceEq, Int.reduceNe, Int.reduceAdd, Int.reduceNeg, Nat.reduceSub, Nat.succ_ne_zero, Nat.not_succ_le_zero, Nat.reduceMul, Int.reduceMul, Int.reduceSub, Int.reduceToNat, Nat.zero_le, Nat.reduceLT, r_0, r_1, r_2, r_3, r_4, r_5, r_6, r_7, r_9, r_10, r_11, r_12, r_13, r_14, r_15, r_16, r_17, r_18, r_19, r_20_0, r_21_0, r_20_1, r_21_1, r_20_2, r_21_2, r_20_3, r_21_3, r_20_4, r_21_4, r_20_5, r_21_5, r_22_0, r_22_1, r_23, r_24, r_25, r_26, r_27, r_28, r_29, r_30_0, r_30_1, r_30_2, r_31, r_31b, r_32, r_33, r_33b, r_33c, r_34, r_34b, r_35, r_45, r_46, r_47_0, r_47_1, r_40, r_50, r_51, r_41_0, r_41_1, r_42, r_43, r_44, r_36_0, r_37_0, r_38_0, r_48_0, r_36_1, r_37_1, r_38_1, r_48_1, r_36_2, r_37_2, r_38_2, r_48_2, r_36_3, r_37_3, r_36_4, r_37_4, r_36_5, r_37_5, r_39, r_8, al_13, al_14, al_15, al_16, al_18, al_19, al_25, al_26, al_27, al_28, al_29, al_30, al_31, al_32, al_33, al_34, al_35, al_36, al_37, al_38, al_39, al_40, al_41, al_42, al_43, al_44, al_45, al_46, al_48, al_49, al_50, al_51, al_52, al_53, al_54, al_55, al_56, al_57, al_58, al_59, al_60, al_61, al_62, al_63, al_64, al_65, al_66, al_67, al_68, al_69, al_70, rf_0_0, rf_0_1, rf_0_2, rf_0_3, rf_0_4, rf_0_5, rf_0_6, rf_0_7, rf_0_8, rf_0_10, rf_0_11, rf_1_0, rf_1_1, rf_1_2, rf_2_0, rf_2_1, rf_2_2, rf_3_0, rf_3_1, rf_3_2, rf_4_0, rf_4_1, rf_4_2, rf_5_0, rf_5_1, rf_5_2, rf_6_0, rf_6_1, rf_7_0, rf_7_1, rf_8_0, rf_8_1, rf_8_5, rf_8_6, rf_8_7, rf_8_8, rf_8_9, rf_9_0, rf_10_0, rf_11_0, rf_12_0, rf_47_0, rf_47_1, rf_47_2, rf_47_3, rf_47_5, rf_47_6, rf_47_8, rf_47_10, rf_47_12, rf_47_14, rf_47_15, rf_47_16, rf_47_17, rf_47_18, rf_47_19, rf_47_20, rf_47_21, rf_47_22, rf_47_23, rf_47_24, rf_47_26, rf_47_27, rf_47_29, rf_17, rf_20, rf_21, rf_22, rf_23, rf_24, rl_17, rl_20, rl_21, rl_22, rl_23, rl_24, c_textOf, c_isBelow, b0, hb1]
      · simp only [t41_0, B41_0, t41_1, B41_1, t41_2, B41_2, t41_3, B41_3, Classical.not_not, Prod.mk.injEq, m_l, m_lp, m_lq, m_ps, m_ws, m_en, List.replicate, if_true, if_false, reduceIte, true_and, and_true, false_and, and_false, true_or, or_true, false_or, or_false, and_self, or_self, not_true_eq_false, not_false_eq_true, ne_eq, Nat.reduceLeDiff, Nat.reduceEqDiff, Nat.reduceAdd, Int.reduceLE, Int.reduceLT, Int.reduceEq, Int.reduceNe, Int.reduceAdd, Int.reduceNeg, Nat.reduceSub, Nat.succ_ne_zero, Nat.not_succ_le_zero, Nat.reduceMul, Int.reduceMul, Int.reduceSub, Int.reduceToNat, Nat.zero_le, Nat.reduceLT, r_0, r_1, r_2, r_3, r_4, r_5, r_6, r_7, r_9, r_10, r_11, r_12, r_13, r_14, r_15, r_16, r_17, r_18, r_19, r_20_0, r_21_0, r_20_1, r_21_1, r_20_2, r_21_2, r_20_3, r_21_3, r_20_4, r_21_4, r_20_5, r_21_5, r_22_0, r_22_1, r_23, r_24, r_25, r_26, r_27, r_28, r_29, r_30_0, r_30_1, r_30_2, r_31, r_31b, r_32, r_33, r_33b, r_33c, r_34, r_34b, r_35, r_45, r_46, r_47_0, r_47_1, r_40, r_50, r_51, r_41_0, r_41_1, r_42, r_43, r_44, r_36_0, r_37_0, r_38_0, r_48_0, r_36_1, r_37_1, r_38_1, r_48_1, r_36_2, r_37_2, r_38_2, r_48_2, r_36_3, r_37_3, r_36_4, r_37_4, r_36_5, r_37_5, r_39, r_8, al_13, al_14, al_15, al_16, al_18, al_19, al_25, al_26, al_27, al_28, al_29, al_30, al_31, al_32, al_33, al_34, al_35, al_36, al_37, al_38, al_39, al_40, al_41, al_42, al_43, al_44, al_45, al_46, al_48, al_49, al_50, al_51, al_52, al_53, al_54, al_55, al_56, al_57, al_58, al_59, al_60, al_61, al_62, al_63, al_64, al_65, al_66, al_67, al_68, al_69, al_70, rf_0_0, rf_0_1, rf_0_2, rf_0_3, rf_0_4, rf_0_5, rf_0_6, rf_0_7, rf_0_8, rf_0_10, rf_0_11, rf_1_0, rf_1_1, rf_1_2, rf_2_0, rf_2_1, rf_2_2, rf_3_0, rf_3_1, rf_3_2, rf_4_0, rf_4_1, rf_4_2, rf_5_0, rf_5_1, rf_5_2, rf_6_0, rf_6_1, rf_7_0, rf_7_1, rf_8_0, rf_8_1, rf_8_5, rf_8_6, rf_8_7, rf_8_8, rf_8_9, rf_9_0, rf_10_0, rf_11_0, rf_12_0, rf_47_0, rf_47_1, rf_47_2, rf_47_3, rf_47_5, rf_47_6, rf_47_8, rf_47_10, rf_47_12, rf_47_14, rf_47_15, rf_47_16, rf_47_17, rf_47_18, rf_47_19, rf_47_20, rf_47_21, rf_47_22, rf_47_23, rf_47_24, rf_47_26, rf_47_27, rf_47_29, rf_17, rf_20, rf_21, rf_22, rf_23, rf_24, rl_17, rl_20, rl_21, rl_22, rl_23, rl_24, c_textOf, c_isBelow, b0, hb1]
    · have t0 : (t = 0) = False := eq_false (by omega)
      have t1 : (t = 1) = False := eq_false (by omega)
      simp only [t41_0, B41_0, t41_1, B41_1, t41_2, B41_2, t41_3, B41_3, Classical.not_not, Prod.mk.injEq, m_l, m_lp, m_lq, m_ps, m_ws, m_en, List.replicate, if_true, if_false, reduceIte, true_and, and_true, false_and, and_false, true_or, or_true, false_or, or_false, and_self, or_self, not_true_eq_false, not_false_eq_true, ne_eq, Nat.reduceLeDiff, Nat.reduceEqDiff, Nat.reduceAdd, Int.reduceLE, Int.reduceLT, Int.reduceEq, Int.reduceNe, Int.reduceAdd, Int.reduceNeg, Nat.reduceSub, Nat.succ_ne_zero, Nat.not_succ_le_zero, Nat.reduceMul, Int.reduceMul, Int.reduceSub, Int.reduceToNat, Nat.zero_le, Nat.reduceLT, r_0, r_1, r_2, r_3, r_4, r_5, r_6, r_7, r_9, r_10, r_11, r_12, r_13, r_14, r_15, r_16, r_17, r_18, r_19, r_20_0, r_21_0, r_20_1, r_21_1, r_20_2, r_21_2, r_20_3, r_21_3, r_20_4, r_21_4, r_20_5, r_21_5, r_22_0, r_22_1, r_23, r_24, r_25, r_26, r_27, r_28, r_29, r_30_0, r_30_1, r_30_2, r_31, r_31b, r_32, r_33, r_33b, r_33c, r_34, r_34b, r_35, r_45, r_46, r_47_0, r_47_1, r_40, r_50, r_51, r_41_0, r_41_1, r_42, r_43, r_44, r_36_0, r_37_0, r_38_0, r_48_0, r_36_1, r_37_1, r_38_1, r_48_1, r_36_2, r_37_2, r_38_2, r_48_2, r_36_3, r_37_3, r_36_4, r_37_4, r_36_5, r_37_5, r_39, r_8, al_13, al_14, al_15, al_16, al_18, al_19, al_25, al_26, al_27, al_28, al_29, al_30, al_31, al_32, al_33, al_34, al_35, al_36, al_37, al_38, al_39, al_40, al_41, al_42, al_43, al_44, al_45, al_46, al_48, al_49, al_50, al_51, al_52, al_53, al_54, al_55, al_56, al_57, al_58, al_59, al_60, al_61, al_62, al_63, al_64, al_65, al_66, al_67, al_68, al_69, al_70, rf_0_0, rf_0_1, rf_0_2, rf_0_3, rf_0_4, rf_0_5, rf_0_6, rf_0_7, rf_0_8, rf_0_10, rf_0_11, rf_1_0, rf_1_1, rf_1_2, rf_2_0, rf_2_1, rf_2_2, rf_3_0, rf_3_1, rf_3_2, rf_4_0, rf_4_1, rf_4_2, rf_5_0, rf_5_1, rf_5_2, rf_6_0, rf_6_1, rf_7_0, rf_7_1, rf_8_0, rf_8_1, rf_8_5, rf_8_6, rf_8_7, rf_8_8, rf_8_9, rf_9_0, rf_10_0, rf_11_0, rf_12_0, rf_47_0, rf_47_1, rf_47_2, rf_47_3, rf_47_5, rf_47_6, rf_47_8, rf_47_10, rf_47_12, rf_47_14, rf_47_15, rf_47_16, rf_47_17, rf_47_18, rf_47_19, rf_47_20, rf_47_21, rf_47_22, rf_47_23, rf_47_24, rf_47_26, rf_47_27, rf_47_29, rf_17, rf_20, rf_21, rf_22, rf_23, rf_24, rl_17, rl_20, rl_21, rl_22, rl_23, rl_24, c_textOf, t0, t1]
theorem l_wipe {μ : MMem} (h : INV μ) (t : Int) : LW 0 42 120 [(0, t)] μ := by
  by_cases ht : 0 ≤ t ∧ t ≤ 1
  · have h2 : t = 0 ∨ t = 1 := by omega
    rcases h2 with rfl | rfl
    · exact l_wipe0 h
    · exact l_wipe1 h
  · have c2 := d_wipe μ t
    rw [if_neg ht, if_neg ht] at c2
    refine l_no h (fun Q => ?_) c2
    refine cal_eq rfl ?_ Q
    show Rn 42 B42_0 [(9, 0), (0, t), (14, 0), (14, 0)] [] μ _
    have t0 : (t = 0) = False := eq_false (by omega)
    have t1 : (t = 1) = False := eq_false (by omega)
    simp only [t42_0, B42_0, t42_1, B42_1, Classical.not_not, Prod.mk.injEq, m_l, m_lp, m_lq, m_ps, m_ws, m_en, List.replicate, if_true, if_false, reduceIte, true_and, and_true, false_and, and_false, true_or, or_true, false_or, or_false, and_self, or_self, not_true_eq_false, not_false_eq_true, ne_eq, Nat.reduceLeDiff, Nat.reduceEqDiff, Nat.reduceAdd, Int.reduceLE, Int.reduceLT, Int.reduceEq, Int.reduceNe, Int.reduceAdd, Int.reduceNeg, Nat.reduceSub, Nat.succ_ne_zero, Nat.not_succ_le_zero, Nat.reduceMul, Int.reduceMul, Int.reduceSub, Int.reduceToNat, Nat.zero_le, Nat.reduceLT, r_0, r_1, r_2, r_3, r_4, r_5, r_6, r_7, r_9, r_10, r_11, r_12, r_13, r_14, r_15, r_16, r_17, r_18, r_19, r_20_0, r_21_0, r_20_1, r_21_1, r_20_2, r_21_2, r_20_3, r_21_3, r_20_4, r_21_4, r_20_5, r_21_5, r_22_0, r_22_1, r_23, r_24, r_25, r_26, r_27, r_28, r_29, r_30_0, r_30_1, r_30_2, r_31, r_31b, r_32, r_33, r_33b, r_33c, r_34, r_34b, r_35, r_45, r_46, r_47_0, r_47_1, r_40, r_50, r_51, r_41_0, r_41_1, r_42, r_43, r_44, r_36_0, r_37_0, r_38_0, r_48_0, r_36_1, r_37_1, r_38_1, r_48_1, r_36_2, r_37_2, r_38_2, r_48_2, r_36_3, r_37_3, r_36_4, r_37_4, r_36_5, r_37_5, r_39, r_8, al_13, al_14, al_15, al_16, al_18, al_19, al_25, al_26, al_27, al_28, al_29, al_30, al_31, al_32, al_33, al_34, al_35, al_36, al_37, al_38, al_39, al_40, al_41, al_42, al_43, al_44, al_45, al_46, al_48, al_49, al_50, al_51, al_52, al_53, al_54, al_55, al_56, al_57, al_58, al_59, al_60, al_61, al_62, al_63, al_64, al_65, al_66, al_67, al_68, al_69, al_70, rf_0_0, rf_0_1, rf_0_2, rf_0_3, rf_0_4, rf_0_5, rf_0_6, rf_0_7, rf_0_8, rf_0_10, rf_0_11, rf_1_0, rf_1_1, rf_1_2, rf_2_0, rf_2_1, rf_2_2, rf_3_0, rf_3_1, rf_3_2, rf_4_0, rf_4_1, rf_4_2, rf_5_0, rf_5_1, rf_5_2, rf_6_0, rf_6_1, rf_7_0, rf_7_1, rf_8_0, rf_8_1, rf_8_5, rf_8_6, rf_8_7, rf_8_8, rf_8_9, rf_9_0, rf_10_0, rf_11_0, rf_12_0, rf_47_0, rf_47_1, rf_47_2, rf_47_3, rf_47_5, rf_47_6, rf_47_8, rf_47_10, rf_47_12, rf_47_14, rf_47_15, rf_47_16, rf_47_17, rf_47_18, rf_47_19, rf_47_20, rf_47_21, rf_47_22, rf_47_23, rf_47_24, rf_47_26, rf_47_27, rf_47_29, rf_17, rf_20, rf_21, rf_22, rf_23, rf_24, rl_17, rl_20, rl_21, rl_22, rl_23, rl_24, c_textOf, t0, t1]
theorem l_undo {μ : MMem} (h : INV μ) (t : Int) : LW 0 43 121 [(0, t)] μ := by
  by_cases ht : 0 ≤ t ∧ t ≤ 1
  · have h2 : t = 0 ∨ t = 1 := by omega
    rcases h2 with rfl | rfl
    · exact l_undo0 h
    · exact l_undo1 h
  · have c2 := d_undo μ t (fun a b => absurd ⟨a, b⟩ ht)
    rw [if_neg ht, if_neg (fun z => ht z.1)] at c2
    refine l_no h (fun Q => ?_) c2
    refine cal_eq rfl ?_ Q
    show Rn 43 B43_0 [(9, 0), (0, t), (14, 0)] [] μ _
    have t0 : (t = 0) = False := eq_false (by omega)
    have t1 : (t = 1) = False := eq_false (by omega)
    simp only [t43_0, B43_0, t43_1, B43_1, t43_2, B43_2, Classical.not_not, Prod.mk.injEq, m_l, m_lp, m_lq, m_ps, m_ws, m_en, List.replicate, if_true, if_false, reduceIte, true_and, and_true, false_and, and_false, true_or, or_true, false_or, or_false, and_self, or_self, not_true_eq_false, not_false_eq_true, ne_eq, Nat.reduceLeDiff, Nat.reduceEqDiff, Nat.reduceAdd, Int.reduceLE, Int.reduceLT, Int.reduceEq, Int.reduceNe, Int.reduceAdd, Int.reduceNeg, Nat.reduceSub, Nat.succ_ne_zero, Nat.not_succ_le_zero, Nat.reduceMul, Int.reduceMul, Int.reduceSub, Int.reduceToNat, Nat.zero_le, Nat.reduceLT, r_0, r_1, r_2, r_3, r_4, r_5, r_6, r_7, r_9, r_10, r_11, r_12, r_13, r_14, r_15, r_16, r_17, r_18, r_19, r_20_0, r_21_0, r_20_1, r_21_1, r_20_2, r_21_2, r_20_3, r_21_3, r_20_4, r_21_4, r_20_5, r_21_5, r_22_0, r_22_1, r_23, r_24, r_25, r_26, r_27, r_28, r_29, r_30_0, r_30_1, r_30_2, r_31, r_31b, r_32, r_33, r_33b, r_33c, r_34, r_34b, r_35, r_45, r_46, r_47_0, r_47_1, r_40, r_50, r_51, r_41_0, r_41_1, r_42, r_43, r_44, r_36_0, r_37_0, r_38_0, r_48_0, r_36_1, r_37_1, r_38_1, r_48_1, r_36_2, r_37_2, r_38_2, r_48_2, r_36_3, r_37_3, r_36_4, r_37_4, r_36_5, r_37_5, r_39, r_8, al_13, al_14, al_15, al_16, al_18, al_19, al_25, al_26, al_27, al_28, al_29, al_30, al_31, al_32, al_33, al_34, al_35, al_36, al_37, al_38, al_39, al_40, al_41, al_42, al_43, al_44, al_45, al_46, al_48, al_49, al_50, al_51, al_52, al_53, al_54, al_55, al_56, al_57, al_58, al_59, al_60, al_61, al_62, al_63, al_64, al_65, al_66, al_67, al_68, al_69, al_70, rf_0_0, rf_0_1, rf_0_2, rf_0_3, rf_0_4, rf_0_5, rf_0_6, rf_0_7, rf_0_8, rf_0_10, rf_0_11, rf_1_0, rf_1_1, rf_1_2, rf_2_0, rf_2_1, rf_2_2, rf_3_0, rf_3_1, rf_3_2, rf_4_0, rf_4_1, rf_4_2, rf_5_0, rf_5_1, rf_5_2, rf_6_0, rf_6_1, rf_7_0, rf_7_1, rf_8_0, rf_8_1, rf_8_5, rf_8_6, rf_8_7, rf_8_8, rf_8_9, rf_9_0, rf_10_0, rf_11_0, rf_12_0, rf_47_0, rf_47_1, rf_47_2, rf_47_3, rf_47_5, rf_47_6, rf_47_8, rf_47_10, rf_47_12, rf_47_14, rf_47_15, rf_47_16, rf_47_17, rf_47_18, rf_47_19, rf_47_20, rf_47_21, rf_47_22, rf_47_23, rf_47_24, rf_47_26, rf_47_27, rf_47_29, rf_17, rf_20, rf_21, rf_22, rf_23, rf_24, rl_17, rl_20, rl_21, rl_22, rl_23, rl_24, c_textOf, t0, t1]
