/-- only the world changes: its own numbers and its doors and houses -/
def FB (μ μ' : MMem) : Prop := ∀ a, a ≠ 8 → (a < 42 ∨ 46 < a) → μ' a = μ a
theorem FB.rf (μ : MMem) : FB μ μ := fun _ _ _ => rfl
theorem FB.tr {μ μ' μ'' : MMem} (h : FB μ μ') (h2 : FB μ' μ'') : FB μ μ'' := fun a h8 ha => (h2 a h8 ha).trans (h a h8 ha)
theorem FW.fb {μ μ' : MMem} (h : FW μ μ') : FB μ μ' := fun a _ ha => h a ha
theorem FB.w {μ μ' : MMem} (h : FB μ μ') {i k v : Int} (hi : i = 8 ∨ (42 ≤ i ∧ i ≤ 46)) : FB μ (m_w μ' i k v) := fun a h8 ha => by
  rw [← h a h8 ha]
  funext b
  unfold m_w
  rw [if_neg (fun q => by omega)]
theorem CT.fb {μ μ' T : MMem} (h : CT μ T) (hf : FB μ μ') : CT μ' T := by
  unfold CT
  rw [hf 1 (by decide) (by decide), hf 2 (by decide) (by decide), hf 25 (by decide) (by decide), hf 26 (by decide) (by decide), hf 27 (by decide) (by decide), hf 28 (by decide) (by decide), hf 29 (by decide) (by decide), hf 30 (by decide) (by decide)]
  exact h
theorem CE.fb {μ μ' T : MMem} {ev : Int} (h : CE μ T ev) (hf : FB μ μ') : CE μ' T ev := by
  obtain ⟨h1, h2⟩ := h
  rcases h2 with ⟨rfl, h2⟩ | ⟨rfl, h2⟩
  · exact ⟨by rw [hf 3 (by decide) (by decide)]; exact h1, Or.inl ⟨rfl, by rw [hf 31 (by decide) (by decide), hf 32 (by decide) (by decide), hf 33 (by decide) (by decide)]; exact h2⟩⟩
  · exact ⟨by rw [hf 4 (by decide) (by decide)]; exact h1, Or.inr ⟨rfl, by rw [hf 34 (by decide) (by decide), hf 35 (by decide) (by decide), hf 36 (by decide) (by decide)]; exact h2⟩⟩
theorem mw8 (μ : MMem) (i k v a b : Int) : m_w μ i k v a b = if a = i ∧ b = k then v else μ a b := rfl
/-- between the loops: the houses are as told up to a, the doors are blank up to b, the years are noted -/
def BI (μ ν T : MMem) (ev z : Int) (a b : Int) : Prop := FB μ ν ∧ ν 8 2 = ev ∧ ν 8 3 = T 0 3 ∧ ν 8 4 = z ∧ (∀ i, 0 ≤ i → i < a → ν 42 i = T 2 i) ∧ ∀ k, 0 ≤ k → k < b → ν 43 k = 0 ∧ ν 44 k = 0 ∧ ν 45 k = 0 ∧ ν 46 k = -1
theorem w_bgE {μ T : MMem} {ev : Int} (hT : TW T) (hC : CT μ T) (hE : CE μ T ev) {Q : MVal → MMem → Prop} {g : Int} (h : ∀ ν, BI μ ν T ev (bzE T (ne T)) (T 0 0) (T 0 1) → Q (14, 0) ν) : ∀ (d b : Nat) (ν : MMem), b + d = ne T → BI μ ν T ev (bzE T b) (T 0 0) (T 0 1) → At 25 5 [(8, 8), (7, ev), (0, g), (0, (b : Int))] [] ν Q := by
  have h2 := ne_le hT
  have hb8 := hT.2.2.1
  intro d
  induction d with
  | zero =>
    intro b ν hb hB
    have e : b = ne T := by omega
    subst e
    obtain ⟨hE1, hE2⟩ := hE.fb hB.1
    rcases hE2 with ⟨rfl, hE2⟩ | ⟨rfl, hE2⟩
    · rw [t25_5]
      simp only [t25_0, t25_2, t25_4, t25_6, B25_0, B25_1, B25_2, B25_3, B25_4, B25_5, B25_6, Classical.not_not, Prod.mk.injEq, m_l, m_lp, m_lq, m_ps, m_ws, m_en, List.replicate, if_true, if_false, reduceIte, true_and, and_true, false_and, and_false, true_or, or_true, false_or, or_false, and_self, or_self, not_true_eq_false, not_false_eq_true, ne_eq, Nat.reduceLeDiff, Nat.reduceEqDiff, Nat.reduceAdd, Int.reduceLE, Int.reduceLT, Int.reduceEq, Int.reduceNe, Int.reduceAdd, Int.reduceNeg, Nat.reduceSub, Nat.succ_ne_zero, Nat.not_succ_le_zero, Nat.reduceMul, Int.reduceMul, Int.reduceSub, Int.reduceToNat, Nat.zero_le, Nat.reduceLT, r_0, r_1, r_2, r_3, r_4, r_5, r_6, r_7, r_9, r_10, r_11, r_12, r_13, r_14, r_15, r_16, r_17, r_18, r_19, r_20_0, r_21_0, r_20_1, r_21_1, r_20_2, r_21_2, r_20_3, r_21_3, r_20_4, r_21_4, r_20_5, r_21_5, r_22_0, r_22_1, r_23, r_24, r_25, r_26, r_27, r_28, r_29, r_30_0, r_30_1, r_30_2, r_31, r_31b, r_32, r_33, r_33b, r_33c, r_34, r_34b, r_35, r_45, r_46, r_47_0, r_47_1, r_40, r_50, r_51, r_41_0, r_41_1, r_42, r_43, r_44, r_36_0, r_37_0, r_38_0, r_48_0, r_36_1, r_37_1, r_38_1, r_48_1, r_36_2, r_37_2, r_38_2, r_48_2, r_36_3, r_37_3, r_36_4, r_37_4, r_36_5, r_37_5, r_39, r_8, al_13, al_14, al_15, al_16, al_18, al_19, al_25, al_26, al_27, al_28, al_29, al_30, al_31, al_32, al_33, al_34, al_35, al_36, al_37, al_38, al_39, al_40, al_41, al_42, al_43, al_44, al_45, al_46, al_48, al_49, al_50, al_51, al_52, al_53, al_54, al_55, al_56, al_57, al_58, al_59, al_60, al_61, al_62, al_63, al_64, al_65, al_66, al_67, al_68, al_69, al_70, rf_0_0, rf_0_1, rf_0_2, rf_0_3, rf_0_4, rf_0_5, rf_0_6, rf_0_7, rf_0_8, rf_0_10, rf_0_11, rf_1_0, rf_1_1, rf_1_2, rf_2_0, rf_2_1, rf_2_2, rf_3_0, rf_3_1, rf_3_2, rf_4_0, rf_4_1, rf_4_2, rf_5_0, rf_5_1, rf_5_2, rf_6_0, rf_6_1, rf_7_0, rf_7_1, rf_8_0, rf_8_1, rf_8_5, rf_8_6, rf_8_7, rf_8_8, rf_8_9, rf_9_0, rf_10_0, rf_11_0, rf_12_0, rf_47_0, rf_47_1, rf_47_2, rf_47_3, rf_47_5, rf_47_6, rf_47_8, rf_47_10, rf_47_12, rf_47_14, rf_47_15, rf_47_16, rf_47_17, rf_47_18, rf_47_19, rf_47_20, rf_47_21, rf_47_22, rf_47_23, rf_47_24, rf_47_26, rf_47_27, rf_47_29, rf_17, rf_20, rf_21, rf_22, rf_23, rf_24, rl_17, rl_20, rl_21, rl_22, rl_23, rl_24, hE1]
      rw [if_pos (by omega)]
      exact h ν hB
    · rw [t25_5]
      simp only [t25_0, t25_2, t25_4, t25_6, B25_0, B25_1, B25_2, B25_3, B25_4, B25_5, B25_6, Classical.not_not, Prod.mk.injEq, m_l, m_lp, m_lq, m_ps, m_ws, m_en, List.replicate, if_true, if_false, reduceIte, true_and, and_true, false_and, and_false, true_or, or_true, false_or, or_false, and_self, or_self, not_true_eq_false, not_false_eq_true, ne_eq, Nat.reduceLeDiff, Nat.reduceEqDiff, Nat.reduceAdd, Int.reduceLE, Int.reduceLT, Int.reduceEq, Int.reduceNe, Int.reduceAdd, Int.reduceNeg, Nat.reduceSub, Nat.succ_ne_zero, Nat.not_succ_le_zero, Nat.reduceMul, Int.reduceMul, Int.reduceSub, Int.reduceToNat, Nat.zero_le, Nat.reduceLT, r_0, r_1, r_2, r_3, r_4, r_5, r_6, r_7, r_9, r_10, r_11, r_12, r_13, r_14, r_15, r_16, r_17, r_18, r_19, r_20_0, r_21_0, r_20_1, r_21_1, r_20_2, r_21_2, r_20_3, r_21_3, r_20_4, r_21_4, r_20_5, r_21_5, r_22_0, r_22_1, r_23, r_24, r_25, r_26, r_27, r_28, r_29, r_30_0, r_30_1, r_30_2, r_31, r_31b, r_32, r_33, r_33b, r_33c, r_34, r_34b, r_35, r_45, r_46, r_47_0, r_47_1, r_40, r_50, r_51, r_41_0, r_41_1, r_42, r_43, r_44, r_36_0, r_37_0, r_38_0, r_48_0, r_36_1, r_37_1, r_38_1, r_48_1, r_36_2, r_37_2, r_38_2, r_48_2, r_36_3, r_37_3, r_36_4, r_37_4, r_36_5, r_37_5, r_39, r_8, al_13, al_14, al_15, al_16, al_18, al_19, al_25, al_26, al_27, al_28, al_29, al_30, al_31, al_32, al_33, al_34, al_35, al_36, al_37, al_38, al_39, al_40, al_41, al_42, al_43, al_44, al_45, al_46, al_48, al_49, al_50, al_51, al_52, al_53, al_54, al_55, al_56, al_57, al_58, al_59, al_60, al_61, al_62, al_63, al_64, al_65, al_66, al_67, al_68, al_69, al_70, rf_0_0, rf_0_1, rf_0_2, rf_0_3, rf_0_4, rf_0_5, rf_0_6, rf_0_7, rf_0_8, rf_0_10, rf_0_11, rf_1_0, rf_1_1, rf_1_2, rf_2_0, rf_2_1, rf_2_2, rf_3_0, rf_3_1, rf_3_2, rf_4_0, rf_4_1, rf_4_2, rf_5_0, rf_5_1, rf_5_2, rf_6_0, rf_6_1, rf_7_0, rf_7_1, rf_8_0, rf_8_1, rf_8_5, rf_8_6, rf_8_7, rf_8_8, rf_8_9, rf_9_0, rf_10_0, rf_11_0, rf_12_0, rf_47_0, rf_47_1, rf_47_2, rf_47_3, rf_47_5, rf_47_6, rf_47_8, rf_47_10, rf_47_12, rf_47_14, rf_47_15, rf_47_16, rf_47_17, rf_47_18, rf_47_19, rf_47_20, rf_47_21, rf_47_22, rf_47_23, rf_47_24, rf_47_26, rf_47_27, rf_47_29, rf_17, rf_20, rf_21, rf_22, rf_23, rf_24, rl_17, rl_20, rl_21, rl_22, rl_23, rl_24, hE1]
      rw [if_pos (by omega)]
      exact h ν hB
  | succ d ih =>
    intro b ν hb hB
    have hr := hT.2.2.2.2.2 b (by omega) (by omega)
    obtain ⟨hE1, hE2⟩ := hE.fb hB.1
    have i2 := fun ν' => ih (b + 1) ν' (by omega)
    push_cast at i2
    have hB' : BI μ (m_w ν 8 4 (m_i 4 (bzE T b) (m_i 5 1 (T 8 b)))) T ev (bzE T (b + 1)) (T 0 0) (T 0 1) := by
      obtain ⟨g1, g2, g3, g4, g5, g6⟩ := hB
      refine ⟨g1.w (Or.inl rfl), ?_, ?_, ?_, fun i h0 h1 => ?_, fun k h0 h1 => ?_⟩
      · simp [m_w, g2]
      · simp [m_w, g3]
      · simp [m_w, bzE]
      · simp [m_w, g5 i h0 h1]
      · simp [m_w, g6 k h0 h1]
    rcases hE2 with ⟨rfl, hE2⟩ | ⟨rfl, hE2⟩
    · have hE' := hE2 b (by omega) (by omega)
      rw [t25_5]
      simp only [t25_0, t25_2, t25_4, t25_6, B25_0, B25_1, B25_2, B25_3, B25_4, B25_5, B25_6, Classical.not_not, Prod.mk.injEq, m_l, m_lp, m_lq, m_ps, m_ws, m_en, List.replicate, if_true, if_false, reduceIte, true_and, and_true, false_and, and_false, true_or, or_true, false_or, or_false, and_self, or_self, not_true_eq_false, not_false_eq_true, ne_eq, Nat.reduceLeDiff, Nat.reduceEqDiff, Nat.reduceAdd, Int.reduceLE, Int.reduceLT, Int.reduceEq, Int.reduceNe, Int.reduceAdd, Int.reduceNeg, Nat.reduceSub, Nat.succ_ne_zero, Nat.not_succ_le_zero, Nat.reduceMul, Int.reduceMul, Int.reduceSub, Int.reduceToNat, Nat.zero_le, Nat.reduceLT, r_0, r_1, r_2, r_3, r_4, r_5, r_6, r_7, r_9, r_10, r_11, r_12, r_13, r_14, r_15, r_16, r_17, r_18, r_19, r_20_0, r_21_0, r_20_1, r_21_1, r_20_2, r_21_2, r_20_3, r_21_3, r_20_4, r_21_4, r_20_5, r_21_5, r_22_0, r_22_1, r_23, r_24, r_25, r_26, r_27, r_28, r_29, r_30_0, r_30_1, r_30_2, r_31, r_31b, r_32, r_33, r_33b, r_33c, r_34, r_34b, r_35, r_45, r_46, r_47_0, r_47_1, r_40, r_50, r_51, r_41_0, r_41_1, r_42, r_43, r_44, r_36_0, r_37_0, r_38_0, r_48_0, r_36_1, r_37_1, r_38_1, r_48_1, r_36_2, r_37_2, r_38_2, r_48_2, r_36_3, r_37_3, r_36_4, r_37_4, r_36_5, r_37_5, r_39, r_8, al_13, al_14, al_15, al_16, al_18, al_19, al_25, al_26, al_27, al_28, al_29, al_30, al_31, al_32, al_33, al_34, al_35, al_36, al_37, al_38, al_39, al_40, al_41, al_42, al_43, al_44, al_45, al_46, al_48, al_49, al_50, al_51, al_52, al_53, al_54, al_55, al_56, al_57, al_58, al_59, al_60, al_61, al_62, al_63, al_64, al_65, al_66, al_67, al_68, al_69, al_70, rf_0_0, rf_0_1, rf_0_2, rf_0_3, rf_0_4, rf_0_5, rf_0_6, rf_0_7, rf_0_8, rf_0_10, rf_0_11, rf_1_0, rf_1_1, rf_1_2, rf_2_0, rf_2_1, rf_2_2, rf_3_0, rf_3_1, rf_3_2, rf_4_0, rf_4_1, rf_4_2, rf_5_0, rf_5_1, rf_5_2, rf_6_0, rf_6_1, rf_7_0, rf_7_1, rf_8_0, rf_8_1, rf_8_5, rf_8_6, rf_8_7, rf_8_8, rf_8_9, rf_9_0, rf_10_0, rf_11_0, rf_12_0, rf_47_0, rf_47_1, rf_47_2, rf_47_3, rf_47_5, rf_47_6, rf_47_8, rf_47_10, rf_47_12, rf_47_14, rf_47_15, rf_47_16, rf_47_17, rf_47_18, rf_47_19, rf_47_20, rf_47_21, rf_47_22, rf_47_23, rf_47_24, rf_47_26, rf_47_27, rf_47_29, rf_17, rf_20, rf_21, rf_22, rf_23, rf_24, rl_17, rl_20, rl_21, rl_22, rl_23, rl_24, hE1, hE', hB.2.2.2.1]
      rw [if_neg (by omega), m_i0 (by omega) (by omega)]
      exact ⟨⟨by omega, by omega⟩, i2 _ hB'⟩
    · have hE' := hE2 b (by omega) (by omega)
      rw [t25_5]
      simp only [t25_0, t25_2, t25_4, t25_6, B25_0, B25_1, B25_2, B25_3, B25_4, B25_5, B25_6, Classical.not_not, Prod.mk.injEq, m_l, m_lp, m_lq, m_ps, m_ws, m_en, List.replicate, if_true, if_false, reduceIte, true_and, and_true, false_and, and_false, true_or, or_true, false_or, or_false, and_self, or_self, not_true_eq_false, not_false_eq_true, ne_eq, Nat.reduceLeDiff, Nat.reduceEqDiff, Nat.reduceAdd, Int.reduceLE, Int.reduceLT, Int.reduceEq, Int.reduceNe, Int.reduceAdd, Int.reduceNeg, Nat.reduceSub, Nat.succ_ne_zero, Nat.not_succ_le_zero, Nat.reduceMul, Int.reduceMul, Int.reduceSub, Int.reduceToNat, Nat.zero_le, Nat.reduceLT, r_0, r_1, r_2, r_3, r_4, r_5, r_6, r_7, r_9, r_10, r_11, r_12, r_13, r_14, r_15, r_16, r_17, r_18, r_19, r_20_0, r_21_0, r_20_1, r_21_1, r_20_2, r_21_2, r_20_3, r_21_3, r_20_4, r_21_4, r_20_5, r_21_5, r_22_0, r_22_1, r_23, r_24, r_25, r_26, r_27, r_28, r_29, r_30_0, r_30_1, r_30_2, r_31, r_31b, r_32, r_33, r_33b, r_33c, r_34, r_34b, r_35, r_45, r_46, r_47_0, r_47_1, r_40, r_50, r_51, r_41_0, r_41_1, r_42, r_43, r_44, r_36_0, r_37_0, r_38_0, r_48_0, r_36_1, r_37_1, r_38_1, r_48_1, r_36_2, r_37_2, r_38_2, r_48_2, r_36_3, r_37_3, r_36_4, r_37_4, r_36_5, r_37_5, r_39, r_8, al_13, al_14, al_15, al_16, al_18, al_19, al_25, al_26, al_27, al_28, al_29, al_30, al_31, al_32, al_33, al_34, al_35, al_36, al_37, al_38, al_39, al_40, al_41, al_42, al_43, al_44, al_45, al_46, al_48, al_49, al_50, al_51, al_52, al_53, al_54, al_55, al_56, al_57, al_58, al_59, al_60, al_61, al_62, al_63, al_64, al_65, al_66, al_67, al_68, al_69, al_70, rf_0_0, rf_0_1, rf_0_2, rf_0_3, rf_0_4, rf_0_5, rf_0_6, rf_0_7, rf_0_8, rf_0_10, rf_0_11, rf_1_0, rf_1_1, rf_1_2, rf_2_0, rf_2_1, rf_2_2, rf_3_0, rf_3_1, rf_3_2, rf_4_0, rf_4_1, rf_4_2, rf_5_0, rf_5_1, rf_5_2, rf_6_0, rf_6_1, rf_7_0, rf_7_1, rf_8_0, rf_8_1, rf_8_5, rf_8_6, rf_8_7, rf_8_8, rf_8_9, rf_9_0, rf_10_0, rf_11_0, rf_12_0, rf_47_0, rf_47_1, rf_47_2, rf_47_3, rf_47_5, rf_47_6, rf_47_8, rf_47_10, rf_47_12, rf_47_14, rf_47_15, rf_47_16, rf_47_17, rf_47_18, rf_47_19, rf_47_20, rf_47_21, rf_47_22, rf_47_23, rf_47_24, rf_47_26, rf_47_27, rf_47_29, rf_17, rf_20, rf_21, rf_22, rf_23, rf_24, rl_17, rl_20, rl_21, rl_22, rl_23, rl_24, hE1, hE', hB.2.2.2.1]
      rw [if_neg (by omega), m_i0 (by omega) (by omega)]
      exact ⟨⟨by omega, by omega⟩, i2 _ hB'⟩
theorem w_bgB {μ T : MMem} {ev : Int} (hT : TW T) (hC : CT μ T) (hE : CE μ T ev) {Q : MVal → MMem → Prop} {g : Int} (h : ∀ ν, BI μ ν T ev (bzE T (ne T)) (T 0 0) (T 0 1) → Q (14, 0) ν) : ∀ (d b : Nat) (ν : MMem), b + d = nb T → BI μ ν T ev (bzB T b) (T 0 0) b → At 25 3 [(8, 8), (7, ev), (0, g), (0, (b : Int))] [] ν Q := by
  have h2 := nb_le hT
  have hb8 := hT.2.1
  intro d
  induction d with
  | zero =>
    intro b ν hb hB
    have e : b = nb T := by omega
    subst e
    have hC' := hC.fb hB.1
    rw [t25_3]
    simp only [t25_0, t25_2, t25_4, t25_6, B25_0, B25_1, B25_2, B25_3, B25_4, B25_5, B25_6, Classical.not_not, Prod.mk.injEq, m_l, m_lp, m_lq, m_ps, m_ws, m_en, List.replicate, if_true, if_false, reduceIte, true_and, and_true, false_and, and_false, true_or, or_true, false_or, or_false, and_self, or_self, not_true_eq_false, not_false_eq_true, ne_eq, Nat.reduceLeDiff, Nat.reduceEqDiff, Nat.reduceAdd, Int.reduceLE, Int.reduceLT, Int.reduceEq, Int.reduceNe, Int.reduceAdd, Int.reduceNeg, Nat.reduceSub, Nat.succ_ne_zero, Nat.not_succ_le_zero, Nat.reduceMul, Int.reduceMul, Int.reduceSub, Int.reduceToNat, Nat.zero_le, Nat.reduceLT, r_0, r_1, r_2, r_3, r_4, r_5, r_6, r_7, r_9, r_10, r_11, r_12, r_13, r_14, r_15, r_16, r_17, r_18, r_19, r_20_0, r_21_0, r_20_1, r_21_1, r_20_2, r_21_2, r_20_3, r_21_3, r_20_4, r_21_4, r_20_5, r_21_5, r_22_0, r_22_1, r_23, r_24, r_25, r_26, r_27, r_28, r_29, r_30_0, r_30_1, r_30_2, r_31, r_31b, r_32, r_33, r_33b, r_33c, r_34, r_34b, r_35, r_45, r_46, r_47_0, r_47_1, r_40, r_50, r_51, r_41_0, r_41_1, r_42, r_43, r_44, r_36_0, r_37_0, r_38_0, r_48_0, r_36_1, r_37_1, r_38_1, r_48_1, r_36_2, r_37_2, r_38_2, r_48_2, r_36_3, r_37_3, r_36_4, r_37_4, r_36_5, r_37_5, r_39, r_8, al_13, al_14, al_15, al_16, al_18, al_19, al_25, al_26, al_27, al_28, al_29, al_30, al_31, al_32, al_33, al_34, al_35, al_36, al_37, al_38, al_39, al_40, al_41, al_42, al_43, al_44, al_45, al_46, al_48, al_49, al_50, al_51, al_52, al_53, al_54, al_55, al_56, al_57, al_58, al_59, al_60, al_61, al_62, al_63, al_64, al_65, al_66, al_67, al_68, al_69, al_70, rf_0_0, rf_0_1, rf_0_2, rf_0_3, rf_0_4, rf_0_5, rf_0_6, rf_0_7, rf_0_8, rf_0_10, rf_0_11, rf_1_0, rf_1_1, rf_1_2, rf_2_0, rf_2_1, rf_2_2, rf_3_0, rf_3_1, rf_3_2, rf_4_0, rf_4_1, rf_4_2, rf_5_0, rf_5_1, rf_5_2, rf_6_0, rf_6_1, rf_7_0, rf_7_1, rf_8_0, rf_8_1, rf_8_5, rf_8_6, rf_8_7, rf_8_8, rf_8_9, rf_9_0, rf_10_0, rf_11_0, rf_12_0, rf_47_0, rf_47_1, rf_47_2, rf_47_3, rf_47_5, rf_47_6, rf_47_8, rf_47_10, rf_47_12, rf_47_14, rf_47_15, rf_47_16, rf_47_17, rf_47_18, rf_47_19, rf_47_20, rf_47_21, rf_47_22, rf_47_23, rf_47_24, rf_47_26, rf_47_27, rf_47_29, rf_17, rf_20, rf_21, rf_22, rf_23, rf_24, rl_17, rl_20, rl_21, rl_22, rl_23, rl_24, hC'.2.1]
    rw [if_pos (by omega)]
    refine w_bgE hT hC hE h (ne T) 0 ν (by omega) ?_
    rw [h2] at hB
    exact hB
  | succ d ih =>
    intro b ν hb hB
    have hr := hT.2.2.2.2.1 b (by omega) (by omega)
    have hC' := hC.fb hB.1
    have hrow := hC'.2.2.2 b (by omega) (by omega)
    have i2 := fun ν' => ih (b + 1) ν' (by omega)
    push_cast at i2
    rw [t25_3]
    simp only [t25_0, t25_2, t25_4, t25_6, B25_0, B25_1, B25_2, B25_3, B25_4, B25_5, B25_6, Classical.not_not, Prod.mk.injEq, m_l, m_lp, m_lq, m_ps, m_ws, m_en, List.replicate, if_true, if_false, reduceIte, true_and, and_true, false_and, and_false, true_or, or_true, false_or, or_false, and_self, or_self, not_true_eq_false, not_false_eq_true, ne_eq, Nat.reduceLeDiff, Nat.reduceEqDiff, Nat.reduceAdd, Int.reduceLE, Int.reduceLT, Int.reduceEq, Int.reduceNe, Int.reduceAdd, Int.reduceNeg, Nat.reduceSub, Nat.succ_ne_zero, Nat.not_succ_le_zero, Nat.reduceMul, Int.reduceMul, Int.reduceSub, Int.reduceToNat, Nat.zero_le, Nat.reduceLT, r_0, r_1, r_2, r_3, r_4, r_5, r_6, r_7, r_9, r_10, r_11, r_12, r_13, r_14, r_15, r_16, r_17, r_18, r_19, r_20_0, r_21_0, r_20_1, r_21_1, r_20_2, r_21_2, r_20_3, r_21_3, r_20_4, r_21_4, r_20_5, r_21_5, r_22_0, r_22_1, r_23, r_24, r_25, r_26, r_27, r_28, r_29, r_30_0, r_30_1, r_30_2, r_31, r_31b, r_32, r_33, r_33b, r_33c, r_34, r_34b, r_35, r_45, r_46, r_47_0, r_47_1, r_40, r_50, r_51, r_41_0, r_41_1, r_42, r_43, r_44, r_36_0, r_37_0, r_38_0, r_48_0, r_36_1, r_37_1, r_38_1, r_48_1, r_36_2, r_37_2, r_38_2, r_48_2, r_36_3, r_37_3, r_36_4, r_37_4, r_36_5, r_37_5, r_39, r_8, al_13, al_14, al_15, al_16, al_18, al_19, al_25, al_26, al_27, al_28, al_29, al_30, al_31, al_32, al_33, al_34, al_35, al_36, al_37, al_38, al_39, al_40, al_41, al_42, al_43, al_44, al_45, al_46, al_48, al_49, al_50, al_51, al_52, al_53, al_54, al_55, al_56, al_57, al_58, al_59, al_60, al_61, al_62, al_63, al_64, al_65, al_66, al_67, al_68, al_69, al_70, rf_0_0, rf_0_1, rf_0_2, rf_0_3, rf_0_4, rf_0_5, rf_0_6, rf_0_7, rf_0_8, rf_0_10, rf_0_11, rf_1_0, rf_1_1, rf_1_2, rf_2_0, rf_2_1, rf_2_2, rf_3_0, rf_3_1, rf_3_2, rf_4_0, rf_4_1, rf_4_2, rf_5_0, rf_5_1, rf_5_2, rf_6_0, rf_6_1, rf_7_0, rf_7_1, rf_8_0, rf_8_1, rf_8_5, rf_8_6, rf_8_7, rf_8_8, rf_8_9, rf_9_0, rf_10_0, rf_11_0, rf_12_0, rf_47_0, rf_47_1, rf_47_2, rf_47_3, rf_47_5, rf_47_6, rf_47_8, rf_47_10, rf_47_12, rf_47_14, rf_47_15, rf_47_16, rf_47_17, rf_47_18, rf_47_19, rf_47_20, rf_47_21, rf_47_22, rf_47_23, rf_47_24, rf_47_26, rf_47_27, rf_47_29, rf_17, rf_20, rf_21, rf_22, rf_23, rf_24, rl_17, rl_20, rl_21, rl_22, rl_23, rl_24, hC'.2.1, hrow, hB.2.2.2.1]
    rw [if_neg (by omega), m_i0 (by omega) (by omega)]
    refine ⟨⟨by omega, by omega⟩, ⟨by omega, by omega⟩, ⟨by omega, by omega⟩, ⟨by omega, by omega⟩, ⟨by omega, by omega⟩, i2 _ ?_⟩
    obtain ⟨g1, g2, g3, g4, g5, g6⟩ := hB
    refine ⟨((((g1.w (Or.inl rfl)).w (Or.inr (by decide))).w (Or.inr (by decide))).w (Or.inr (by decide))).w (Or.inr (by decide)), ?_, ?_, ?_, fun i h0 h1 => ?_, fun k h0 h1 => ?_⟩
    · simp [m_w, g2]
    · simp [m_w, g3]
    · simp [m_w, bzB]
    · simp [m_w, g5 i h0 h1]
    · by_cases q : k = b
      · simp [m_w, q]
      · have := g6 k h0 (by omega)
        simp [m_w, q, this]
theorem w_bgH {μ T : MMem} {ev : Int} (hT : TW T) (hC : CT μ T) (hE : CE μ T ev) {Q : MVal → MMem → Prop} {g : Int} (h : ∀ ν, BI μ ν T ev (bzE T (ne T)) (T 0 0) (T 0 1) → Q (14, 0) ν) : ∀ (d b : Nat) (ν : MMem), b + d = nh T → BI μ ν T ev 0 b 0 → At 25 1 [(8, 8), (7, ev), (0, g), (0, (b : Int))] [] ν Q := by
  have h2 := nh_le hT
  have hb8 := hT.1
  intro d
  induction d with
  | zero =>
    intro b ν hb hB
    have e : b = nh T := by omega
    subst e
    have hC' := hC.fb hB.1
    rw [t25_1]
    simp only [t25_0, t25_2, t25_4, t25_6, B25_0, B25_1, B25_2, B25_3, B25_4, B25_5, B25_6, Classical.not_not, Prod.mk.injEq, m_l, m_lp, m_lq, m_ps, m_ws, m_en, List.replicate, if_true, if_false, reduceIte, true_and, and_true, false_and, and_false, true_or, or_true, false_or, or_false, and_self, or_self, not_true_eq_false, not_false_eq_true, ne_eq, Nat.reduceLeDiff, Nat.reduceEqDiff, Nat.reduceAdd, Int.reduceLE, Int.reduceLT, Int.reduceEq, Int.reduceNe, Int.reduceAdd, Int.reduceNeg, Nat.reduceSub, Nat.succ_ne_zero, Nat.not_succ_le_zero, Nat.reduceMul, Int.reduceMul, Int.reduceSub, Int.reduceToNat, Nat.zero_le, Nat.reduceLT, r_0, r_1, r_2, r_3, r_4, r_5, r_6, r_7, r_9, r_10, r_11, r_12, r_13, r_14, r_15, r_16, r_17, r_18, r_19, r_20_0, r_21_0, r_20_1, r_21_1, r_20_2, r_21_2, r_20_3, r_21_3, r_20_4, r_21_4, r_20_5, r_21_5, r_22_0, r_22_1, r_23, r_24, r_25, r_26, r_27, r_28, r_29, r_30_0, r_30_1, r_30_2, r_31, r_31b, r_32, r_33, r_33b, r_33c, r_34, r_34b, r_35, r_45, r_46, r_47_0, r_47_1, r_40, r_50, r_51, r_41_0, r_41_1, r_42, r_43, r_44, r_36_0, r_37_0, r_38_0, r_48_0, r_36_1, r_37_1, r_38_1, r_48_1, r_36_2, r_37_2, r_38_2, r_48_2, r_36_3, r_37_3, r_36_4, r_37_4, r_36_5, r_37_5, r_39, r_8, al_13, al_14, al_15, al_16, al_18, al_19, al_25, al_26, al_27, al_28, al_29, al_30, al_31, al_32, al_33, al_34, al_35, al_36, al_37, al_38, al_39, al_40, al_41, al_42, al_43, al_44, al_45, al_46, al_48, al_49, al_50, al_51, al_52, al_53, al_54, al_55, al_56, al_57, al_58, al_59, al_60, al_61, al_62, al_63, al_64, al_65, al_66, al_67, al_68, al_69, al_70, rf_0_0, rf_0_1, rf_0_2, rf_0_3, rf_0_4, rf_0_5, rf_0_6, rf_0_7, rf_0_8, rf_0_10, rf_0_11, rf_1_0, rf_1_1, rf_1_2, rf_2_0, rf_2_1, rf_2_2, rf_3_0, rf_3_1, rf_3_2, rf_4_0, rf_4_1, rf_4_2, rf_5_0, rf_5_1, rf_5_2, rf_6_0, rf_6_1, rf_7_0, rf_7_1, rf_8_0, rf_8_1, rf_8_5, rf_8_6, rf_8_7, rf_8_8, rf_8_9, rf_9_0, rf_10_0, rf_11_0, rf_12_0, rf_47_0, rf_47_1, rf_47_2, rf_47_3, rf_47_5, rf_47_6, rf_47_8, rf_47_10, rf_47_12, rf_47_14, rf_47_15, rf_47_16, rf_47_17, rf_47_18, rf_47_19, rf_47_20, rf_47_21, rf_47_22, rf_47_23, rf_47_24, rf_47_26, rf_47_27, rf_47_29, rf_17, rf_20, rf_21, rf_22, rf_23, rf_24, rl_17, rl_20, rl_21, rl_22, rl_23, rl_24, hC'.1]
    rw [if_pos (by omega)]
    refine w_bgB hT hC hE h (nb T) 0 ν (by omega) ?_
    rw [h2] at hB
    exact hB
  | succ d ih =>
    intro b ν hb hB
    have hC' := hC.fb hB.1
    have hrow := hC'.2.2.1 b (by omega) (by omega)
    have i2 := fun ν' => ih (b + 1) ν' (by omega)
    push_cast at i2
    rw [t25_1]
    simp only [t25_0, t25_2, t25_4, t25_6, B25_0, B25_1, B25_2, B25_3, B25_4, B25_5, B25_6, Classical.not_not, Prod.mk.injEq, m_l, m_lp, m_lq, m_ps, m_ws, m_en, List.replicate, if_true, if_false, reduceIte, true_and, and_true, false_and, and_false, true_or, or_true, false_or, or_false, and_self, or_self, not_true_eq_false, not_false_eq_true, ne_eq, Nat.reduceLeDiff, Nat.reduceEqDiff, Nat.reduceAdd, Int.reduceLE, Int.reduceLT, Int.reduceEq, Int.reduceNe, Int.reduceAdd, Int.reduceNeg, Nat.reduceSub, Nat.succ_ne_zero, Nat.not_succ_le_zero, Nat.reduceMul, Int.reduceMul, Int.reduceSub, Int.reduceToNat, Nat.zero_le, Nat.reduceLT, r_0, r_1, r_2, r_3, r_4, r_5, r_6, r_7, r_9, r_10, r_11, r_12, r_13, r_14, r_15, r_16, r_17, r_18, r_19, r_20_0, r_21_0, r_20_1, r_21_1, r_20_2, r_21_2, r_20_3, r_21_3, r_20_4, r_21_4, r_20_5, r_21_5, r_22_0, r_22_1, r_23, r_24, r_25, r_26, r_27, r_28, r_29, r_30_0, r_30_1, r_30_2, r_31, r_31b, r_32, r_33, r_33b, r_33c, r_34, r_34b, r_35, r_45, r_46, r_47_0, r_47_1, r_40, r_50, r_51, r_41_0, r_41_1, r_42, r_43, r_44, r_36_0, r_37_0, r_38_0, r_48_0, r_36_1, r_37_1, r_38_1, r_48_1, r_36_2, r_37_2, r_38_2, r_48_2, r_36_3, r_37_3, r_36_4, r_37_4, r_36_5, r_37_5, r_39, r_8, al_13, al_14, al_15, al_16, al_18, al_19, al_25, al_26, al_27, al_28, al_29, al_30, al_31, al_32, al_33, al_34, al_35, al_36, al_37, al_38, al_39, al_40, al_41, al_42, al_43, al_44, al_45, al_46, al_48, al_49, al_50, al_51, al_52, al_53, al_54, al_55, al_56, al_57, al_58, al_59, al_60, al_61, al_62, al_63, al_64, al_65, al_66, al_67, al_68, al_69, al_70, rf_0_0, rf_0_1, rf_0_2, rf_0_3, rf_0_4, rf_0_5, rf_0_6, rf_0_7, rf_0_8, rf_0_10, rf_0_11, rf_1_0, rf_1_1, rf_1_2, rf_2_0, rf_2_1, rf_2_2, rf_3_0, rf_3_1, rf_3_2, rf_4_0, rf_4_1, rf_4_2, rf_5_0, rf_5_1, rf_5_2, rf_6_0, rf_6_1, rf_7_0, rf_7_1, rf_8_0, rf_8_1, rf_8_5, rf_8_6, rf_8_7, rf_8_8, rf_8_9, rf_9_0, rf_10_0, rf_11_0, rf_12_0, rf_47_0, rf_47_1, rf_47_2, rf_47_3, rf_47_5, rf_47_6, rf_47_8, rf_47_10, rf_47_12, rf_47_14, rf_47_15, rf_47_16, rf_47_17, rf_47_18, rf_47_19, rf_47_20, rf_47_21, rf_47_22, rf_47_23, rf_47_24, rf_47_26, rf_47_27, rf_47_29, rf_17, rf_20, rf_21, rf_22, rf_23, rf_24, rl_17, rl_20, rl_21, rl_22, rl_23, rl_24, hC'.1, hrow]
    rw [if_neg (by omega), m_i0 (by omega) (by omega)]
    refine ⟨⟨by omega, by omega⟩, ⟨by omega, by omega⟩, i2 _ ?_⟩
    obtain ⟨g1, g2, g3, g4, g5, g6⟩ := hB
    refine ⟨g1.w (Or.inr (by decide)), ?_, ?_, ?_, fun i h0 h1 => ?_, fun k h0 h1 => by omega⟩
    · simp [m_w, g2]
    · simp [m_w, g3]
    · simp [m_w, g4]
    · by_cases q : i = b
      · simp [m_w, q]
      · have := g5 i h0 (by omega)
        simp [m_w, q, this]
theorem w_begin {T : MMem} (μ : MMem) {ev : Int} (hT : TW T) (hC : CT μ T) (hE : CE μ T ev) (g : Int) (hg : g = T 0 3) : ∃ μ' : MMem, (PW μ' T ev ∧ WS μ' T (sim0 T) ∧ FB μ μ') ∧ ∀ Q : MVal → MMem → Prop, Cal 25 [(8, 8), (7, ev), (0, g)] μ Q = Q (14, 0) μ' := by
  refine cal_ex (P := fun μ' => PW μ' T ev ∧ WS μ' T (sim0 T) ∧ FB μ μ') rfl ?_
  show Rn 25 B25_0 [(8, 8), (7, ev), (0, g), (14, 0)] [] μ _
  simp only [r_0, r_1, r_2, r_3, r_4, r_5, r_6, r_7, r_9, r_10, r_11, r_12, r_13, r_14, r_15, r_16, r_17, r_18, r_19, r_20_0, r_21_0, r_20_1, r_21_1, r_20_2, r_21_2, r_20_3, r_21_3, r_20_4, r_21_4, r_20_5, r_21_5, r_22_0, r_22_1, r_23, r_24, r_25, r_26, r_27, r_28, r_29, r_30_0, r_30_1, r_30_2, r_31, r_31b, r_32, r_33, r_33b, r_33c, r_34, r_34b, r_35, r_45, r_46, r_47_0, r_47_1, r_40, r_50, r_51, r_41_0, r_41_1, r_42, r_43, r_44, r_36_0, r_37_0, r_38_0, r_48_0, r_36_1, r_37_1, r_38_1, r_48_1, r_36_2, r_37_2, r_38_2, r_48_2, r_36_3, r_37_3, r_36_4, r_37_4, r_36_5, r_37_5, r_39, r_8, al_13, al_14, al_15, al_16, al_18, al_19, al_25, al_26, al_27, al_28, al_29, al_30, al_31, al_32, al_33, al_34, al_35, al_36, al_37, al_38, al_39, al_40, al_41, al_42, al_43, al_44, al_45, al_46, al_48, al_49, al_50, al_51, al_52, al_53, al_54, al_55, al_56, al_57, al_58, al_59, al_60, al_61, al_62, al_63, al_64, al_65, al_66, al_67, al_68, al_69, al_70, rf_0_0, rf_0_1, rf_0_2, rf_0_3, rf_0_4, rf_0_5, rf_0_6, rf_0_7, rf_0_8, rf_0_10, rf_0_11, rf_1_0, rf_1_1, rf_1_2, rf_2_0, rf_2_1, rf_2_2, rf_3_0, rf_3_1, rf_3_2, rf_4_0, rf_4_1, rf_4_2, rf_5_0, rf_5_1, rf_5_2, rf_6_0, rf_6_1, rf_7_0, rf_7_1, rf_8_0, rf_8_1, rf_8_5, rf_8_6, rf_8_7, rf_8_8, rf_8_9, rf_9_0, rf_10_0, rf_11_0, rf_12_0, rf_47_0, rf_47_1, rf_47_2, rf_47_3, rf_47_5, rf_47_6, rf_47_8, rf_47_10, rf_47_12, rf_47_14, rf_47_15, rf_47_16, rf_47_17, rf_47_18, rf_47_19, rf_47_20, rf_47_21, rf_47_22, rf_47_23, rf_47_24, rf_47_26, rf_47_27, rf_47_29, rf_17, rf_20, rf_21, rf_22, rf_23, rf_24, rl_17, rl_20, rl_21, rl_22, rl_23, rl_24, Classical.not_not, Prod.mk.injEq, m_l, m_lp, m_lq, m_ps, m_ws, m_en, List.replicate, if_true, if_false, reduceIte, true_and, and_true, false_and, and_false, true_or, or_true, false_or, or_false, and_self, or_self, not_true_eq_false, not_false_eq_true, ne_eq, Nat.reduceLeDiff, Nat.reduceEqDiff, Nat.reduceAdd, Int.reduceLE, Int.reduceLT, Int.reduceEq, Int.reduceNe, Int.reduceAdd, Int.reduceNeg, Nat.reduceSub, Nat.succ_ne_zero, Nat.not_succ_le_zero, Nat.reduceMul, Int.reduceMul, Int.reduceSub, Int.reduceToNat, Nat.zero_le, Nat.reduceLT, t25_0, t25_2, t25_4, t25_6, B25_0, B25_1, B25_2, B25_3, B25_4, B25_5, B25_6]
  have hev : 0 ≤ ev := by rcases hE.2 with q | q <;> omega
  simp only [hev, Classical.not_not, Prod.mk.injEq, m_l, m_lp, m_lq, m_ps, m_ws, m_en, List.replicate, if_true, if_false, reduceIte, true_and, and_true, false_and, and_false, true_or, or_true, false_or, or_false, and_self, or_self, not_true_eq_false, not_false_eq_true, ne_eq, Nat.reduceLeDiff, Nat.reduceEqDiff, Nat.reduceAdd, Int.reduceLE, Int.reduceLT, Int.reduceEq, Int.reduceNe, Int.reduceAdd, Int.reduceNeg, Nat.reduceSub, Nat.succ_ne_zero, Nat.not_succ_le_zero, Nat.reduceMul, Int.reduceMul, Int.reduceSub, Int.reduceToNat, Nat.zero_le, Nat.reduceLT, r_0, r_1, r_2, r_3, r_4, r_5, r_6, r_7, r_9, r_10, r_11, r_12, r_13, r_14, r_15, r_16, r_17, r_18, r_19, r_20_0, r_21_0, r_20_1, r_21_1, r_20_2, r_21_2, r_20_3, r_21_3, r_20_4, r_21_4, r_20_5, r_21_5, r_22_0, r_22_1, r_23, r_24, r_25, r_26, r_27, r_28, r_29, r_30_0, r_30_1, r_30_2, r_31, r_31b, r_32, r_33, r_33b, r_33c, r_34, r_34b, r_35, r_45, r_46, r_47_0, r_47_1, r_40, r_50, r_51, r_41_0, r_41_1, r_42, r_43, r_44, r_36_0, r_37_0, r_38_0, r_48_0, r_36_1, r_37_1, r_38_1, r_48_1, r_36_2, r_37_2, r_38_2, r_48_2, r_36_3, r_37_3, r_36_4, r_37_4, r_36_5, r_37_5, r_39, r_8, al_13, al_14, al_15, al_16, al_18, al_19, al_25, al_26, al_27, al_28, al_29, al_30, al_31, al_32, al_33, al_34, al_35, al_36, al_37, al_38, al_39, al_40, al_41, al_42, al_43, al_44, al_45, al_46, al_48, al_49, al_50, al_51, al_52, al_53, al_54, al_55, al_56, al_57, al_58, al_59, al_60, al_61, al_62, al_63, al_64, al_65, al_66, al_67, al_68, al_69, al_70, rf_0_0, rf_0_1, rf_0_2, rf_0_3, rf_0_4, rf_0_5, rf_0_6, rf_0_7, rf_0_8, rf_0_10, rf_0_11, rf_1_0, rf_1_1, rf_1_2, rf_2_0, rf_2_1, rf_2_2, rf_3_0, rf_3_1, rf_3_2, rf_4_0, rf_4_1, rf_4_2, rf_5_0, rf_5_1, rf_5_2, rf_6_0, rf_6_1, rf_7_0, rf_7_1, rf_8_0, rf_8_1, rf_8_5, rf_8_6, rf_8_7, rf_8_8, rf_8_9, rf_9_0, rf_10_0, rf_11_0, rf_12_0, rf_47_0, rf_47_1, rf_47_2, rf_47_3, rf_47_5, rf_47_6, rf_47_8, rf_47_10, rf_47_12, rf_47_14, rf_47_15, rf_47_16, rf_47_17, rf_47_18, rf_47_19, rf_47_20, rf_47_21, rf_47_22, rf_47_23, rf_47_24, rf_47_26, rf_47_27, rf_47_29, rf_17, rf_20, rf_21, rf_22, rf_23, rf_24, rl_17, rl_20, rl_21, rl_22, rl_23, rl_24]
  refine w_bgH hT hC hE (fun ν hB => ?_) (nh T) 0 _ (by omega) ?_
  · obtain ⟨g1, g2, g3, g4, g5, g6⟩ := hB
    refine ⟨rfl, ⟨hC.fb g1, hE.fb g1, g2, g3, g4⟩, ⟨fun i h0 h1 => ?_, fun k h0 h1 => ?_⟩, g1⟩
    · simp [sim0, g5 i h0 h1]
    · simp [sim0, g6 k h0 h1]
  · refine ⟨(((FB.rf μ).w (Or.inl rfl)).w (Or.inl rfl)).w (Or.inl rfl), ?_, ?_, ?_, fun i h0 h1 => by omega, fun k h0 h1 => by omega⟩
    · simp [m_w]
    · simp [m_w, hg]
    · simp [m_w]
