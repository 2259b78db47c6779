/-- sights: T 0 4 how many, T 10 years, T 11 houses, T 12 gaps -/
def ns (T : MMem) : Nat := (T 0 4).toNat
def SG (μ T : MMem) : Prop := (0 ≤ T 0 4 ∧ T 0 4 ≤ 8) ∧ μ 5 3 = T 0 4 ∧ ∀ j, 0 ≤ j → j < T 0 4 → (μ 37 j = T 10 j ∧ μ 38 j = T 11 j ∧ μ 39 j = T 12 j) ∧ (0 ≤ T 10 j ∧ T 10 j < 24) ∧ (0 ≤ T 11 j ∧ T 11 j < 6)
theorem SG.fq {μ ν T : MMem} (h : SG μ T) (hf : FQ μ ν) : SG ν T := by
  unfold SG at *
  rw [hf.1 5 (by decide) (by decide) (by decide) (by decide) (by decide) (by decide) (by decide), hf.1 37 (by decide) (by decide) (by decide) (by decide) (by decide) (by decide) (by decide), hf.1 38 (by decide) (by decide) (by decide) (by decide) (by decide) (by decide) (by decide), hf.1 39 (by decide) (by decide) (by decide) (by decide) (by decide) (by decide) (by decide)]
  exact h
def sOK (T : MMem) (j : Int) : Bool := decide (T 11 j < T 0 0 ∧ gap T (sm T ((T 10 j).toNat + 1)) (T 11 j) = T 12 j)
def seB (T : MMem) : Nat → Bool
  | 0 => true
  | n + 1 => seB T n && sOK T n
def agB (T : MMem) (y : Int) : Nat → Bool
  | 0 => true
  | n + 1 => agB T y n && (decide (T 10 n ≠ y) || sOK T n)
def coB (T : MMem) : Nat → Bool
  | 0 => true
  | n + 1 => coB T n && agB T n (ns T)
theorem seB_iff (T : MMem) : ∀ n : Nat, seB T n = true ↔ ∀ j : Nat, j < n → sOK T j = true
  | 0 => by simp [seB]
  | n + 1 => by
    have ih := seB_iff T n
    rw [seB, Bool.and_eq_true, ih]
    constructor
    · intro h j hj
      by_cases e : j = n
      · rw [e]; exact h.2
      · exact h.1 j (by omega)
    · intro h
      exact ⟨fun j hj => h j (by omega), h n (by omega)⟩
theorem agB_iff (T : MMem) (y : Int) : ∀ n : Nat, agB T y n = true ↔ ∀ j : Nat, j < n → T 10 j = y → sOK T j = true
  | 0 => by simp [agB]
  | n + 1 => by
    have ih := agB_iff T y n
    rw [agB, Bool.and_eq_true, ih]
    constructor
    · intro h j hj hy
      by_cases e : j = n
      · rw [e] at hy ⊢
        have := h.2
        simp [hy] at this
        exact this
      · exact h.1 j (by omega) hy
    · intro h
      refine ⟨fun j hj => h j (by omega), ?_⟩
      have := h n (by omega)
      by_cases e : T 10 n = y <;> simp [e, this]
theorem coB_iff (T : MMem) : ∀ n : Nat, coB T n = true ↔ ∀ y : Nat, y < n → agB T y (ns T) = true
  | 0 => by simp [coB]
  | n + 1 => by
    have ih := coB_iff T n
    rw [coB, Bool.and_eq_true, ih]
    constructor
    · intro h j hj
      by_cases e : j = n
      · rw [e]; exact h.2
      · exact h.1 j (by omega)
    · intro h
      exact ⟨fun j hj => h j (by omega), h n (by omega)⟩
theorem co_se {T : MMem} (h : ∀ j, 0 ≤ j → j < T 0 4 → 0 ≤ T 10 j ∧ T 10 j < 24) : coB T 24 = seB T (ns T) := by
  rw [Bool.eq_iff_iff, coB_iff, seB_iff]
  constructor
  · intro g j hj
    have := h j (by omega) (by unfold ns at hj; omega)
    have g2 := g (T 10 j).toNat (by omega)
    rw [agB_iff] at g2
    exact g2 j hj (by omega)
  · intro g y hy
    rw [agB_iff]
    intro j hj _
    exact g j hj
theorem agB_dn {T : MMem} {y : Int} {n m : Nat} (h : agB T y n = false) (hm : n ≤ m) : agB T y m = false := by
  cases e : agB T y m with
  | false => rfl
  | true =>
    rw [agB_iff] at e
    have : agB T y n = true := by
      rw [agB_iff]
      intro j hj
      exact e j (by omega)
    rw [this] at h
    cases h
theorem coB_dn {T : MMem} {n m : Nat} (h : coB T n = false) (hm : n ≤ m) : coB T m = false := by
  cases e : coB T m with
  | false => rfl
  | true =>
    rw [coB_iff] at e
    have : coB T n = true := by
      rw [coB_iff]
      intro j hj
      exact e j (by omega)
    rw [this] at h
    cases h
theorem c_agreeL {μ T : MMem} (hT : TW T) (hC : CT μ T) (hG : SG μ T) {y : Nat} (hW : WS μ T (sm T (y + 1))) {Q : MVal → MMem → Prop} (h : Q (0, if agB T y (ns T) then 1 else 0) μ) : ∀ (d b : Nat) (u : MVal), b + d = ns T → agB T y b = true → At 73 1 [(9, 0), (0, (y : Int)), (0, (b : Int)), u] [] μ Q := by
  obtain ⟨h8, h5, hr⟩ := hG
  have hn : (ns T : Int) = T 0 4 := by unfold ns; omega
  have h6 := hT.1
  have hS := sm_SI hT (y + 1)
  have h13 := hC.1
  intro d
  induction d with
  | zero =>
    intro b u hb ha
    have e : b = ns T := by omega
    subst e
    rw [ha, if_pos rfl] at h
    rw [t73_1]
    simp only [t73_0, t73_2, t73_3, t73_4, B73_0, B73_1, B73_2, B73_3, B73_4, Classical.not_not, Prod.mk.injEq, m_l, m_lp, m_lq, m_ps, m_ws, m_en, List.replicate, if_true, if_false, reduceIte, true_and, and_true, false_and, and_false, true_or, or_true, false_or, or_false, and_self, or_self, not_true_eq_false, not_false_eq_true, ne_eq, Nat.reduceLeDiff, Nat.reduceEqDiff, Nat.reduceAdd, Int.reduceLE, Int.reduceLT, Int.reduceEq, Int.reduceNe, Int.reduceAdd, Int.reduceNeg, Nat.reduceSub, Nat.succ_ne_zero, Nat.not_succ_le_zero, Nat.reduceMul, Int.reduceMul, Int.reduceSub, Int.reduceToNat, Nat.zero_le, Nat.reduceLT, r_0, r_1, r_2, r_3, r_4, r_5, r_6, r_7, r_9, r_10, r_11, r_12, r_13, r_14, r_15, r_16, r_17, r_18, r_19, r_20_0, r_21_0, r_20_1, r_21_1, r_20_2, r_21_2, r_20_3, r_21_3, r_20_4, r_21_4, r_20_5, r_21_5, r_22_0, r_22_1, r_23, r_24, r_25, r_26, r_27, r_28, r_29, r_30_0, r_30_1, r_30_2, r_31, r_31b, r_32, r_33, r_33b, r_33c, r_34, r_34b, r_35, r_45, r_46, r_47_0, r_47_1, r_40, r_50, r_51, r_41_0, r_41_1, r_42, r_43, r_44, r_36_0, r_37_0, r_38_0, r_48_0, r_36_1, r_37_1, r_38_1, r_48_1, r_36_2, r_37_2, r_38_2, r_48_2, r_36_3, r_37_3, r_36_4, r_37_4, r_36_5, r_37_5, r_39, r_8, al_13, al_14, al_15, al_16, al_18, al_19, al_25, al_26, al_27, al_28, al_29, al_30, al_31, al_32, al_33, al_34, al_35, al_36, al_37, al_38, al_39, al_40, al_41, al_42, al_43, al_44, al_45, al_46, al_48, al_49, al_50, al_51, al_52, al_53, al_54, al_55, al_56, al_57, al_58, al_59, al_60, al_61, al_62, al_63, al_64, al_65, al_66, al_67, al_68, al_69, al_70, rf_0_0, rf_0_1, rf_0_2, rf_0_3, rf_0_4, rf_0_5, rf_0_6, rf_0_7, rf_0_8, rf_0_10, rf_0_11, rf_1_0, rf_1_1, rf_1_2, rf_2_0, rf_2_1, rf_2_2, rf_3_0, rf_3_1, rf_3_2, rf_4_0, rf_4_1, rf_4_2, rf_5_0, rf_5_1, rf_5_2, rf_6_0, rf_6_1, rf_7_0, rf_7_1, rf_8_0, rf_8_1, rf_8_5, rf_8_6, rf_8_7, rf_8_8, rf_8_9, rf_9_0, rf_10_0, rf_11_0, rf_12_0, rf_47_0, rf_47_1, rf_47_2, rf_47_3, rf_47_5, rf_47_6, rf_47_8, rf_47_10, rf_47_12, rf_47_14, rf_47_15, rf_47_16, rf_47_17, rf_47_18, rf_47_19, rf_47_20, rf_47_21, rf_47_22, rf_47_23, rf_47_24, rf_47_26, rf_47_27, rf_47_29, rf_17, rf_20, rf_21, rf_22, rf_23, rf_24, rl_17, rl_20, rl_21, rl_22, rl_23, rl_24, h5]
    rw [if_pos (by omega)]
    grind
  | succ d ih =>
    intro b u hb ha
    have ih := fun u' => ih (b + 1) u' (by omega)
    obtain ⟨⟨r1, r2, r3⟩, r4, r5⟩ := hr b (by omega) (by omega)
    rw [t73_1]
    have hw : 0 ≤ T 11 b ∧ T 11 b < T 0 0 → _ := fun q => w_gap μ hT hS hC hW (T 11 b) q
    simp only [t73_0, t73_2, t73_3, t73_4, B73_0, B73_1, B73_2, B73_3, B73_4, Classical.not_not, Prod.mk.injEq, m_l, m_lp, m_lq, m_ps, m_ws, m_en, List.replicate, if_true, if_false, reduceIte, true_and, and_true, false_and, and_false, true_or, or_true, false_or, or_false, and_self, or_self, not_true_eq_false, not_false_eq_true, ne_eq, Nat.reduceLeDiff, Nat.reduceEqDiff, Nat.reduceAdd, Int.reduceLE, Int.reduceLT, Int.reduceEq, Int.reduceNe, Int.reduceAdd, Int.reduceNeg, Nat.reduceSub, Nat.succ_ne_zero, Nat.not_succ_le_zero, Nat.reduceMul, Int.reduceMul, Int.reduceSub, Int.reduceToNat, Nat.zero_le, Nat.reduceLT, r_0, r_1, r_2, r_3, r_4, r_5, r_6, r_7, r_9, r_10, r_11, r_12, r_13, r_14, r_15, r_16, r_17, r_18, r_19, r_20_0, r_21_0, r_20_1, r_21_1, r_20_2, r_21_2, r_20_3, r_21_3, r_20_4, r_21_4, r_20_5, r_21_5, r_22_0, r_22_1, r_23, r_24, r_25, r_26, r_27, r_28, r_29, r_30_0, r_30_1, r_30_2, r_31, r_31b, r_32, r_33, r_33b, r_33c, r_34, r_34b, r_35, r_45, r_46, r_47_0, r_47_1, r_40, r_50, r_51, r_41_0, r_41_1, r_42, r_43, r_44, r_36_0, r_37_0, r_38_0, r_48_0, r_36_1, r_37_1, r_38_1, r_48_1, r_36_2, r_37_2, r_38_2, r_48_2, r_36_3, r_37_3, r_36_4, r_37_4, r_36_5, r_37_5, r_39, r_8, al_13, al_14, al_15, al_16, al_18, al_19, al_25, al_26, al_27, al_28, al_29, al_30, al_31, al_32, al_33, al_34, al_35, al_36, al_37, al_38, al_39, al_40, al_41, al_42, al_43, al_44, al_45, al_46, al_48, al_49, al_50, al_51, al_52, al_53, al_54, al_55, al_56, al_57, al_58, al_59, al_60, al_61, al_62, al_63, al_64, al_65, al_66, al_67, al_68, al_69, al_70, rf_0_0, rf_0_1, rf_0_2, rf_0_3, rf_0_4, rf_0_5, rf_0_6, rf_0_7, rf_0_8, rf_0_10, rf_0_11, rf_1_0, rf_1_1, rf_1_2, rf_2_0, rf_2_1, rf_2_2, rf_3_0, rf_3_1, rf_3_2, rf_4_0, rf_4_1, rf_4_2, rf_5_0, rf_5_1, rf_5_2, rf_6_0, rf_6_1, rf_7_0, rf_7_1, rf_8_0, rf_8_1, rf_8_5, rf_8_6, rf_8_7, rf_8_8, rf_8_9, rf_9_0, rf_10_0, rf_11_0, rf_12_0, rf_47_0, rf_47_1, rf_47_2, rf_47_3, rf_47_5, rf_47_6, rf_47_8, rf_47_10, rf_47_12, rf_47_14, rf_47_15, rf_47_16, rf_47_17, rf_47_18, rf_47_19, rf_47_20, rf_47_21, rf_47_22, rf_47_23, rf_47_24, rf_47_26, rf_47_27, rf_47_29, rf_17, rf_20, rf_21, rf_22, rf_23, rf_24, rl_17, rl_20, rl_21, rl_22, rl_23, rl_24, h5, r1, r2, r3, c_hasRow 1 (T 11 b) (show (0 : Int) ≤ 1 by decide) μ, h13, b0]
    rw [if_neg (by omega), m_i0 (by omega) (by omega)]
    rw [agB, ha] at ih
    push_cast at ih
    have hdn : (decide (T 10 b ≠ y) || sOK T b) = false → agB T y (ns T) = false := by
      intro q
      exact agB_dn (n := b + 1) (by rw [agB, ha, q]; rfl) (by omega)
    by_cases e1 : T 10 b = y
    · by_cases e2 : T 11 b < T 0 0
      · simp only [e1, e2, r5, Classical.not_not, Prod.mk.injEq, m_l, m_lp, m_lq, m_ps, m_ws, m_en, List.replicate, if_true, if_false, reduceIte, true_and, and_true, false_and, and_false, true_or, or_true, false_or, or_false, and_self, or_self, not_true_eq_false, not_false_eq_true, ne_eq, Nat.reduceLeDiff, Nat.reduceEqDiff, Nat.reduceAdd, Int.reduceLE, Int.reduceLT, Int.reduceEq, Int.reduceNe, Int.reduceAdd, Int.reduceNeg, Nat.reduceSub, Nat.succ_ne_zero, Nat.not_succ_le_zero, Nat.reduceMul, Int.reduceMul, Int.reduceSub, Int.reduceToNat, Nat.zero_le, Nat.reduceLT, hw ⟨r5.1, e2⟩, r_0, r_1, r_2, r_3, r_4, r_5, r_6, r_7, r_9, r_10, r_11, r_12, r_13, r_14, r_15, r_16, r_17, r_18, r_19, r_20_0, r_21_0, r_20_1, r_21_1, r_20_2, r_21_2, r_20_3, r_21_3, r_20_4, r_21_4, r_20_5, r_21_5, r_22_0, r_22_1, r_23, r_24, r_25, r_26, r_27, r_28, r_29, r_30_0, r_30_1, r_30_2, r_31, r_31b, r_32, r_33, r_33b, r_33c, r_34, r_34b, r_35, r_45, r_46, r_47_0, r_47_1, r_40, r_50, r_51, r_41_0, r_41_1, r_42, r_43, r_44, r_36_0, r_37_0, r_38_0, r_48_0, r_36_1, r_37_1, r_38_1, r_48_1, r_36_2, r_37_2, r_38_2, r_48_2, r_36_3, r_37_3, r_36_4, r_37_4, r_36_5, r_37_5, r_39, r_8, al_13, al_14, al_15, al_16, al_18, al_19, al_25, al_26, al_27, al_28, al_29, al_30, al_31, al_32, al_33, al_34, al_35, al_36, al_37, al_38, al_39, al_40, al_41, al_42, al_43, al_44, al_45, al_46, al_48, al_49, al_50, al_51, al_52, al_53, al_54, al_55, al_56, al_57, al_58, al_59, al_60, al_61, al_62, al_63, al_64, al_65, al_66, al_67, al_68, al_69, al_70, rf_0_0, rf_0_1, rf_0_2, rf_0_3, rf_0_4, rf_0_5, rf_0_6, rf_0_7, rf_0_8, rf_0_10, rf_0_11, rf_1_0, rf_1_1, rf_1_2, rf_2_0, rf_2_1, rf_2_2, rf_3_0, rf_3_1, rf_3_2, rf_4_0, rf_4_1, rf_4_2, rf_5_0, rf_5_1, rf_5_2, rf_6_0, rf_6_1, rf_7_0, rf_7_1, rf_8_0, rf_8_1, rf_8_5, rf_8_6, rf_8_7, rf_8_8, rf_8_9, rf_9_0, rf_10_0, rf_11_0, rf_12_0, rf_47_0, rf_47_1, rf_47_2, rf_47_3, rf_47_5, rf_47_6, rf_47_8, rf_47_10, rf_47_12, rf_47_14, rf_47_15, rf_47_16, rf_47_17, rf_47_18, rf_47_19, rf_47_20, rf_47_21, rf_47_22, rf_47_23, rf_47_24, rf_47_26, rf_47_27, rf_47_29, rf_17, rf_20, rf_21, rf_22, rf_23, rf_24, rl_17, rl_20, rl_21, rl_22, rl_23, rl_24, t73_0, t73_2, t73_3, t73_4, B73_0, B73_1, B73_2, B73_3, B73_4, r3]
        rw [m_i0 (by omega) (by omega)]
        have es : sOK T b = decide (gap T (sm T (y + 1)) (T 11 b) = T 12 b) := by
          unfold sOK
          rw [show (T 10 b).toNat = y by omega]
          simp [e2]
        by_cases e3 : gap T (sm T (y + 1)) (T 11 b) = T 12 b
        · rw [es] at ih
          simp only [e1, e3, Classical.not_not, Prod.mk.injEq, m_l, m_lp, m_lq, m_ps, m_ws, m_en, List.replicate, if_true, if_false, reduceIte, true_and, and_true, false_and, and_false, true_or, or_true, false_or, or_false, and_self, or_self, not_true_eq_false, not_false_eq_true, ne_eq, Nat.reduceLeDiff, Nat.reduceEqDiff, Nat.reduceAdd, Int.reduceLE, Int.reduceLT, Int.reduceEq, Int.reduceNe, Int.reduceAdd, Int.reduceNeg, Nat.reduceSub, Nat.succ_ne_zero, Nat.not_succ_le_zero, Nat.reduceMul, Int.reduceMul, Int.reduceSub, Int.reduceToNat, Nat.zero_le, Nat.reduceLT] at ih
          simp only [e3, Classical.not_not, Prod.mk.injEq, m_l, m_lp, m_lq, m_ps, m_ws, m_en, List.replicate, if_true, if_false, reduceIte, true_and, and_true, false_and, and_false, true_or, or_true, false_or, or_false, and_self, or_self, not_true_eq_false, not_false_eq_true, ne_eq, Nat.reduceLeDiff, Nat.reduceEqDiff, Nat.reduceAdd, Int.reduceLE, Int.reduceLT, Int.reduceEq, Int.reduceNe, Int.reduceAdd, Int.reduceNeg, Nat.reduceSub, Nat.succ_ne_zero, Nat.not_succ_le_zero, Nat.reduceMul, Int.reduceMul, Int.reduceSub, Int.reduceToNat, Nat.zero_le, Nat.reduceLT]
          have := ih (0, T 11 b)
          grind
        · have := hdn (by rw [es]; simp [e1, e3])
          rw [this] at h
          simp only [e3, Classical.not_not, Prod.mk.injEq, m_l, m_lp, m_lq, m_ps, m_ws, m_en, List.replicate, if_true, if_false, reduceIte, true_and, and_true, false_and, and_false, true_or, or_true, false_or, or_false, and_self, or_self, not_true_eq_false, not_false_eq_true, ne_eq, Nat.reduceLeDiff, Nat.reduceEqDiff, Nat.reduceAdd, Int.reduceLE, Int.reduceLT, Int.reduceEq, Int.reduceNe, Int.reduceAdd, Int.reduceNeg, Nat.reduceSub, Nat.succ_ne_zero, Nat.not_succ_le_zero, Nat.reduceMul, Int.reduceMul, Int.reduceSub, Int.reduceToNat, Nat.zero_le, Nat.reduceLT]
          grind
      · have es : sOK T b = false := by
          unfold sOK
          simp [e2]
        have := hdn (by rw [es]; simp [e1])
        rw [this] at h
        simp only [e1, e2, Classical.not_not, Prod.mk.injEq, m_l, m_lp, m_lq, m_ps, m_ws, m_en, List.replicate, if_true, if_false, reduceIte, true_and, and_true, false_and, and_false, true_or, or_true, false_or, or_false, and_self, or_self, not_true_eq_false, not_false_eq_true, ne_eq, Nat.reduceLeDiff, Nat.reduceEqDiff, Nat.reduceAdd, Int.reduceLE, Int.reduceLT, Int.reduceEq, Int.reduceNe, Int.reduceAdd, Int.reduceNeg, Nat.reduceSub, Nat.succ_ne_zero, Nat.not_succ_le_zero, Nat.reduceMul, Int.reduceMul, Int.reduceSub, Int.reduceToNat, Nat.zero_le, Nat.reduceLT]
        grind
    · simp only [e1, Classical.not_not, Prod.mk.injEq, m_l, m_lp, m_lq, m_ps, m_ws, m_en, List.replicate, if_true, if_false, reduceIte, true_and, and_true, false_and, and_false, true_or, or_true, false_or, or_false, and_self, or_self, not_true_eq_false, not_false_eq_true, ne_eq, Nat.reduceLeDiff, Nat.reduceEqDiff, Nat.reduceAdd, Int.reduceLE, Int.reduceLT, Int.reduceEq, Int.reduceNe, Int.reduceAdd, Int.reduceNeg, Nat.reduceSub, Nat.succ_ne_zero, Nat.not_succ_le_zero, Nat.reduceMul, Int.reduceMul, Int.reduceSub, Int.reduceToNat, Nat.zero_le, Nat.reduceLT]
      refine ⟨?_, ih _ ?_⟩
      · omega
      · simp [e1]
