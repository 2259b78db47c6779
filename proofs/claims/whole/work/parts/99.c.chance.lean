theorem cmp_eq (x y : Int) : (m_cmp x y = 0) = (x = y) := by
  unfold m_cmp
  refine propext ⟨fun q => ?_, fun q => ?_⟩
  · split at q
    · omega
    · split at q <;> omega
  · rw [if_neg (by omega), if_pos q]
theorem gcd_mod (a b : Nat) : Nat.gcd b (a % b) = Nat.gcd a b := by
  rw [Nat.gcd_comm b (a % b), ← Nat.gcd_rec, Nat.gcd_comm]
theorem d_partL {μ : MMem} {A B : Nat} {w : Int} (hA : (A : Int) < 9223372036854775808) (hB : (B : Int) < 9223372036854775808) {Q : MVal → MMem → Prop} : ∀ (m b a : Nat) (u v : MVal), b < m → 0 < a + b → (a : Int) < 9223372036854775808 → (b : Int) < 9223372036854775808 → Q (1, (((if w = 0 then A else B) / Nat.gcd a b : Nat) : Int)) μ → At 109 1 [(1, (A : Int)), (14, 0), (1, (B : Int)), (14, 0), (0, w), (1, (a : Int)), (14, 0), (1, (b : Int)), (14, 0), u, v] [] μ Q := by
  intro m
  induction m with
  | zero => intro b a u v hm; omega
  | succ m ih =>
    intro b a u v hm hab ha hb hq
    rw [t109_1]
    by_cases q : b = 0
    · subst q
      rw [Nat.gcd_zero_right] at hq
      have n0 : ((a : Int) ≠ 0) := by omega
      have d0 : m_ld 0 (A : Int) (a : Int) = ((A / a : Nat) : Int) := by rw [m_ld0 (by omega) hA (by omega) ha]; rfl
      have d1 : m_ld 0 (B : Int) (a : Int) = ((B / a : Nat) : Int) := by rw [m_ld0 (by omega) hB (by omega) ha]; rfl
      simp only [t109_0, t109_2, t109_3, t109_4, B109_0, B109_1, B109_2, B109_3, B109_4, Classical.not_not, Prod.mk.injEq, m_l, m_lp, m_lq, m_ps, m_ws, m_en, List.replicate, if_true, if_false, reduceIte, true_and, and_true, false_and, and_false, true_or, or_true, false_or, or_false, and_self, or_self, not_true_eq_false, not_false_eq_true, ne_eq, Nat.reduceLeDiff, Nat.reduceEqDiff, Nat.reduceAdd, Int.reduceLE, Int.reduceLT, Int.reduceEq, Int.reduceNe, Int.reduceAdd, Int.reduceNeg, Nat.reduceSub, Nat.succ_ne_zero, Nat.not_succ_le_zero, Nat.reduceMul, Int.reduceMul, Int.reduceSub, Int.reduceToNat, Nat.zero_le, Nat.reduceLT, r_0, r_1, r_2, r_3, r_4, r_5, r_6, r_7, r_9, r_10, r_11, r_12, r_13, r_14, r_15, r_16, r_17, r_18, r_19, r_20_0, r_21_0, r_20_1, r_21_1, r_20_2, r_21_2, r_20_3, r_21_3, r_20_4, r_21_4, r_20_5, r_21_5, r_22_0, r_22_1, r_23, r_24, r_25, r_26, r_27, r_28, r_29, r_30_0, r_30_1, r_30_2, r_31, r_31b, r_32, r_33, r_33b, r_33c, r_34, r_34b, r_35, r_45, r_46, r_47_0, r_47_1, r_40, r_50, r_51, r_41_0, r_41_1, r_42, r_43, r_44, r_36_0, r_37_0, r_38_0, r_48_0, r_36_1, r_37_1, r_38_1, r_48_1, r_36_2, r_37_2, r_38_2, r_48_2, r_36_3, r_37_3, r_36_4, r_37_4, r_36_5, r_37_5, r_39, r_8, al_13, al_14, al_15, al_16, al_18, al_19, al_25, al_26, al_27, al_28, al_29, al_30, al_31, al_32, al_33, al_34, al_35, al_36, al_37, al_38, al_39, al_40, al_41, al_42, al_43, al_44, al_45, al_46, al_48, al_49, al_50, al_51, al_52, al_53, al_54, al_55, al_56, al_57, al_58, al_59, al_60, al_61, al_62, al_63, al_64, al_65, al_66, al_67, al_68, al_69, al_70, rf_0_0, rf_0_1, rf_0_2, rf_0_3, rf_0_4, rf_0_5, rf_0_6, rf_0_7, rf_0_8, rf_0_10, rf_0_11, rf_1_0, rf_1_1, rf_1_2, rf_2_0, rf_2_1, rf_2_2, rf_3_0, rf_3_1, rf_3_2, rf_4_0, rf_4_1, rf_4_2, rf_5_0, rf_5_1, rf_5_2, rf_6_0, rf_6_1, rf_7_0, rf_7_1, rf_8_0, rf_8_1, rf_8_5, rf_8_6, rf_8_7, rf_8_8, rf_8_9, rf_9_0, rf_10_0, rf_11_0, rf_12_0, rf_47_0, rf_47_1, rf_47_2, rf_47_3, rf_47_5, rf_47_6, rf_47_8, rf_47_10, rf_47_12, rf_47_14, rf_47_15, rf_47_16, rf_47_17, rf_47_18, rf_47_19, rf_47_20, rf_47_21, rf_47_22, rf_47_23, rf_47_24, rf_47_26, rf_47_27, rf_47_29, rf_17, rf_20, rf_21, rf_22, rf_23, rf_24, rl_17, rl_20, rl_21, rl_22, rl_23, rl_24, cmp_eq, nc0, n0, d0, d1]
      by_cases z : w = 0
      · rw [if_pos z] at hq
        rw [if_neg (fun q => q z)]
        exact hq
      · rw [if_neg z] at hq
        rw [if_pos z]
        exact hq
    · have hr : m_ld 1 (a : Int) (b : Int) = ((a % b : Nat) : Int) := by rw [m_ld1 (by omega) ha (by omega) hb]; rfl
      have hlt := Nat.mod_lt a (show 0 < b by omega)
      have e0 : ((b : Int) = 0) = False := eq_false (by omega)
      have ih := ih (a % b) b (1, ((a % b : Nat) : Int)) (14, 0) (by omega) (by omega) hb (by omega) (by rw [gcd_mod]; exact hq)
      have hl : (2 : Nat) ≤ 14 := by decide
      simp only [t109_0, t109_2, t109_3, t109_4, B109_0, B109_1, B109_2, B109_3, B109_4, Classical.not_not, Prod.mk.injEq, m_l, m_lp, m_lq, m_ps, m_ws, m_en, List.replicate, if_true, if_false, reduceIte, true_and, and_true, false_and, and_false, true_or, or_true, false_or, or_false, and_self, or_self, not_true_eq_false, not_false_eq_true, ne_eq, Nat.reduceLeDiff, Nat.reduceEqDiff, Nat.reduceAdd, Int.reduceLE, Int.reduceLT, Int.reduceEq, Int.reduceNe, Int.reduceAdd, Int.reduceNeg, Nat.reduceSub, Nat.succ_ne_zero, Nat.not_succ_le_zero, Nat.reduceMul, Int.reduceMul, Int.reduceSub, Int.reduceToNat, Nat.zero_le, Nat.reduceLT, r_0, r_1, r_2, r_3, r_4, r_5, r_6, r_7, r_9, r_10, r_11, r_12, r_13, r_14, r_15, r_16, r_17, r_18, r_19, r_20_0, r_21_0, r_20_1, r_21_1, r_20_2, r_21_2, r_20_3, r_21_3, r_20_4, r_21_4, r_20_5, r_21_5, r_22_0, r_22_1, r_23, r_24, r_25, r_26, r_27, r_28, r_29, r_30_0, r_30_1, r_30_2, r_31, r_31b, r_32, r_33, r_33b, r_33c, r_34, r_34b, r_35, r_45, r_46, r_47_0, r_47_1, r_40, r_50, r_51, r_41_0, r_41_1, r_42, r_43, r_44, r_36_0, r_37_0, r_38_0, r_48_0, r_36_1, r_37_1, r_38_1, r_48_1, r_36_2, r_37_2, r_38_2, r_48_2, r_36_3, r_37_3, r_36_4, r_37_4, r_36_5, r_37_5, r_39, r_8, al_13, al_14, al_15, al_16, al_18, al_19, al_25, al_26, al_27, al_28, al_29, al_30, al_31, al_32, al_33, al_34, al_35, al_36, al_37, al_38, al_39, al_40, al_41, al_42, al_43, al_44, al_45, al_46, al_48, al_49, al_50, al_51, al_52, al_53, al_54, al_55, al_56, al_57, al_58, al_59, al_60, al_61, al_62, al_63, al_64, al_65, al_66, al_67, al_68, al_69, al_70, rf_0_0, rf_0_1, rf_0_2, rf_0_3, rf_0_4, rf_0_5, rf_0_6, rf_0_7, rf_0_8, rf_0_10, rf_0_11, rf_1_0, rf_1_1, rf_1_2, rf_2_0, rf_2_1, rf_2_2, rf_3_0, rf_3_1, rf_3_2, rf_4_0, rf_4_1, rf_4_2, rf_5_0, rf_5_1, rf_5_2, rf_6_0, rf_6_1, rf_7_0, rf_7_1, rf_8_0, rf_8_1, rf_8_5, rf_8_6, rf_8_7, rf_8_8, rf_8_9, rf_9_0, rf_10_0, rf_11_0, rf_12_0, rf_47_0, rf_47_1, rf_47_2, rf_47_3, rf_47_5, rf_47_6, rf_47_8, rf_47_10, rf_47_12, rf_47_14, rf_47_15, rf_47_16, rf_47_17, rf_47_18, rf_47_19, rf_47_20, rf_47_21, rf_47_22, rf_47_23, rf_47_24, rf_47_26, rf_47_27, rf_47_29, rf_17, rf_20, rf_21, rf_22, rf_23, rf_24, rl_17, rl_20, rl_21, rl_22, rl_23, rl_24, cmp_eq, e0, hr]
      exact ih
theorem d_part {A B : Nat} (hB0 : 0 < B) (w : Int) (hA : (A : Int) < 9223372036854775808) (hB : (B : Int) < 9223372036854775808) (μ : MMem) (Q : MVal → MMem → Prop) : Cal 109 [(1, (A : Int)), (1, (B : Int)), (0, w)] μ Q = Q (1, (((if w = 0 then A else B) / Nat.gcd A B : Nat) : Int)) μ := by
  refine cal_eq rfl ?_ Q
  show Rn 109 B109_0 [(1, (A : Int)), (14, 0), (1, (B : Int)), (14, 0), (0, w), (14, 0), (14, 0), (14, 0), (14, 0), (14, 0), (14, 0)] [] μ _
  simp only [t109_0, t109_2, t109_3, t109_4, B109_0, B109_1, B109_2, B109_3, B109_4, Classical.not_not, Prod.mk.injEq, m_l, m_lp, m_lq, m_ps, m_ws, m_en, List.replicate, if_true, if_false, reduceIte, true_and, and_true, false_and, and_false, true_or, or_true, false_or, or_false, and_self, or_self, not_true_eq_false, not_false_eq_true, ne_eq, Nat.reduceLeDiff, Nat.reduceEqDiff, Nat.reduceAdd, Int.reduceLE, Int.reduceLT, Int.reduceEq, Int.reduceNe, Int.reduceAdd, Int.reduceNeg, Nat.reduceSub, Nat.succ_ne_zero, Nat.not_succ_le_zero, Nat.reduceMul, Int.reduceMul, Int.reduceSub, Int.reduceToNat, Nat.zero_le, Nat.reduceLT, r_0, r_1, r_2, r_3, r_4, r_5, r_6, r_7, r_9, r_10, r_11, r_12, r_13, r_14, r_15, r_16, r_17, r_18, r_19, r_20_0, r_21_0, r_20_1, r_21_1, r_20_2, r_21_2, r_20_3, r_21_3, r_20_4, r_21_4, r_20_5, r_21_5, r_22_0, r_22_1, r_23, r_24, r_25, r_26, r_27, r_28, r_29, r_30_0, r_30_1, r_30_2, r_31, r_31b, r_32, r_33, r_33b, r_33c, r_34, r_34b, r_35, r_45, r_46, r_47_0, r_47_1, r_40, r_50, r_51, r_41_0, r_41_1, r_42, r_43, r_44, r_36_0, r_37_0, r_38_0, r_48_0, r_36_1, r_37_1, r_38_1, r_48_1, r_36_2, r_37_2, r_38_2, r_48_2, r_36_3, r_37_3, r_36_4, r_37_4, r_36_5, r_37_5, r_39, r_8, al_13, al_14, al_15, al_16, al_18, al_19, al_25, al_26, al_27, al_28, al_29, al_30, al_31, al_32, al_33, al_34, al_35, al_36, al_37, al_38, al_39, al_40, al_41, al_42, al_43, al_44, al_45, al_46, al_48, al_49, al_50, al_51, al_52, al_53, al_54, al_55, al_56, al_57, al_58, al_59, al_60, al_61, al_62, al_63, al_64, al_65, al_66, al_67, al_68, al_69, al_70, rf_0_0, rf_0_1, rf_0_2, rf_0_3, rf_0_4, rf_0_5, rf_0_6, rf_0_7, rf_0_8, rf_0_10, rf_0_11, rf_1_0, rf_1_1, rf_1_2, rf_2_0, rf_2_1, rf_2_2, rf_3_0, rf_3_1, rf_3_2, rf_4_0, rf_4_1, rf_4_2, rf_5_0, rf_5_1, rf_5_2, rf_6_0, rf_6_1, rf_7_0, rf_7_1, rf_8_0, rf_8_1, rf_8_5, rf_8_6, rf_8_7, rf_8_8, rf_8_9, rf_9_0, rf_10_0, rf_11_0, rf_12_0, rf_47_0, rf_47_1, rf_47_2, rf_47_3, rf_47_5, rf_47_6, rf_47_8, rf_47_10, rf_47_12, rf_47_14, rf_47_15, rf_47_16, rf_47_17, rf_47_18, rf_47_19, rf_47_20, rf_47_21, rf_47_22, rf_47_23, rf_47_24, rf_47_26, rf_47_27, rf_47_29, rf_17, rf_20, rf_21, rf_22, rf_23, rf_24, rl_17, rl_20, rl_21, rl_22, rl_23, rl_24]
  exact d_partL hA hB (B + 1) B A _ _ (by omega) (by omega) hA hB ⟨rfl, rfl⟩
theorem hv_gcd : ∀ p A : Nat, hvA p A = A / Nat.gcd A (2 ^ p) ∧ 2 ^ hvP p A = 2 ^ p / Nat.gcd A (2 ^ p)
  | 0, A => by
    simp [hvA, hvP]
  | p + 1, A => by
    by_cases q : A % 2 = 0
    · obtain ⟨B, rfl⟩ : ∃ B, A = 2 * B := ⟨A / 2, by omega⟩
      have ih := hv_gcd p B
      have hg : Nat.gcd (2 * B) (2 ^ (p + 1)) = 2 * Nat.gcd B (2 ^ p) := by
        rw [Nat.pow_succ, Nat.mul_comm (2 ^ p) 2, Nat.gcd_mul_left]
      rw [hvA, hvP, if_pos q, if_pos q, hg, show 2 * B / 2 = B by omega, ih.1, ih.2]
      refine ⟨?_, ?_⟩
      · rw [Nat.mul_div_mul_left _ _ (by decide)]
      · rw [Nat.pow_succ, Nat.mul_comm (2 ^ p) 2, Nat.mul_div_mul_left _ _ (by decide)]
    · have h1 : Nat.gcd A 2 = 1 := by
        rw [Nat.gcd_comm, Nat.gcd_rec, show A % 2 = 1 by omega]
        rfl
      have hg : Nat.gcd A (2 ^ (p + 1)) = 1 := Nat.Coprime.pow_right (p + 1) h1
      rw [hvA, hvP, if_neg q, if_neg q, hg, Nat.div_one, Nat.div_one]
      exact ⟨rfl, rfl⟩
theorem fr_part (A p : Nat) (w : Int) : frS A p w = (((if w = 0 then A else 2 ^ p) / Nat.gcd A (2 ^ p) : Nat) : Int) := by
  have h := hv_gcd p A
  unfold frS
  by_cases q : w = 0
  · rw [if_pos q, if_pos q, h.1]
  · rw [if_neg q, if_neg q, ← h.2]
    push_cast
    rfl
theorem d_chn4 {μ T : MMem} (hT : TW T) (h11 : μ 47 11 = T 0 2) {c i w m x g : Int} (hc : 0 ≤ c ∧ c ≤ 16) (hg : g = 0 ∨ g = 1) {Q : MVal → MMem → Prop} (h : At 185 7 [(10, 47), (0, c), (0, i), (0, w), (1, x), (14, 0), (0, m), (1, g * wtN m c (ne T)), (14, 0), (0, (ne T : Int))] [] μ Q) : ∀ d b : Nat, b + d = ne T → At 185 4 [(10, 47), (0, c), (0, i), (0, w), (1, x), (14, 0), (0, m), (1, g * wtN m c b), (14, 0), (0, (b : Int))] [] μ Q := by
  have h8 := hT.2.2.1
  have hn : (ne T : Int) = T 0 2 := by unfold ne; omega
  intro d
  induction d with
  | zero =>
    intro b hb
    have e : b = ne T := by omega
    subst e
    rw [t185_4]
    simp only [t185_0, t185_2, t185_3, t185_5, t185_6, t185_8, B185_0, B185_1, B185_2, B185_3, B185_4, B185_5, B185_6, B185_7, B185_8, Classical.not_not, Prod.mk.injEq, m_l, m_lp, m_lq, m_ps, m_ws, m_en, List.replicate, if_true, if_false, reduceIte, true_and, and_true, false_and, and_false, true_or, or_true, false_or, or_false, and_self, or_self, not_true_eq_false, not_false_eq_true, ne_eq, Nat.reduceLeDiff, Nat.reduceEqDiff, Nat.reduceAdd, Int.reduceLE, Int.reduceLT, Int.reduceEq, Int.reduceNe, Int.reduceAdd, Int.reduceNeg, Nat.reduceSub, Nat.succ_ne_zero, Nat.not_succ_le_zero, Nat.reduceMul, Int.reduceMul, Int.reduceSub, Int.reduceToNat, Nat.zero_le, Nat.reduceLT, r_0, r_1, r_2, r_3, r_4, r_5, r_6, r_7, r_9, r_10, r_11, r_12, r_13, r_14, r_15, r_16, r_17, r_18, r_19, r_20_0, r_21_0, r_20_1, r_21_1, r_20_2, r_21_2, r_20_3, r_21_3, r_20_4, r_21_4, r_20_5, r_21_5, r_22_0, r_22_1, r_23, r_24, r_25, r_26, r_27, r_28, r_29, r_30_0, r_30_1, r_30_2, r_31, r_31b, r_32, r_33, r_33b, r_33c, r_34, r_34b, r_35, r_45, r_46, r_47_0, r_47_1, r_40, r_50, r_51, r_41_0, r_41_1, r_42, r_43, r_44, r_36_0, r_37_0, r_38_0, r_48_0, r_36_1, r_37_1, r_38_1, r_48_1, r_36_2, r_37_2, r_38_2, r_48_2, r_36_3, r_37_3, r_36_4, r_37_4, r_36_5, r_37_5, r_39, r_8, al_13, al_14, al_15, al_16, al_18, al_19, al_25, al_26, al_27, al_28, al_29, al_30, al_31, al_32, al_33, al_34, al_35, al_36, al_37, al_38, al_39, al_40, al_41, al_42, al_43, al_44, al_45, al_46, al_48, al_49, al_50, al_51, al_52, al_53, al_54, al_55, al_56, al_57, al_58, al_59, al_60, al_61, al_62, al_63, al_64, al_65, al_66, al_67, al_68, al_69, al_70, rf_0_0, rf_0_1, rf_0_2, rf_0_3, rf_0_4, rf_0_5, rf_0_6, rf_0_7, rf_0_8, rf_0_10, rf_0_11, rf_1_0, rf_1_1, rf_1_2, rf_2_0, rf_2_1, rf_2_2, rf_3_0, rf_3_1, rf_3_2, rf_4_0, rf_4_1, rf_4_2, rf_5_0, rf_5_1, rf_5_2, rf_6_0, rf_6_1, rf_7_0, rf_7_1, rf_8_0, rf_8_1, rf_8_5, rf_8_6, rf_8_7, rf_8_8, rf_8_9, rf_9_0, rf_10_0, rf_11_0, rf_12_0, rf_47_0, rf_47_1, rf_47_2, rf_47_3, rf_47_5, rf_47_6, rf_47_8, rf_47_10, rf_47_12, rf_47_14, rf_47_15, rf_47_16, rf_47_17, rf_47_18, rf_47_19, rf_47_20, rf_47_21, rf_47_22, rf_47_23, rf_47_24, rf_47_26, rf_47_27, rf_47_29, rf_17, rf_20, rf_21, rf_22, rf_23, rf_24, rl_17, rl_20, rl_21, rl_22, rl_23, rl_24, h11]
    rw [if_pos (by omega)]
    exact h
  | succ d ih =>
    intro b hb
    have ih := ih (b + 1) (by omega)
    have hw2 := wtN_8 (m := m) hc (n := b + 1) (by omega)
    have m16 : m_i 1 16 c = 16 - c := m_i1 (by omega) (by omega)
    have mb : m_i 0 b 1 = (b : Int) + 1 := m_i0 (by omega) (by omega)
    rw [wtN] at ih hw2
    push_cast at ih
    have key : ∀ z : Int, wtN m c b * z = wtN m c b * (if tb m b then 16 - c else c) → m_lb 2 (g * wtN m c b) z = g * (wtN m c b * (if tb m b then 16 - c else c)) := fun z hz => by
      have e : g * wtN m c b * z = g * (wtN m c b * (if tb m b then 16 - c else c)) := by rw [Int.mul_assoc, hz]
      have hbd : 0 ≤ g * (wtN m c b * (if tb m b then 16 - c else c)) ∧ g * (wtN m c b * (if tb m b then 16 - c else c)) ≤ 4294967296 := by
        rcases hg with rfl | rfl
        · rw [Int.zero_mul]; omega
        · rw [Int.one_mul]; exact hw2
      rw [m_l2 (by rw [e]; omega) (by rw [e]; omega), e]
    rw [t185_4]
    simp only [t185_0, t185_2, t185_3, t185_5, t185_6, t185_8, B185_0, B185_1, B185_2, B185_3, B185_4, B185_5, B185_6, B185_7, B185_8, Classical.not_not, Prod.mk.injEq, m_l, m_lp, m_lq, m_ps, m_ws, m_en, List.replicate, if_true, if_false, reduceIte, true_and, and_true, false_and, and_false, true_or, or_true, false_or, or_false, and_self, or_self, not_true_eq_false, not_false_eq_true, ne_eq, Nat.reduceLeDiff, Nat.reduceEqDiff, Nat.reduceAdd, Int.reduceLE, Int.reduceLT, Int.reduceEq, Int.reduceNe, Int.reduceAdd, Int.reduceNeg, Nat.reduceSub, Nat.succ_ne_zero, Nat.not_succ_le_zero, Nat.reduceMul, Int.reduceMul, Int.reduceSub, Int.reduceToNat, Nat.zero_le, Nat.reduceLT, r_0, r_1, r_2, r_3, r_4, r_5, r_6, r_7, r_9, r_10, r_11, r_12, r_13, r_14, r_15, r_16, r_17, r_18, r_19, r_20_0, r_21_0, r_20_1, r_21_1, r_20_2, r_21_2, r_20_3, r_21_3, r_20_4, r_21_4, r_20_5, r_21_5, r_22_0, r_22_1, r_23, r_24, r_25, r_26, r_27, r_28, r_29, r_30_0, r_30_1, r_30_2, r_31, r_31b, r_32, r_33, r_33b, r_33c, r_34, r_34b, r_35, r_45, r_46, r_47_0, r_47_1, r_40, r_50, r_51, r_41_0, r_41_1, r_42, r_43, r_44, r_36_0, r_37_0, r_38_0, r_48_0, r_36_1, r_37_1, r_38_1, r_48_1, r_36_2, r_37_2, r_38_2, r_48_2, r_36_3, r_37_3, r_36_4, r_37_4, r_36_5, r_37_5, r_39, r_8, al_13, al_14, al_15, al_16, al_18, al_19, al_25, al_26, al_27, al_28, al_29, al_30, al_31, al_32, al_33, al_34, al_35, al_36, al_37, al_38, al_39, al_40, al_41, al_42, al_43, al_44, al_45, al_46, al_48, al_49, al_50, al_51, al_52, al_53, al_54, al_55, al_56, al_57, al_58, al_59, al_60, al_61, al_62, al_63, al_64, al_65, al_66, al_67, al_68, al_69, al_70, rf_0_0, rf_0_1, rf_0_2, rf_0_3, rf_0_4, rf_0_5, rf_0_6, rf_0_7, rf_0_8, rf_0_10, rf_0_11, rf_1_0, rf_1_1, rf_1_2, rf_2_0, rf_2_1, rf_2_2, rf_3_0, rf_3_1, rf_3_2, rf_4_0, rf_4_1, rf_4_2, rf_5_0, rf_5_1, rf_5_2, rf_6_0, rf_6_1, rf_7_0, rf_7_1, rf_8_0, rf_8_1, rf_8_5, rf_8_6, rf_8_7, rf_8_8, rf_8_9, rf_9_0, rf_10_0, rf_11_0, rf_12_0, rf_47_0, rf_47_1, rf_47_2, rf_47_3, rf_47_5, rf_47_6, rf_47_8, rf_47_10, rf_47_12, rf_47_14, rf_47_15, rf_47_16, rf_47_17, rf_47_18, rf_47_19, rf_47_20, rf_47_21, rf_47_22, rf_47_23, rf_47_24, rf_47_26, rf_47_27, rf_47_29, rf_17, rf_20, rf_21, rf_22, rf_23, rf_24, rl_17, rl_20, rl_21, rl_22, rl_23, rl_24, h11, d_isIn, b0, m16, mb]
    rw [if_neg (by omega)]
    by_cases q : tb m b = true
    · rw [if_neg (fun z => z q), key (16 - c) (by rw [if_pos q])]
      exact ih
    · rw [if_pos q, key c (by rw [if_neg q])]
      exact ih
theorem d_chn1 {μ T : MMem} (hT : TW T) (hD : DT μ T) (h3 : T 0 3 = 0) {c i w : Int} (hc : 0 ≤ c ∧ c ≤ 16) {Q : MVal → MMem → Prop} (h : ∀ μ', FX μ μ' → Q (1, frS (chN T i c (2 ^ ne T)).toNat (4 * ne T) w) μ') : ∀ (d b : Nat) (ν : MMem) (u v x : MVal), b + d = 2 ^ ne T → FV μ ν → At 185 1 [(10, 47), (0, c), (0, i), (0, w), (1, chN T i c b), (14, 0), (0, (b : Int)), u, v, x] [] ν Q := by
  have h8 := hT.2.2.1
  have hn : (ne T : Int) = T 0 2 := by unfold ne; omega
  have hp := pw8 ⟨ne T, by omega⟩
  have hsh := m_sh1 ⟨ne T, by omega⟩
  simp only at hp hsh
  rw [hn] at hsh
  have hpl : 2 ^ ne T ≤ 256 := by omega
  intro d
  induction d with
  | zero =>
    intro b ν u v x hb hF
    have e : b = 2 ^ ne T := by omega
    have e11 : ν 47 11 = T 0 2 := by rw [hF.2 11 (by decide)]; exact hD.2.2.1
    have e11' : m_w ν 47 13 0 47 11 = T 0 2 := by rw [mw_at, if_neg (by decide)]; exact e11
    have hin := chN_in hT (i := i) hc b
    have m4 : m_i 2 4 (T 0 2) = ((4 * ne T : Nat) : Int) := by rw [m_i2 (by omega) (by omega)]; omega
    have hls := m_ls1 ⟨4 * ne T, by omega⟩
    simp only at hls
    have hls2 : m_ls 1 ((4 * ne T : Nat) : Int) = ((2 ^ (4 * ne T) : Nat) : Int) := by rw [hls]; push_cast; rfl
    have hb32 : ∀ k : Fin 33, (2 : Nat) ^ k.val ≤ 4294967296 := by decide +kernel
    have hb2 := hb32 ⟨4 * ne T, by omega⟩
    simp only at hb2
    have ec : (((chN T i c b).toNat : Nat) : Int) = chN T i c b := by omega
    have cp := d_part (A := (chN T i c b).toNat) (B := 2 ^ (4 * ne T)) (Nat.pow_pos (by decide)) w (by omega) (by omega) (m_w ν 47 13 0)
    rw [← fr_part, ec] at cp
    have := h _ (hF.end (by rw [hD.2.2.2.1]; exact h3))
    rw [← e] at this
    have hcond : ((2 : Int) ^ ne T ≤ (b : Int)) = True := eq_true (by omega)
    rw [t185_1]
    simp only [t185_0, t185_2, t185_3, t185_5, t185_6, t185_8, B185_0, B185_1, B185_2, B185_3, B185_4, B185_5, B185_6, B185_7, B185_8, Classical.not_not, Prod.mk.injEq, m_l, m_lp, m_lq, m_ps, m_ws, m_en, List.replicate, if_true, if_false, reduceIte, true_and, and_true, false_and, and_false, true_or, or_true, false_or, or_false, and_self, or_self, not_true_eq_false, not_false_eq_true, ne_eq, Nat.reduceLeDiff, Nat.reduceEqDiff, Nat.reduceAdd, Int.reduceLE, Int.reduceLT, Int.reduceEq, Int.reduceNe, Int.reduceAdd, Int.reduceNeg, Nat.reduceSub, Nat.succ_ne_zero, Nat.not_succ_le_zero, Nat.reduceMul, Int.reduceMul, Int.reduceSub, Int.reduceToNat, Nat.zero_le, Nat.reduceLT, r_0, r_1, r_2, r_3, r_4, r_5, r_6, r_7, r_9, r_10, r_11, r_12, r_13, r_14, r_15, r_16, r_17, r_18, r_19, r_20_0, r_21_0, r_20_1, r_21_1, r_20_2, r_21_2, r_20_3, r_21_3, r_20_4, r_21_4, r_20_5, r_21_5, r_22_0, r_22_1, r_23, r_24, r_25, r_26, r_27, r_28, r_29, r_30_0, r_30_1, r_30_2, r_31, r_31b, r_32, r_33, r_33b, r_33c, r_34, r_34b, r_35, r_45, r_46, r_47_0, r_47_1, r_40, r_50, r_51, r_41_0, r_41_1, r_42, r_43, r_44, r_36_0, r_37_0, r_38_0, r_48_0, r_36_1, r_37_1, r_38_1, r_48_1, r_36_2, r_37_2, r_38_2, r_48_2, r_36_3, r_37_3, r_36_4, r_37_4, r_36_5, r_37_5, r_39, r_8, al_13, al_14, al_15, al_16, al_18, al_19, al_25, al_26, al_27, al_28, al_29, al_30, al_31, al_32, al_33, al_34, al_35, al_36, al_37, al_38, al_39, al_40, al_41, al_42, al_43, al_44, al_45, al_46, al_48, al_49, al_50, al_51, al_52, al_53, al_54, al_55, al_56, al_57, al_58, al_59, al_60, al_61, al_62, al_63, al_64, al_65, al_66, al_67, al_68, al_69, al_70, rf_0_0, rf_0_1, rf_0_2, rf_0_3, rf_0_4, rf_0_5, rf_0_6, rf_0_7, rf_0_8, rf_0_10, rf_0_11, rf_1_0, rf_1_1, rf_1_2, rf_2_0, rf_2_1, rf_2_2, rf_3_0, rf_3_1, rf_3_2, rf_4_0, rf_4_1, rf_4_2, rf_5_0, rf_5_1, rf_5_2, rf_6_0, rf_6_1, rf_7_0, rf_7_1, rf_8_0, rf_8_1, rf_8_5, rf_8_6, rf_8_7, rf_8_8, rf_8_9, rf_9_0, rf_10_0, rf_11_0, rf_12_0, rf_47_0, rf_47_1, rf_47_2, rf_47_3, rf_47_5, rf_47_6, rf_47_8, rf_47_10, rf_47_12, rf_47_14, rf_47_15, rf_47_16, rf_47_17, rf_47_18, rf_47_19, rf_47_20, rf_47_21, rf_47_22, rf_47_23, rf_47_24, rf_47_26, rf_47_27, rf_47_29, rf_17, rf_20, rf_21, rf_22, rf_23, rf_24, rl_17, rl_20, rl_21, rl_22, rl_23, rl_24, e11, hsh, hcond, e11', m4, hls2, cp]
    exact this
  | succ d ih =>
    intro b ν u v x hb hF
    have e11 : ν 47 11 = T 0 2 := by rw [hF.2 11 (by decide)]; exact hD.2.2.1
    have hcond : ((2 : Int) ^ ne T ≤ (b : Int)) = False := eq_false (by omega)
    have hT2 := hT.gn b
    have hD2 := hF.dt hD b
    obtain ⟨μ1, ⟨f1, l1⟩, c1⟩ := d_lives _ hT2 hD2
    have hD1 := hD2.fl f1
    have cl := d_leftBy0 μ1 hT2 l1 hD1.1 hD1.2.1
    rw [gn_nh] at cl
    have eo : opN (gn T b) (sm (gn T b) 24) (nh T) = ow T b := rfl
    rw [eo] at cl
    have hF1 := (hF.w (b : Int)).fl f1
    have e11' : μ1 47 11 = T 0 2 := by rw [hF1.2 11 (by decide)]; exact hD.2.2.1
    have hin := chN_in hT (i := i) hc b
    have hw := wtN_8 (m := b) hc (n := ne T) (by omega)
    have mb : m_i 0 b 1 = (b : Int) + 1 := m_i0 (by omega) (by omega)
    have ih := fun u v x => ih (b + 1) μ1 u v x (by omega) hF1
    rw [chN] at ih
    push_cast at ih
    have c4 := fun (g : Int) hg hx => d_chn4 (μ := μ1) hT e11' (c := c) (i := i) (w := w) (m := b) (x := chN T i c b) (g := g) hc hg (Q := Q) hx (ne T) 0 (by omega)
    simp only [wtN, Int.mul_one, nc0] at c4
    rw [t185_1]
    simp only [t185_0, t185_2, t185_3, t185_5, t185_6, t185_8, B185_0, B185_1, B185_2, B185_3, B185_4, B185_5, B185_6, B185_7, B185_8, Classical.not_not, Prod.mk.injEq, m_l, m_lp, m_lq, m_ps, m_ws, m_en, List.replicate, if_true, if_false, reduceIte, true_and, and_true, false_and, and_false, true_or, or_true, false_or, or_false, and_self, or_self, not_true_eq_false, not_false_eq_true, ne_eq, Nat.reduceLeDiff, Nat.reduceEqDiff, Nat.reduceAdd, Int.reduceLE, Int.reduceLT, Int.reduceEq, Int.reduceNe, Int.reduceAdd, Int.reduceNeg, Nat.reduceSub, Nat.succ_ne_zero, Nat.not_succ_le_zero, Nat.reduceMul, Int.reduceMul, Int.reduceSub, Int.reduceToNat, Nat.zero_le, Nat.reduceLT, r_0, r_1, r_2, r_3, r_4, r_5, r_6, r_7, r_9, r_10, r_11, r_12, r_13, r_14, r_15, r_16, r_17, r_18, r_19, r_20_0, r_21_0, r_20_1, r_21_1, r_20_2, r_21_2, r_20_3, r_21_3, r_20_4, r_21_4, r_20_5, r_21_5, r_22_0, r_22_1, r_23, r_24, r_25, r_26, r_27, r_28, r_29, r_30_0, r_30_1, r_30_2, r_31, r_31b, r_32, r_33, r_33b, r_33c, r_34, r_34b, r_35, r_45, r_46, r_47_0, r_47_1, r_40, r_50, r_51, r_41_0, r_41_1, r_42, r_43, r_44, r_36_0, r_37_0, r_38_0, r_48_0, r_36_1, r_37_1, r_38_1, r_48_1, r_36_2, r_37_2, r_38_2, r_48_2, r_36_3, r_37_3, r_36_4, r_37_4, r_36_5, r_37_5, r_39, r_8, al_13, al_14, al_15, al_16, al_18, al_19, al_25, al_26, al_27, al_28, al_29, al_30, al_31, al_32, al_33, al_34, al_35, al_36, al_37, al_38, al_39, al_40, al_41, al_42, al_43, al_44, al_45, al_46, al_48, al_49, al_50, al_51, al_52, al_53, al_54, al_55, al_56, al_57, al_58, al_59, al_60, al_61, al_62, al_63, al_64, al_65, al_66, al_67, al_68, al_69, al_70, rf_0_0, rf_0_1, rf_0_2, rf_0_3, rf_0_4, rf_0_5, rf_0_6, rf_0_7, rf_0_8, rf_0_10, rf_0_11, rf_1_0, rf_1_1, rf_1_2, rf_2_0, rf_2_1, rf_2_2, rf_3_0, rf_3_1, rf_3_2, rf_4_0, rf_4_1, rf_4_2, rf_5_0, rf_5_1, rf_5_2, rf_6_0, rf_6_1, rf_7_0, rf_7_1, rf_8_0, rf_8_1, rf_8_5, rf_8_6, rf_8_7, rf_8_8, rf_8_9, rf_9_0, rf_10_0, rf_11_0, rf_12_0, rf_47_0, rf_47_1, rf_47_2, rf_47_3, rf_47_5, rf_47_6, rf_47_8, rf_47_10, rf_47_12, rf_47_14, rf_47_15, rf_47_16, rf_47_17, rf_47_18, rf_47_19, rf_47_20, rf_47_21, rf_47_22, rf_47_23, rf_47_24, rf_47_26, rf_47_27, rf_47_29, rf_17, rf_20, rf_21, rf_22, rf_23, rf_24, rl_17, rl_20, rl_21, rl_22, rl_23, rl_24, e11, hsh, hcond, c1, cl, d_isIn, b0]
    by_cases q : tb (ow T b) i = true
    · rw [if_pos q] at ih
      rw [if_neg (fun z => z q)]
      refine c4 1 (Or.inr rfl) ?_
      rw [t185_7]
      simp only [t185_0, t185_2, t185_3, t185_5, t185_6, t185_8, B185_0, B185_1, B185_2, B185_3, B185_4, B185_5, B185_6, B185_7, B185_8, Classical.not_not, Prod.mk.injEq, m_l, m_lp, m_lq, m_ps, m_ws, m_en, List.replicate, if_true, if_false, reduceIte, true_and, and_true, false_and, and_false, true_or, or_true, false_or, or_false, and_self, or_self, not_true_eq_false, not_false_eq_true, ne_eq, Nat.reduceLeDiff, Nat.reduceEqDiff, Nat.reduceAdd, Int.reduceLE, Int.reduceLT, Int.reduceEq, Int.reduceNe, Int.reduceAdd, Int.reduceNeg, Nat.reduceSub, Nat.succ_ne_zero, Nat.not_succ_le_zero, Nat.reduceMul, Int.reduceMul, Int.reduceSub, Int.reduceToNat, Nat.zero_le, Nat.reduceLT, r_0, r_1, r_2, r_3, r_4, r_5, r_6, r_7, r_9, r_10, r_11, r_12, r_13, r_14, r_15, r_16, r_17, r_18, r_19, r_20_0, r_21_0, r_20_1, r_21_1, r_20_2, r_21_2, r_20_3, r_21_3, r_20_4, r_21_4, r_20_5, r_21_5, r_22_0, r_22_1, r_23, r_24, r_25, r_26, r_27, r_28, r_29, r_30_0, r_30_1, r_30_2, r_31, r_31b, r_32, r_33, r_33b, r_33c, r_34, r_34b, r_35, r_45, r_46, r_47_0, r_47_1, r_40, r_50, r_51, r_41_0, r_41_1, r_42, r_43, r_44, r_36_0, r_37_0, r_38_0, r_48_0, r_36_1, r_37_1, r_38_1, r_48_1, r_36_2, r_37_2, r_38_2, r_48_2, r_36_3, r_37_3, r_36_4, r_37_4, r_36_5, r_37_5, r_39, r_8, al_13, al_14, al_15, al_16, al_18, al_19, al_25, al_26, al_27, al_28, al_29, al_30, al_31, al_32, al_33, al_34, al_35, al_36, al_37, al_38, al_39, al_40, al_41, al_42, al_43, al_44, al_45, al_46, al_48, al_49, al_50, al_51, al_52, al_53, al_54, al_55, al_56, al_57, al_58, al_59, al_60, al_61, al_62, al_63, al_64, al_65, al_66, al_67, al_68, al_69, al_70, rf_0_0, rf_0_1, rf_0_2, rf_0_3, rf_0_4, rf_0_5, rf_0_6, rf_0_7, rf_0_8, rf_0_10, rf_0_11, rf_1_0, rf_1_1, rf_1_2, rf_2_0, rf_2_1, rf_2_2, rf_3_0, rf_3_1, rf_3_2, rf_4_0, rf_4_1, rf_4_2, rf_5_0, rf_5_1, rf_5_2, rf_6_0, rf_6_1, rf_7_0, rf_7_1, rf_8_0, rf_8_1, rf_8_5, rf_8_6, rf_8_7, rf_8_8, rf_8_9, rf_9_0, rf_10_0, rf_11_0, rf_12_0, rf_47_0, rf_47_1, rf_47_2, rf_47_3, rf_47_5, rf_47_6, rf_47_8, rf_47_10, rf_47_12, rf_47_14, rf_47_15, rf_47_16, rf_47_17, rf_47_18, rf_47_19, rf_47_20, rf_47_21, rf_47_22, rf_47_23, rf_47_24, rf_47_26, rf_47_27, rf_47_29, rf_17, rf_20, rf_21, rf_22, rf_23, rf_24, rl_17, rl_20, rl_21, rl_22, rl_23, rl_24, mb, Int.one_mul]
      rw [m_l0 (by omega) (by omega)]
      exact ih _ _ _
    · rw [if_neg q] at ih
      rw [if_pos q]
      refine c4 0 (Or.inl rfl) ?_
      rw [t185_7]
      simp only [t185_0, t185_2, t185_3, t185_5, t185_6, t185_8, B185_0, B185_1, B185_2, B185_3, B185_4, B185_5, B185_6, B185_7, B185_8, Classical.not_not, Prod.mk.injEq, m_l, m_lp, m_lq, m_ps, m_ws, m_en, List.replicate, if_true, if_false, reduceIte, true_and, and_true, false_and, and_false, true_or, or_true, false_or, or_false, and_self, or_self, not_true_eq_false, not_false_eq_true, ne_eq, Nat.reduceLeDiff, Nat.reduceEqDiff, Nat.reduceAdd, Int.reduceLE, Int.reduceLT, Int.reduceEq, Int.reduceNe, Int.reduceAdd, Int.reduceNeg, Nat.reduceSub, Nat.succ_ne_zero, Nat.not_succ_le_zero, Nat.reduceMul, Int.reduceMul, Int.reduceSub, Int.reduceToNat, Nat.zero_le, Nat.reduceLT, r_0, r_1, r_2, r_3, r_4, r_5, r_6, r_7, r_9, r_10, r_11, r_12, r_13, r_14, r_15, r_16, r_17, r_18, r_19, r_20_0, r_21_0, r_20_1, r_21_1, r_20_2, r_21_2, r_20_3, r_21_3, r_20_4, r_21_4, r_20_5, r_21_5, r_22_0, r_22_1, r_23, r_24, r_25, r_26, r_27, r_28, r_29, r_30_0, r_30_1, r_30_2, r_31, r_31b, r_32, r_33, r_33b, r_33c, r_34, r_34b, r_35, r_45, r_46, r_47_0, r_47_1, r_40, r_50, r_51, r_41_0, r_41_1, r_42, r_43, r_44, r_36_0, r_37_0, r_38_0, r_48_0, r_36_1, r_37_1, r_38_1, r_48_1, r_36_2, r_37_2, r_38_2, r_48_2, r_36_3, r_37_3, r_36_4, r_37_4, r_36_5, r_37_5, r_39, r_8, al_13, al_14, al_15, al_16, al_18, al_19, al_25, al_26, al_27, al_28, al_29, al_30, al_31, al_32, al_33, al_34, al_35, al_36, al_37, al_38, al_39, al_40, al_41, al_42, al_43, al_44, al_45, al_46, al_48, al_49, al_50, al_51, al_52, al_53, al_54, al_55, al_56, al_57, al_58, al_59, al_60, al_61, al_62, al_63, al_64, al_65, al_66, al_67, al_68, al_69, al_70, rf_0_0, rf_0_1, rf_0_2, rf_0_3, rf_0_4, rf_0_5, rf_0_6, rf_0_7, rf_0_8, rf_0_10, rf_0_11, rf_1_0, rf_1_1, rf_1_2, rf_2_0, rf_2_1, rf_2_2, rf_3_0, rf_3_1, rf_3_2, rf_4_0, rf_4_1, rf_4_2, rf_5_0, rf_5_1, rf_5_2, rf_6_0, rf_6_1, rf_7_0, rf_7_1, rf_8_0, rf_8_1, rf_8_5, rf_8_6, rf_8_7, rf_8_8, rf_8_9, rf_9_0, rf_10_0, rf_11_0, rf_12_0, rf_47_0, rf_47_1, rf_47_2, rf_47_3, rf_47_5, rf_47_6, rf_47_8, rf_47_10, rf_47_12, rf_47_14, rf_47_15, rf_47_16, rf_47_17, rf_47_18, rf_47_19, rf_47_20, rf_47_21, rf_47_22, rf_47_23, rf_47_24, rf_47_26, rf_47_27, rf_47_29, rf_17, rf_20, rf_21, rf_22, rf_23, rf_24, rl_17, rl_20, rl_21, rl_22, rl_23, rl_24, mb, Int.zero_mul]
      rw [m_l0 (by omega) (by omega), Int.add_zero]
      exact ih _ _ _
theorem d_chanceOf {T : MMem} (μ : MMem) (hT : TW T) (hD : DT μ T) (h3 : T 0 3 = 0) (c i w : Int) (hc : 0 ≤ c ∧ c ≤ 16) : ∃ μ' : MMem, FX μ μ' ∧ ∀ Q : MVal → MMem → Prop, Cal 185 [(10, 47), (0, c), (0, i), (0, w)] μ Q = Q (1, frS (chN T i c (2 ^ ne T)).toNat (4 * ne T) w) μ' := by
  refine cal_ex (P := fun μ' => FX μ μ') rfl ?_
  show Rn 185 B185_0 [(10, 47), (0, c), (0, i), (0, w), (14, 0), (14, 0), (14, 0), (14, 0), (14, 0), (14, 0)] [] μ _
  simp only [t185_0, t185_2, t185_3, t185_5, t185_6, t185_8, B185_0, B185_1, B185_2, B185_3, B185_4, B185_5, B185_6, B185_7, B185_8, Classical.not_not, Prod.mk.injEq, m_l, m_lp, m_lq, m_ps, m_ws, m_en, List.replicate, if_true, if_false, reduceIte, true_and, and_true, false_and, and_false, true_or, or_true, false_or, or_false, and_self, or_self, not_true_eq_false, not_false_eq_true, ne_eq, Nat.reduceLeDiff, Nat.reduceEqDiff, Nat.reduceAdd, Int.reduceLE, Int.reduceLT, Int.reduceEq, Int.reduceNe, Int.reduceAdd, Int.reduceNeg, Nat.reduceSub, Nat.succ_ne_zero, Nat.not_succ_le_zero, Nat.reduceMul, Int.reduceMul, Int.reduceSub, Int.reduceToNat, Nat.zero_le, Nat.reduceLT, r_0, r_1, r_2, r_3, r_4, r_5, r_6, r_7, r_9, r_10, r_11, r_12, r_13, r_14, r_15, r_16, r_17, r_18, r_19, r_20_0, r_21_0, r_20_1, r_21_1, r_20_2, r_21_2, r_20_3, r_21_3, r_20_4, r_21_4, r_20_5, r_21_5, r_22_0, r_22_1, r_23, r_24, r_25, r_26, r_27, r_28, r_29, r_30_0, r_30_1, r_30_2, r_31, r_31b, r_32, r_33, r_33b, r_33c, r_34, r_34b, r_35, r_45, r_46, r_47_0, r_47_1, r_40, r_50, r_51, r_41_0, r_41_1, r_42, r_43, r_44, r_36_0, r_37_0, r_38_0, r_48_0, r_36_1, r_37_1, r_38_1, r_48_1, r_36_2, r_37_2, r_38_2, r_48_2, r_36_3, r_37_3, r_36_4, r_37_4, r_36_5, r_37_5, r_39, r_8, al_13, al_14, al_15, al_16, al_18, al_19, al_25, al_26, al_27, al_28, al_29, al_30, al_31, al_32, al_33, al_34, al_35, al_36, al_37, al_38, al_39, al_40, al_41, al_42, al_43, al_44, al_45, al_46, al_48, al_49, al_50, al_51, al_52, al_53, al_54, al_55, al_56, al_57, al_58, al_59, al_60, al_61, al_62, al_63, al_64, al_65, al_66, al_67, al_68, al_69, al_70, rf_0_0, rf_0_1, rf_0_2, rf_0_3, rf_0_4, rf_0_5, rf_0_6, rf_0_7, rf_0_8, rf_0_10, rf_0_11, rf_1_0, rf_1_1, rf_1_2, rf_2_0, rf_2_1, rf_2_2, rf_3_0, rf_3_1, rf_3_2, rf_4_0, rf_4_1, rf_4_2, rf_5_0, rf_5_1, rf_5_2, rf_6_0, rf_6_1, rf_7_0, rf_7_1, rf_8_0, rf_8_1, rf_8_5, rf_8_6, rf_8_7, rf_8_8, rf_8_9, rf_9_0, rf_10_0, rf_11_0, rf_12_0, rf_47_0, rf_47_1, rf_47_2, rf_47_3, rf_47_5, rf_47_6, rf_47_8, rf_47_10, rf_47_12, rf_47_14, rf_47_15, rf_47_16, rf_47_17, rf_47_18, rf_47_19, rf_47_20, rf_47_21, rf_47_22, rf_47_23, rf_47_24, rf_47_26, rf_47_27, rf_47_29, rf_17, rf_20, rf_21, rf_22, rf_23, rf_24, rl_17, rl_20, rl_21, rl_22, rl_23, rl_24]
  exact d_chn1 hT hD h3 hc (fun μ' f => ⟨rfl, f⟩) (2 ^ ne T) 0 μ _ _ _ (by omega) ⟨fun _ _ _ => rfl, fun _ _ => rfl⟩
