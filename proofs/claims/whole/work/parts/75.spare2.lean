def pcN (x : Int) : Nat → Int
  | 0 => 0
  | n + 1 => if tb x n then pcN x n + 1 else pcN x n
def plN (x i : Int) : Nat → Int
  | 0 => -1
  | n + 1 => if plN x i n = -1 then (if tb x n ∧ pcN x n = i then n else -1) else plN x i n
theorem pcN_in (x : Int) : ∀ n : Nat, 0 ≤ pcN x n ∧ pcN x n ≤ n
  | 0 => by simp [pcN]
  | n + 1 => by
    have := pcN_in x n
    rw [pcN]
    split <;> omega
theorem plN_up {x i : Int} {n : Nat} {v : Int} (h : plN x i n = v) (hx : v ≠ -1) : ∀ d : Nat, plN x i (n + d) = v
  | 0 => h
  | d + 1 => by
    have ih := plN_up h hx d
    rw [← Nat.add_assoc, plN, if_neg (by rw [ih]; exact hx)]
    exact ih
theorem c_placeL {μ : MMem} {x i : Int} {Q : MVal → MMem → Prop} (h : Q (0, plN x i 8) μ) : ∀ d b : Nat, b + d = 8 → plN x i b = -1 → At 64 1 [(0, x), (0, i), (0, pcN x b), (0, (b : Int))] [] μ Q := by
  intro d
  induction d with
  | zero =>
    intro b hb hp
    have e : b = 8 := by omega
    subst e
    rw [hp] at h
    rw [t64_1]
    simp only [t64_0, t64_2, t64_3, t64_4, B64_0, B64_1, B64_2, B64_3, B64_4, Classical.not_not, Prod.mk.injEq, m_l, m_lp, m_lq, m_ps, m_ws, m_en, List.replicate, if_true, if_false, reduceIte, true_and, and_true, false_and, and_false, true_or, or_true, false_or, or_false, and_self, or_self, not_true_eq_false, not_false_eq_true, ne_eq, Nat.reduceLeDiff, Nat.reduceEqDiff, Nat.reduceAdd, Int.reduceLE, Int.reduceLT, Int.reduceEq, Int.reduceNe, Int.reduceAdd, Int.reduceNeg, Nat.reduceSub, Nat.succ_ne_zero, Nat.not_succ_le_zero, Nat.reduceMul, Int.reduceMul, Int.reduceSub, Int.reduceToNat, Nat.zero_le, Nat.reduceLT, r_0, r_1, r_2, r_3, r_4, r_5, r_6, r_7, r_9, r_10, r_11, r_12, r_13, r_14, r_15, r_16, r_17, r_18, r_19, r_20_0, r_21_0, r_20_1, r_21_1, r_20_2, r_21_2, r_20_3, r_21_3, r_20_4, r_21_4, r_20_5, r_21_5, r_22_0, r_22_1, r_23, r_24, r_25, r_26, r_27, r_28, r_29, r_30_0, r_30_1, r_30_2, r_31, r_31b, r_32, r_33, r_33b, r_33c, r_34, r_34b, r_35, r_45, r_46, r_47_0, r_47_1, r_40, r_50, r_51, r_41_0, r_41_1, r_42, r_43, r_44, r_36_0, r_37_0, r_38_0, r_48_0, r_36_1, r_37_1, r_38_1, r_48_1, r_36_2, r_37_2, r_38_2, r_48_2, r_36_3, r_37_3, r_36_4, r_37_4, r_36_5, r_37_5, r_39, r_8, al_13, al_14, al_15, al_16, al_18, al_19, al_25, al_26, al_27, al_28, al_29, al_30, al_31, al_32, al_33, al_34, al_35, al_36, al_37, al_38, al_39, al_40, al_41, al_42, al_43, al_44, al_45, al_46, al_48, al_49, al_50, al_51, al_52, al_53, al_54, al_55, al_56, al_57, al_58, al_59, al_60, al_61, al_62, al_63, al_64, al_65, al_66, al_67, al_68, al_69, al_70, rf_0_0, rf_0_1, rf_0_2, rf_0_3, rf_0_4, rf_0_5, rf_0_6, rf_0_7, rf_0_8, rf_0_10, rf_0_11, rf_1_0, rf_1_1, rf_1_2, rf_2_0, rf_2_1, rf_2_2, rf_3_0, rf_3_1, rf_3_2, rf_4_0, rf_4_1, rf_4_2, rf_5_0, rf_5_1, rf_5_2, rf_6_0, rf_6_1, rf_7_0, rf_7_1, rf_8_0, rf_8_1, rf_8_5, rf_8_6, rf_8_7, rf_8_8, rf_8_9, rf_9_0, rf_10_0, rf_11_0, rf_12_0, rf_47_0, rf_47_1, rf_47_2, rf_47_3, rf_47_5, rf_47_6, rf_47_8, rf_47_10, rf_47_12, rf_47_14, rf_47_15, rf_47_16, rf_47_17, rf_47_18, rf_47_19, rf_47_20, rf_47_21, rf_47_22, rf_47_23, rf_47_24, rf_47_26, rf_47_27, rf_47_29, rf_17, rf_20, rf_21, rf_22, rf_23, rf_24, rl_17, rl_20, rl_21, rl_22, rl_23, rl_24]
    rw [if_pos (by omega)]
    exact h
  | succ d ih =>
    intro b hb hp
    have ih := ih (b + 1) (by omega)
    have hpc := pcN_in x b
    rw [t64_1]
    simp only [t64_0, t64_2, t64_3, t64_4, B64_0, B64_1, B64_2, B64_3, B64_4, Classical.not_not, Prod.mk.injEq, m_l, m_lp, m_lq, m_ps, m_ws, m_en, List.replicate, if_true, if_false, reduceIte, true_and, and_true, false_and, and_false, true_or, or_true, false_or, or_false, and_self, or_self, not_true_eq_false, not_false_eq_true, ne_eq, Nat.reduceLeDiff, Nat.reduceEqDiff, Nat.reduceAdd, Int.reduceLE, Int.reduceLT, Int.reduceEq, Int.reduceNe, Int.reduceAdd, Int.reduceNeg, Nat.reduceSub, Nat.succ_ne_zero, Nat.not_succ_le_zero, Nat.reduceMul, Int.reduceMul, Int.reduceSub, Int.reduceToNat, Nat.zero_le, Nat.reduceLT, r_0, r_1, r_2, r_3, r_4, r_5, r_6, r_7, r_9, r_10, r_11, r_12, r_13, r_14, r_15, r_16, r_17, r_18, r_19, r_20_0, r_21_0, r_20_1, r_21_1, r_20_2, r_21_2, r_20_3, r_21_3, r_20_4, r_21_4, r_20_5, r_21_5, r_22_0, r_22_1, r_23, r_24, r_25, r_26, r_27, r_28, r_29, r_30_0, r_30_1, r_30_2, r_31, r_31b, r_32, r_33, r_33b, r_33c, r_34, r_34b, r_35, r_45, r_46, r_47_0, r_47_1, r_40, r_50, r_51, r_41_0, r_41_1, r_42, r_43, r_44, r_36_0, r_37_0, r_38_0, r_48_0, r_36_1, r_37_1, r_38_1, r_48_1, r_36_2, r_37_2, r_38_2, r_48_2, r_36_3, r_37_3, r_36_4, r_37_4, r_36_5, r_37_5, r_39, r_8, al_13, al_14, al_15, al_16, al_18, al_19, al_25, al_26, al_27, al_28, al_29, al_30, al_31, al_32, al_33, al_34, al_35, al_36, al_37, al_38, al_39, al_40, al_41, al_42, al_43, al_44, al_45, al_46, al_48, al_49, al_50, al_51, al_52, al_53, al_54, al_55, al_56, al_57, al_58, al_59, al_60, al_61, al_62, al_63, al_64, al_65, al_66, al_67, al_68, al_69, al_70, rf_0_0, rf_0_1, rf_0_2, rf_0_3, rf_0_4, rf_0_5, rf_0_6, rf_0_7, rf_0_8, rf_0_10, rf_0_11, rf_1_0, rf_1_1, rf_1_2, rf_2_0, rf_2_1, rf_2_2, rf_3_0, rf_3_1, rf_3_2, rf_4_0, rf_4_1, rf_4_2, rf_5_0, rf_5_1, rf_5_2, rf_6_0, rf_6_1, rf_7_0, rf_7_1, rf_8_0, rf_8_1, rf_8_5, rf_8_6, rf_8_7, rf_8_8, rf_8_9, rf_9_0, rf_10_0, rf_11_0, rf_12_0, rf_47_0, rf_47_1, rf_47_2, rf_47_3, rf_47_5, rf_47_6, rf_47_8, rf_47_10, rf_47_12, rf_47_14, rf_47_15, rf_47_16, rf_47_17, rf_47_18, rf_47_19, rf_47_20, rf_47_21, rf_47_22, rf_47_23, rf_47_24, rf_47_26, rf_47_27, rf_47_29, rf_17, rf_20, rf_21, rf_22, rf_23, rf_24, rl_17, rl_20, rl_21, rl_22, rl_23, rl_24, c_isSet, b0]
    rw [if_neg (by omega), m_i0 (x := (b : Int)) (by omega) (by omega), m_i0 (x := pcN x b) (by omega) (by omega)]
    rw [plN, pcN, if_pos hp] at ih
    push_cast at ih
    have e2 : (tb x b ∧ pcN x b = i) → plN x i 8 = b := by
      intro q
      have e1 : plN x i (b + 1) = b := by rw [plN, if_pos hp, if_pos q]
      have := plN_up e1 (by omega) d
      rw [show b + 1 + d = 8 by omega] at this
      exact this
    grind
theorem c_place (x i : Int) (μ : MMem) (Q : MVal → MMem → Prop) : Cal 64 [(0, x), (0, i)] μ Q = Q (0, plN x i 8) μ := by
  refine cal_eq rfl ?_ Q
  show Rn 64 B64_0 [(0, x), (0, i), (14, 0), (14, 0)] [] μ _
  simp only [r_0, r_1, r_2, r_3, r_4, r_5, r_6, r_7, r_9, r_10, r_11, r_12, r_13, r_14, r_15, r_16, r_17, r_18, r_19, r_20_0, r_21_0, r_20_1, r_21_1, r_20_2, r_21_2, r_20_3, r_21_3, r_20_4, r_21_4, r_20_5, r_21_5, r_22_0, r_22_1, r_23, r_24, r_25, r_26, r_27, r_28, r_29, r_30_0, r_30_1, r_30_2, r_31, r_31b, r_32, r_33, r_33b, r_33c, r_34, r_34b, r_35, r_45, r_46, r_47_0, r_47_1, r_40, r_50, r_51, r_41_0, r_41_1, r_42, r_43, r_44, r_36_0, r_37_0, r_38_0, r_48_0, r_36_1, r_37_1, r_38_1, r_48_1, r_36_2, r_37_2, r_38_2, r_48_2, r_36_3, r_37_3, r_36_4, r_37_4, r_36_5, r_37_5, r_39, r_8, al_13, al_14, al_15, al_16, al_18, al_19, al_25, al_26, al_27, al_28, al_29, al_30, al_31, al_32, al_33, al_34, al_35, al_36, al_37, al_38, al_39, al_40, al_41, al_42, al_43, al_44, al_45, al_46, al_48, al_49, al_50, al_51, al_52, al_53, al_54, al_55, al_56, al_57, al_58, al_59, al_60, al_61, al_62, al_63, al_64, al_65, al_66, al_67, al_68, al_69, al_70, rf_0_0, rf_0_1, rf_0_2, rf_0_3, rf_0_4, rf_0_5, rf_0_6, rf_0_7, rf_0_8, rf_0_10, rf_0_11, rf_1_0, rf_1_1, rf_1_2, rf_2_0, rf_2_1, rf_2_2, rf_3_0, rf_3_1, rf_3_2, rf_4_0, rf_4_1, rf_4_2, rf_5_0, rf_5_1, rf_5_2, rf_6_0, rf_6_1, rf_7_0, rf_7_1, rf_8_0, rf_8_1, rf_8_5, rf_8_6, rf_8_7, rf_8_8, rf_8_9, rf_9_0, rf_10_0, rf_11_0, rf_12_0, rf_47_0, rf_47_1, rf_47_2, rf_47_3, rf_47_5, rf_47_6, rf_47_8, rf_47_10, rf_47_12, rf_47_14, rf_47_15, rf_47_16, rf_47_17, rf_47_18, rf_47_19, rf_47_20, rf_47_21, rf_47_22, rf_47_23, rf_47_24, rf_47_26, rf_47_27, rf_47_29, rf_17, rf_20, rf_21, rf_22, rf_23, rf_24, rl_17, rl_20, rl_21, rl_22, rl_23, rl_24, Classical.not_not, Prod.mk.injEq, m_l, m_lp, m_lq, m_ps, m_ws, m_en, List.replicate, if_true, if_false, reduceIte, true_and, and_true, false_and, and_false, true_or, or_true, false_or, or_false, and_self, or_self, not_true_eq_false, not_false_eq_true, ne_eq, Nat.reduceLeDiff, Nat.reduceEqDiff, Nat.reduceAdd, Int.reduceLE, Int.reduceLT, Int.reduceEq, Int.reduceNe, Int.reduceAdd, Int.reduceNeg, Nat.reduceSub, Nat.succ_ne_zero, Nat.not_succ_le_zero, Nat.reduceMul, Int.reduceMul, Int.reduceSub, Int.reduceToNat, Nat.zero_le, Nat.reduceLT, t64_0, t64_2, t64_3, t64_4, B64_0, B64_1, B64_2, B64_3, B64_4]
  exact c_placeL ⟨rfl, rfl⟩ 8 0 (by omega) rfl
/-- how many bits are set, as the library counts -/
def bc1 (x : Int) : Int := m_i 1 x (m_i 3 (m_i 7 x 1) 1431655765)
def bc2 (x : Int) : Int := m_i 0 (m_i 3 x 858993459) (m_i 3 (m_i 7 x 2) 858993459)
def bc3 (x : Int) : Int := m_i 3 (m_i 0 x (m_i 7 x 4)) 252645135
def bc4 (x : Int) : Int := m_i 0 x (m_i 7 x 8)
def bc5 (x : Int) : Int := m_i 0 x (m_i 7 x 16)
def bcS (x : Int) : Int := m_i 3 (bc5 (bc4 (bc3 (bc2 (bc1 x))))) 63
theorem j_bitCount (x : Int) (μ : MMem) (Q : MVal → MMem → Prop) : Cal 0 [(0, x)] μ Q = Q (0, bcS x) μ := by
  refine cal_eq rfl ?_ Q
  show Rn 0 B0_0 [(0, x)] [] μ _
  simp only [r_0, r_1, r_2, r_3, r_4, r_5, r_6, r_7, r_9, r_10, r_11, r_12, r_13, r_14, r_15, r_16, r_17, r_18, r_19, r_20_0, r_21_0, r_20_1, r_21_1, r_20_2, r_21_2, r_20_3, r_21_3, r_20_4, r_21_4, r_20_5, r_21_5, r_22_0, r_22_1, r_23, r_24, r_25, r_26, r_27, r_28, r_29, r_30_0, r_30_1, r_30_2, r_31, r_31b, r_32, r_33, r_33b, r_33c, r_34, r_34b, r_35, r_45, r_46, r_47_0, r_47_1, r_40, r_50, r_51, r_41_0, r_41_1, r_42, r_43, r_44, r_36_0, r_37_0, r_38_0, r_48_0, r_36_1, r_37_1, r_38_1, r_48_1, r_36_2, r_37_2, r_38_2, r_48_2, r_36_3, r_37_3, r_36_4, r_37_4, r_36_5, r_37_5, r_39, r_8, al_13, al_14, al_15, al_16, al_18, al_19, al_25, al_26, al_27, al_28, al_29, al_30, al_31, al_32, al_33, al_34, al_35, al_36, al_37, al_38, al_39, al_40, al_41, al_42, al_43, al_44, al_45, al_46, al_48, al_49, al_50, al_51, al_52, al_53, al_54, al_55, al_56, al_57, al_58, al_59, al_60, al_61, al_62, al_63, al_64, al_65, al_66, al_67, al_68, al_69, al_70, rf_0_0, rf_0_1, rf_0_2, rf_0_3, rf_0_4, rf_0_5, rf_0_6, rf_0_7, rf_0_8, rf_0_10, rf_0_11, rf_1_0, rf_1_1, rf_1_2, rf_2_0, rf_2_1, rf_2_2, rf_3_0, rf_3_1, rf_3_2, rf_4_0, rf_4_1, rf_4_2, rf_5_0, rf_5_1, rf_5_2, rf_6_0, rf_6_1, rf_7_0, rf_7_1, rf_8_0, rf_8_1, rf_8_5, rf_8_6, rf_8_7, rf_8_8, rf_8_9, rf_9_0, rf_10_0, rf_11_0, rf_12_0, rf_47_0, rf_47_1, rf_47_2, rf_47_3, rf_47_5, rf_47_6, rf_47_8, rf_47_10, rf_47_12, rf_47_14, rf_47_15, rf_47_16, rf_47_17, rf_47_18, rf_47_19, rf_47_20, rf_47_21, rf_47_22, rf_47_23, rf_47_24, rf_47_26, rf_47_27, rf_47_29, rf_17, rf_20, rf_21, rf_22, rf_23, rf_24, rl_17, rl_20, rl_21, rl_22, rl_23, rl_24, Classical.not_not, Prod.mk.injEq, m_l, m_lp, m_lq, m_ps, m_ws, m_en, List.replicate, if_true, if_false, reduceIte, true_and, and_true, false_and, and_false, true_or, or_true, false_or, or_false, and_self, or_self, not_true_eq_false, not_false_eq_true, ne_eq, Nat.reduceLeDiff, Nat.reduceEqDiff, Nat.reduceAdd, Int.reduceLE, Int.reduceLT, Int.reduceEq, Int.reduceNe, Int.reduceAdd, Int.reduceNeg, Nat.reduceSub, Nat.succ_ne_zero, Nat.not_succ_le_zero, Nat.reduceMul, Int.reduceMul, Int.reduceSub, Int.reduceToNat, Nat.zero_le, Nat.reduceLT, t0_0, B0_0]
  rfl
theorem pair_1 : ∀ a : Fin 8, bcS (sh1 (a.val : Int)) = 1 ∧ plN (sh1 (a.val : Int)) 0 8 = a.val ∧ plN (sh1 (a.val : Int)) 1 8 = -1 ∧ sh1 (a.val : Int) ≠ -1 := by decide +kernel
theorem pair_2 : ∀ a b : Fin 8, a < b → bcS (m_i 4 (sh1 (a.val : Int)) (sh1 (b.val : Int))) = 2 ∧ plN (m_i 4 (sh1 (a.val : Int)) (sh1 (b.val : Int))) 0 8 = a.val ∧ plN (m_i 4 (sh1 (a.val : Int)) (sh1 (b.val : Int))) 1 8 = b.val ∧ m_i 4 (sh1 (a.val : Int)) (sh1 (b.val : Int)) ≠ -1 := by decide +kernel
theorem pair_0 : bcS 0 = 0 ∧ plN 0 0 8 = -1 ∧ plN 0 1 8 = -1 := by decide +kernel
theorem fw_sp {T : MMem} (hT : TW T) {i : Int} (hi : -1 ≤ i ∧ i ≤ 1) : spS T i = if fwS T = -1 then -1 else if i = -1 then bcS (fwS T) else plN (fwS T) i 8 := by
  have h8 := hT.2.2.1
  have hn : (ne T : Int) = T 0 2 := by unfold ne; omega
  have h1 := s1N_in T (ne T)
  have h3 := s3N_in T (ne T)
  have h2 := s2N_in T (s3N T (ne T)) (ne T)
  have hi3 : i = -1 ∨ i = 0 ∨ i = 1 := by omega
  unfold spS fwS
  by_cases q0 : ow T 0 = 0
  · have := pair_0
    rcases hi3 with rfl | rfl | rfl <;> simp [q0, this]
  by_cases q1 : s1N T (ne T) = -1
  · by_cases q3 : s3N T (ne T) = -1
    · rcases hi3 with rfl | rfl | rfl <;> simp [q0, q1, q3]
    · have hp := pair_2 ⟨(s3N T (ne T)).toNat, by omega⟩ ⟨(s2N T (s3N T (ne T)) (ne T)).toNat, by omega⟩ (by show (s3N T (ne T)).toNat < (s2N T (s3N T (ne T)) (ne T)).toNat; omega)
      simp only [show (((s3N T (ne T)).toNat : Nat) : Int) = s3N T (ne T) by omega, show (((s2N T (s3N T (ne T)) (ne T)).toNat : Nat) : Int) = s2N T (s3N T (ne T)) (ne T) by omega] at hp
      rcases hi3 with rfl | rfl | rfl <;> simp [q0, q1, q3, hp]
  · have hp := pair_1 ⟨(s1N T (ne T)).toNat, by omega⟩
    simp only [show (((s1N T (ne T)).toNat : Nat) : Int) = s1N T (ne T) by omega] at hp
    rcases hi3 with rfl | rfl | rfl <;> simp [q0, q1, hp]
theorem c_spare {T : MMem} (μ : MMem) (hI : CI μ T) (hM : MO μ T) (i : Int) : ∃ μ' : MMem, (FQ μ μ' ∧ MO μ' T) ∧ ∀ Q : MVal → MMem → Prop, Cal 60 [(9, 0), (0, i)] μ Q = Q (0, if -1 ≤ i ∧ i ≤ 1 then spS T i else -2) μ' := by
  refine cal_ex (P := fun μ' => FQ μ μ' ∧ MO μ' T) rfl ?_
  show Rn 60 B60_0 [(9, 0), (0, i), (14, 0)] [] μ _
  obtain ⟨μ1, ⟨f1, m1⟩, c1⟩ := c_few μ hI hM
  have hrf := FQ.rf μ
  have hs := fw_sp hI.1 (i := i)
  simp only [t60_0, B60_0, t60_1, B60_1, t60_2, B60_2, t60_3, B60_3, t60_4, B60_4, t60_5, B60_5, Classical.not_not, Prod.mk.injEq, m_l, m_lp, m_lq, m_ps, m_ws, m_en, List.replicate, if_true, if_false, reduceIte, true_and, and_true, false_and, and_false, true_or, or_true, false_or, or_false, and_self, or_self, not_true_eq_false, not_false_eq_true, ne_eq, Nat.reduceLeDiff, Nat.reduceEqDiff, Nat.reduceAdd, Int.reduceLE, Int.reduceLT, Int.reduceEq, Int.reduceNe, Int.reduceAdd, Int.reduceNeg, Nat.reduceSub, Nat.succ_ne_zero, Nat.not_succ_le_zero, Nat.reduceMul, Int.reduceMul, Int.reduceSub, Int.reduceToNat, Nat.zero_le, Nat.reduceLT, r_0, r_1, r_2, r_3, r_4, r_5, r_6, r_7, r_9, r_10, r_11, r_12, r_13, r_14, r_15, r_16, r_17, r_18, r_19, r_20_0, r_21_0, r_20_1, r_21_1, r_20_2, r_21_2, r_20_3, r_21_3, r_20_4, r_21_4, r_20_5, r_21_5, r_22_0, r_22_1, r_23, r_24, r_25, r_26, r_27, r_28, r_29, r_30_0, r_30_1, r_30_2, r_31, r_31b, r_32, r_33, r_33b, r_33c, r_34, r_34b, r_35, r_45, r_46, r_47_0, r_47_1, r_40, r_50, r_51, r_41_0, r_41_1, r_42, r_43, r_44, r_36_0, r_37_0, r_38_0, r_48_0, r_36_1, r_37_1, r_38_1, r_48_1, r_36_2, r_37_2, r_38_2, r_48_2, r_36_3, r_37_3, r_36_4, r_37_4, r_36_5, r_37_5, r_39, r_8, al_13, al_14, al_15, al_16, al_18, al_19, al_25, al_26, al_27, al_28, al_29, al_30, al_31, al_32, al_33, al_34, al_35, al_36, al_37, al_38, al_39, al_40, al_41, al_42, al_43, al_44, al_45, al_46, al_48, al_49, al_50, al_51, al_52, al_53, al_54, al_55, al_56, al_57, al_58, al_59, al_60, al_61, al_62, al_63, al_64, al_65, al_66, al_67, al_68, al_69, al_70, rf_0_0, rf_0_1, rf_0_2, rf_0_3, rf_0_4, rf_0_5, rf_0_6, rf_0_7, rf_0_8, rf_0_10, rf_0_11, rf_1_0, rf_1_1, rf_1_2, rf_2_0, rf_2_1, rf_2_2, rf_3_0, rf_3_1, rf_3_2, rf_4_0, rf_4_1, rf_4_2, rf_5_0, rf_5_1, rf_5_2, rf_6_0, rf_6_1, rf_7_0, rf_7_1, rf_8_0, rf_8_1, rf_8_5, rf_8_6, rf_8_7, rf_8_8, rf_8_9, rf_9_0, rf_10_0, rf_11_0, rf_12_0, rf_47_0, rf_47_1, rf_47_2, rf_47_3, rf_47_5, rf_47_6, rf_47_8, rf_47_10, rf_47_12, rf_47_14, rf_47_15, rf_47_16, rf_47_17, rf_47_18, rf_47_19, rf_47_20, rf_47_21, rf_47_22, rf_47_23, rf_47_24, rf_47_26, rf_47_27, rf_47_29, rf_17, rf_20, rf_21, rf_22, rf_23, rf_24, rl_17, rl_20, rl_21, rl_22, rl_23, rl_24, c1, j_bitCount, c_place]
  grind
