theorem m_i7_in (x : Int) : 0 ≤ m_i 7 x 16 ∧ m_i 7 x 16 < 65536 := by
  have e0 : m_i 7 x 16 = ((Int32.ofInt x).toUInt32 >>> ((Int32.ofInt 16).toUInt32 &&& Int32.toUInt32 31)).toInt32.toInt := rfl
  rw [e0]
  clear e0
  generalize (Int32.ofInt x).toUInt32 = u
  have e : ((Int32.ofInt 16).toUInt32 &&& Int32.toUInt32 31) = 16 := by decide +kernel
  rw [e]
  have h1 : (u >>> 16).toNat = u.toNat / 65536 := by
    rw [UInt32.toNat_shiftRight, Nat.shiftRight_eq_div_pow]
    rfl
  have h2 := u.toNat_lt
  have h3 : (u >>> 16).toInt32.toInt = (u >>> 16).toNat := by
    show (u >>> 16).toBitVec.toInt = ((u >>> 16).toBitVec.toNat : Int)
    have : (u >>> 16).toBitVec.toNat = u.toNat / 65536 := h1
    rw [BitVec.toInt_eq_toNat_of_lt (by omega)]
  rw [h3, h1]
  omega
def sd (s : Int) : Int := m_i 0 (m_i 2 1103515245 s) 12345
def sdN (s : Int) : Nat → Int
  | 0 => s
  | n + 1 => sd (sdN s n)
def lotN (s : Int) (k : Nat) (m : Int) : Int := m_id 1 (m_i 7 (sdN s k) 16) m
theorem lotN_in (s : Int) (k : Nat) {m : Int} (h0 : 0 < m) (h1 : m < 100) : 0 ≤ lotN s k m ∧ lotN s k m < m := by
  have h := m_i7_in (sdN s k)
  unfold lotN
  rw [m_id1 h.1 (by omega) h0 (by omega)]
  exact ⟨Int.emod_nonneg _ (by omega), Int.emod_lt_of_pos _ h0⟩
/-- T with other events, n of them, drawn from a seed -/
def dwT (T : MMem) (s : Int) (n : Int) : MMem := fun a b => if a = 7 then lotN s (3 * b.toNat + 1) 3 else if a = 8 then lotN s (3 * b.toNat + 2) 24 else if a = 9 then lotN s (3 * b.toNat + 3) 6 else if a = 0 ∧ b = 2 then n else T a b
theorem dw_ne (T : MMem) (s n : Int) {a : Int} (h0 : a ≠ 0) (h7 : a < 7 ∨ 9 < a) : dwT T s n a = T a := by
  funext b
  unfold dwT
  rw [if_neg (by omega), if_neg (by omega), if_neg (by omega), if_neg (by omega)]
theorem dw_0 (T : MMem) (s n : Int) {b : Int} (h : b ≠ 2) : dwT T s n 0 b = T 0 b := by
  unfold dwT
  rw [if_neg (by omega), if_neg (by omega), if_neg (by omega), if_neg (by omega)]
theorem dw_2 (T : MMem) (s n : Int) : dwT T s n 0 2 = n := rfl
theorem TW.dw {T : MMem} (h : TW T) (s : Int) {n : Int} (hn : 0 ≤ n ∧ n ≤ 8) : TW (dwT T s n) := by
  obtain ⟨h1, h2, h3, h4, h5, h6⟩ := h
  unfold TW
  rw [dw_0 T s n (show (0 : Int) ≠ 2 by decide), dw_0 T s n (show (1 : Int) ≠ 2 by decide), dw_2, dw_ne T s n (show (1 : Int) ≠ 0 by decide) (by decide), dw_ne T s n (show (2 : Int) ≠ 0 by decide) (by decide), dw_ne T s n (show (3 : Int) ≠ 0 by decide) (by decide), dw_ne T s n (show (4 : Int) ≠ 0 by decide) (by decide), dw_ne T s n (show (5 : Int) ≠ 0 by decide) (by decide), dw_ne T s n (show (6 : Int) ≠ 0 by decide) (by decide)]
  refine ⟨h1, h2, hn, h4, h5, fun j j0 j1 => ?_⟩
  have a1 := lotN_in s (3 * j.toNat + 1) (m := 3) (by decide) (by decide)
  have a2 := lotN_in s (3 * j.toNat + 2) (m := 24) (by decide) (by decide)
  have a3 := lotN_in s (3 * j.toNat + 3) (m := 6) (by decide) (by decide)
  have b1 : dwT T s n 7 j = lotN s (3 * j.toNat + 1) 3 := rfl
  have b2 : dwT T s n 8 j = lotN s (3 * j.toNat + 2) 24 := rfl
  have b3 : dwT T s n 9 j = lotN s (3 * j.toNat + 3) 6 := rfl
  rw [b1, b2, b3]
  omega
theorem CT.dw {μ T : MMem} (h : CT μ T) (s n : Int) : CT μ (dwT T s n) := by
  unfold CT at *
  rw [dw_0 T s n (show (0 : Int) ≠ 2 by decide), dw_0 T s n (show (1 : Int) ≠ 2 by decide), dw_ne T s n (show (1 : Int) ≠ 0 by decide) (by decide), dw_ne T s n (show (2 : Int) ≠ 0 by decide) (by decide), dw_ne T s n (show (3 : Int) ≠ 0 by decide) (by decide), dw_ne T s n (show (4 : Int) ≠ 0 by decide) (by decide), dw_ne T s n (show (5 : Int) ≠ 0 by decide) (by decide), dw_ne T s n (show (6 : Int) ≠ 0 by decide) (by decide)]
  exact h
theorem c_add4 (a b c : Int) (μ : MMem) (h0 : 0 ≤ μ 4 3) (h8 : μ 4 3 < 8) (Q : MVal → MMem → Prop) : Cal 20 [(7, 4), (0, a), (0, b), (0, c)] μ Q = Q (14, 0) (m_w (m_w (m_w (m_w μ 34 (μ 4 3) a) 35 (μ 4 3) b) 36 (μ 4 3) c) 4 3 (μ 4 3 + 1)) := by
  refine cal_eq rfl ?_ Q
  show Rn 20 B20_0 [(7, 4), (0, a), (0, b), (0, c)] [] μ _
  simp only [r_0, r_1, r_2, r_3, r_4, r_5, r_6, r_7, r_9, r_10, r_11, r_12, r_13, r_14, r_15, r_16, r_17, r_18, r_19, r_20_0, r_21_0, r_20_1, r_21_1, r_20_2, r_21_2, r_20_3, r_21_3, r_20_4, r_21_4, r_20_5, r_21_5, r_22_0, r_22_1, r_23, r_24, r_25, r_26, r_27, r_28, r_29, r_30_0, r_30_1, r_30_2, r_31, r_31b, r_32, r_33, r_33b, r_33c, r_34, r_34b, r_35, r_45, r_46, r_47_0, r_47_1, r_40, r_50, r_51, r_41_0, r_41_1, r_42, r_43, r_44, r_36_0, r_37_0, r_38_0, r_48_0, r_36_1, r_37_1, r_38_1, r_48_1, r_36_2, r_37_2, r_38_2, r_48_2, r_36_3, r_37_3, r_36_4, r_37_4, r_36_5, r_37_5, r_39, r_8, al_13, al_14, al_15, al_16, al_18, al_19, al_25, al_26, al_27, al_28, al_29, al_30, al_31, al_32, al_33, al_34, al_35, al_36, al_37, al_38, al_39, al_40, al_41, al_42, al_43, al_44, al_45, al_46, al_48, al_49, al_50, al_51, al_52, al_53, al_54, al_55, al_56, al_57, al_58, al_59, al_60, al_61, al_62, al_63, al_64, al_65, al_66, al_67, al_68, al_69, al_70, rf_0_0, rf_0_1, rf_0_2, rf_0_3, rf_0_4, rf_0_5, rf_0_6, rf_0_7, rf_0_8, rf_0_10, rf_0_11, rf_1_0, rf_1_1, rf_1_2, rf_2_0, rf_2_1, rf_2_2, rf_3_0, rf_3_1, rf_3_2, rf_4_0, rf_4_1, rf_4_2, rf_5_0, rf_5_1, rf_5_2, rf_6_0, rf_6_1, rf_7_0, rf_7_1, rf_8_0, rf_8_1, rf_8_5, rf_8_6, rf_8_7, rf_8_8, rf_8_9, rf_9_0, rf_10_0, rf_11_0, rf_12_0, rf_47_0, rf_47_1, rf_47_2, rf_47_3, rf_47_5, rf_47_6, rf_47_8, rf_47_10, rf_47_12, rf_47_14, rf_47_15, rf_47_16, rf_47_17, rf_47_18, rf_47_19, rf_47_20, rf_47_21, rf_47_22, rf_47_23, rf_47_24, rf_47_26, rf_47_27, rf_47_29, rf_17, rf_20, rf_21, rf_22, rf_23, rf_24, rl_17, rl_20, rl_21, rl_22, rl_23, rl_24, Classical.not_not, Prod.mk.injEq, m_l, m_lp, m_lq, m_ps, m_ws, m_en, List.replicate, if_true, if_false, reduceIte, true_and, and_true, false_and, and_false, true_or, or_true, false_or, or_false, and_self, or_self, not_true_eq_false, not_false_eq_true, ne_eq, Nat.reduceLeDiff, Nat.reduceEqDiff, Nat.reduceAdd, Int.reduceLE, Int.reduceLT, Int.reduceEq, Int.reduceNe, Int.reduceAdd, Int.reduceNeg, Nat.reduceSub, Nat.succ_ne_zero, Nat.not_succ_le_zero, Nat.reduceMul, Int.reduceMul, Int.reduceSub, Int.reduceToNat, Nat.zero_le, Nat.reduceLT, t20_0, t20_1, B20_0, B20_1, m_w]
  grind [m_i0]
theorem c_add5 (a b c : Int) (μ : MMem) (h0 : 0 ≤ μ 5 3) (h8 : μ 5 3 < 8) (Q : MVal → MMem → Prop) : Cal 20 [(7, 5), (0, a), (0, b), (0, c)] μ Q = Q (14, 0) (m_w (m_w (m_w (m_w μ 37 (μ 5 3) a) 38 (μ 5 3) b) 39 (μ 5 3) c) 5 3 (μ 5 3 + 1)) := by
  refine cal_eq rfl ?_ Q
  show Rn 20 B20_0 [(7, 5), (0, a), (0, b), (0, c)] [] μ _
  simp only [r_0, r_1, r_2, r_3, r_4, r_5, r_6, r_7, r_9, r_10, r_11, r_12, r_13, r_14, r_15, r_16, r_17, r_18, r_19, r_20_0, r_21_0, r_20_1, r_21_1, r_20_2, r_21_2, r_20_3, r_21_3, r_20_4, r_21_4, r_20_5, r_21_5, r_22_0, r_22_1, r_23, r_24, r_25, r_26, r_27, r_28, r_29, r_30_0, r_30_1, r_30_2, r_31, r_31b, r_32, r_33, r_33b, r_33c, r_34, r_34b, r_35, r_45, r_46, r_47_0, r_47_1, r_40, r_50, r_51, r_41_0, r_41_1, r_42, r_43, r_44, r_36_0, r_37_0, r_38_0, r_48_0, r_36_1, r_37_1, r_38_1, r_48_1, r_36_2, r_37_2, r_38_2, r_48_2, r_36_3, r_37_3, r_36_4, r_37_4, r_36_5, r_37_5, r_39, r_8, al_13, al_14, al_15, al_16, al_18, al_19, al_25, al_26, al_27, al_28, al_29, al_30, al_31, al_32, al_33, al_34, al_35, al_36, al_37, al_38, al_39, al_40, al_41, al_42, al_43, al_44, al_45, al_46, al_48, al_49, al_50, al_51, al_52, al_53, al_54, al_55, al_56, al_57, al_58, al_59, al_60, al_61, al_62, al_63, al_64, al_65, al_66, al_67, al_68, al_69, al_70, rf_0_0, rf_0_1, rf_0_2, rf_0_3, rf_0_4, rf_0_5, rf_0_6, rf_0_7, rf_0_8, rf_0_10, rf_0_11, rf_1_0, rf_1_1, rf_1_2, rf_2_0, rf_2_1, rf_2_2, rf_3_0, rf_3_1, rf_3_2, rf_4_0, rf_4_1, rf_4_2, rf_5_0, rf_5_1, rf_5_2, rf_6_0, rf_6_1, rf_7_0, rf_7_1, rf_8_0, rf_8_1, rf_8_5, rf_8_6, rf_8_7, rf_8_8, rf_8_9, rf_9_0, rf_10_0, rf_11_0, rf_12_0, rf_47_0, rf_47_1, rf_47_2, rf_47_3, rf_47_5, rf_47_6, rf_47_8, rf_47_10, rf_47_12, rf_47_14, rf_47_15, rf_47_16, rf_47_17, rf_47_18, rf_47_19, rf_47_20, rf_47_21, rf_47_22, rf_47_23, rf_47_24, rf_47_26, rf_47_27, rf_47_29, rf_17, rf_20, rf_21, rf_22, rf_23, rf_24, rl_17, rl_20, rl_21, rl_22, rl_23, rl_24, Classical.not_not, Prod.mk.injEq, m_l, m_lp, m_lq, m_ps, m_ws, m_en, List.replicate, if_true, if_false, reduceIte, true_and, and_true, false_and, and_false, true_or, or_true, false_or, or_false, and_self, or_self, not_true_eq_false, not_false_eq_true, ne_eq, Nat.reduceLeDiff, Nat.reduceEqDiff, Nat.reduceAdd, Int.reduceLE, Int.reduceLT, Int.reduceEq, Int.reduceNe, Int.reduceAdd, Int.reduceNeg, Nat.reduceSub, Nat.succ_ne_zero, Nat.not_succ_le_zero, Nat.reduceMul, Int.reduceMul, Int.reduceSub, Int.reduceToNat, Nat.zero_le, Nat.reduceLT, t20_0, t20_1, B20_0, B20_1, m_w]
  grind [m_i0]
/-- the drawn table changes -/
def FD (μ ν : MMem) : Prop := ∀ a, a ≠ 4 → (a < 34 ∨ 36 < a) → ν a = μ a
def DW (ν : MMem) (s : Int) (n : Int) : Prop := ν 4 3 = n ∧ ∀ j, 0 ≤ j → j < n → ν 34 j = lotN s (3 * j.toNat + 1) 3 ∧ ν 35 j = lotN s (3 * j.toNat + 2) 24 ∧ ν 36 j = lotN s (3 * j.toNat + 3) 6
theorem c_drawL {μ : MMem} {s : Int} {n : Nat} (hn : n ≤ 8) {Q : MVal → MMem → Prop} (h : ∀ μ', FD μ μ' → DW μ' s n → Q (14, 0) μ') : ∀ (d b : Nat) (ν : MMem) (u v : MVal), b + d = n → FD μ ν → DW ν s b → At 78 1 [(9, 0), (0, s), (0, (n : Int)), (0, sdN s (3 * b)), (0, (b : Int)), u, v] [] ν Q := by
  intro d
  induction d with
  | zero =>
    intro b ν u v hb hF hD
    have e : b = n := by omega
    subst e
    have := h ν hF hD
    rw [t78_1]
    simp only [t78_0, t78_2, B78_0, B78_1, B78_2, Classical.not_not, Prod.mk.injEq, m_l, m_lp, m_lq, m_ps, m_ws, m_en, List.replicate, if_true, if_false, reduceIte, true_and, and_true, false_and, and_false, true_or, or_true, false_or, or_false, and_self, or_self, not_true_eq_false, not_false_eq_true, ne_eq, Nat.reduceLeDiff, Nat.reduceEqDiff, Nat.reduceAdd, Int.reduceLE, Int.reduceLT, Int.reduceEq, Int.reduceNe, Int.reduceAdd, Int.reduceNeg, Nat.reduceSub, Nat.succ_ne_zero, Nat.not_succ_le_zero, Nat.reduceMul, Int.reduceMul, Int.reduceSub, Int.reduceToNat, Nat.zero_le, Nat.reduceLT, r_0, r_1, r_2, r_3, r_4, r_5, r_6, r_7, r_9, r_10, r_11, r_12, r_13, r_14, r_15, r_16, r_17, r_18, r_19, r_20_0, r_21_0, r_20_1, r_21_1, r_20_2, r_21_2, r_20_3, r_21_3, r_20_4, r_21_4, r_20_5, r_21_5, r_22_0, r_22_1, r_23, r_24, r_25, r_26, r_27, r_28, r_29, r_30_0, r_30_1, r_30_2, r_31, r_31b, r_32, r_33, r_33b, r_33c, r_34, r_34b, r_35, r_45, r_46, r_47_0, r_47_1, r_40, r_50, r_51, r_41_0, r_41_1, r_42, r_43, r_44, r_36_0, r_37_0, r_38_0, r_48_0, r_36_1, r_37_1, r_38_1, r_48_1, r_36_2, r_37_2, r_38_2, r_48_2, r_36_3, r_37_3, r_36_4, r_37_4, r_36_5, r_37_5, r_39, r_8, al_13, al_14, al_15, al_16, al_18, al_19, al_25, al_26, al_27, al_28, al_29, al_30, al_31, al_32, al_33, al_34, al_35, al_36, al_37, al_38, al_39, al_40, al_41, al_42, al_43, al_44, al_45, al_46, al_48, al_49, al_50, al_51, al_52, al_53, al_54, al_55, al_56, al_57, al_58, al_59, al_60, al_61, al_62, al_63, al_64, al_65, al_66, al_67, al_68, al_69, al_70, rf_0_0, rf_0_1, rf_0_2, rf_0_3, rf_0_4, rf_0_5, rf_0_6, rf_0_7, rf_0_8, rf_0_10, rf_0_11, rf_1_0, rf_1_1, rf_1_2, rf_2_0, rf_2_1, rf_2_2, rf_3_0, rf_3_1, rf_3_2, rf_4_0, rf_4_1, rf_4_2, rf_5_0, rf_5_1, rf_5_2, rf_6_0, rf_6_1, rf_7_0, rf_7_1, rf_8_0, rf_8_1, rf_8_5, rf_8_6, rf_8_7, rf_8_8, rf_8_9, rf_9_0, rf_10_0, rf_11_0, rf_12_0, rf_47_0, rf_47_1, rf_47_2, rf_47_3, rf_47_5, rf_47_6, rf_47_8, rf_47_10, rf_47_12, rf_47_14, rf_47_15, rf_47_16, rf_47_17, rf_47_18, rf_47_19, rf_47_20, rf_47_21, rf_47_22, rf_47_23, rf_47_24, rf_47_26, rf_47_27, rf_47_29, rf_17, rf_20, rf_21, rf_22, rf_23, rf_24, rl_17, rl_20, rl_21, rl_22, rl_23, rl_24]
    rw [if_pos (by omega)]
    exact this
  | succ d ih =>
    intro b ν u v hb hF hD
    have e1 : sdN s (3 * (b + 1)) = sd (sd (sd (sdN s (3 * b)))) := rfl
    have l1 : lotN s (3 * b + 1) 3 = m_id 1 (m_i 7 (sd (sdN s (3 * b))) 16) 3 := rfl
    have l2 : lotN s (3 * b + 2) 24 = m_id 1 (m_i 7 (sd (sd (sdN s (3 * b)))) 16) 24 := rfl
    have l3 : lotN s (3 * b + 3) 6 = m_id 1 (m_i 7 (sd (sd (sd (sdN s (3 * b))))) 16) 6 := rfl
    obtain ⟨d1, d2⟩ := hD
    have ca := c_add4 (lotN s (3 * b + 1) 3) (lotN s (3 * b + 2) 24) (lotN s (3 * b + 3) 6) ν (by omega) (by omega)
    rw [d1] at ca
    have ih := ih (b + 1) (m_w (m_w (m_w (m_w ν 34 b (lotN s (3 * b + 1) 3)) 35 b (lotN s (3 * b + 2) 24)) 36 b (lotN s (3 * b + 3) 6)) 4 3 ((b : Int) + 1)) (0, lotN s (3 * b + 1) 3) (0, lotN s (3 * b + 2) 24) (by omega) ?_ ?_
    · rw [e1] at ih
      push_cast at ih
      rw [l1, l2, l3] at ca ih
      unfold sd at ca ih
      rw [t78_1]
      simp only [t78_0, t78_2, B78_0, B78_1, B78_2, Classical.not_not, Prod.mk.injEq, m_l, m_lp, m_lq, m_ps, m_ws, m_en, List.replicate, if_true, if_false, reduceIte, true_and, and_true, false_and, and_false, true_or, or_true, false_or, or_false, and_self, or_self, not_true_eq_false, not_false_eq_true, ne_eq, Nat.reduceLeDiff, Nat.reduceEqDiff, Nat.reduceAdd, Int.reduceLE, Int.reduceLT, Int.reduceEq, Int.reduceNe, Int.reduceAdd, Int.reduceNeg, Nat.reduceSub, Nat.succ_ne_zero, Nat.not_succ_le_zero, Nat.reduceMul, Int.reduceMul, Int.reduceSub, Int.reduceToNat, Nat.zero_le, Nat.reduceLT, r_0, r_1, r_2, r_3, r_4, r_5, r_6, r_7, r_9, r_10, r_11, r_12, r_13, r_14, r_15, r_16, r_17, r_18, r_19, r_20_0, r_21_0, r_20_1, r_21_1, r_20_2, r_21_2, r_20_3, r_21_3, r_20_4, r_21_4, r_20_5, r_21_5, r_22_0, r_22_1, r_23, r_24, r_25, r_26, r_27, r_28, r_29, r_30_0, r_30_1, r_30_2, r_31, r_31b, r_32, r_33, r_33b, r_33c, r_34, r_34b, r_35, r_45, r_46, r_47_0, r_47_1, r_40, r_50, r_51, r_41_0, r_41_1, r_42, r_43, r_44, r_36_0, r_37_0, r_38_0, r_48_0, r_36_1, r_37_1, r_38_1, r_48_1, r_36_2, r_37_2, r_38_2, r_48_2, r_36_3, r_37_3, r_36_4, r_37_4, r_36_5, r_37_5, r_39, r_8, al_13, al_14, al_15, al_16, al_18, al_19, al_25, al_26, al_27, al_28, al_29, al_30, al_31, al_32, al_33, al_34, al_35, al_36, al_37, al_38, al_39, al_40, al_41, al_42, al_43, al_44, al_45, al_46, al_48, al_49, al_50, al_51, al_52, al_53, al_54, al_55, al_56, al_57, al_58, al_59, al_60, al_61, al_62, al_63, al_64, al_65, al_66, al_67, al_68, al_69, al_70, rf_0_0, rf_0_1, rf_0_2, rf_0_3, rf_0_4, rf_0_5, rf_0_6, rf_0_7, rf_0_8, rf_0_10, rf_0_11, rf_1_0, rf_1_1, rf_1_2, rf_2_0, rf_2_1, rf_2_2, rf_3_0, rf_3_1, rf_3_2, rf_4_0, rf_4_1, rf_4_2, rf_5_0, rf_5_1, rf_5_2, rf_6_0, rf_6_1, rf_7_0, rf_7_1, rf_8_0, rf_8_1, rf_8_5, rf_8_6, rf_8_7, rf_8_8, rf_8_9, rf_9_0, rf_10_0, rf_11_0, rf_12_0, rf_47_0, rf_47_1, rf_47_2, rf_47_3, rf_47_5, rf_47_6, rf_47_8, rf_47_10, rf_47_12, rf_47_14, rf_47_15, rf_47_16, rf_47_17, rf_47_18, rf_47_19, rf_47_20, rf_47_21, rf_47_22, rf_47_23, rf_47_24, rf_47_26, rf_47_27, rf_47_29, rf_17, rf_20, rf_21, rf_22, rf_23, rf_24, rl_17, rl_20, rl_21, rl_22, rl_23, rl_24, c_nextSeed, ca]
      rw [if_neg (by omega), m_i0 (x := (b : Int)) (by omega) (by omega)]
      exact ih
    · intro a h1 h2
      rw [mw_ne h1, mw_ne (by omega), mw_ne (by omega), mw_ne (by omega)]
      exact hF a h1 h2
    · refine ⟨by rw [mw_at, if_pos rfl]; push_cast; rfl, fun j j0 j1 => ?_⟩
      simp only [m_w, Classical.not_not, Prod.mk.injEq, m_l, m_lp, m_lq, m_ps, m_ws, m_en, List.replicate, if_true, if_false, reduceIte, true_and, and_true, false_and, and_false, true_or, or_true, false_or, or_false, and_self, or_self, not_true_eq_false, not_false_eq_true, ne_eq, Nat.reduceLeDiff, Nat.reduceEqDiff, Nat.reduceAdd, Int.reduceLE, Int.reduceLT, Int.reduceEq, Int.reduceNe, Int.reduceAdd, Int.reduceNeg, Nat.reduceSub, Nat.succ_ne_zero, Nat.not_succ_le_zero, Nat.reduceMul, Int.reduceMul, Int.reduceSub, Int.reduceToNat, Nat.zero_le, Nat.reduceLT]
      by_cases q : j = b
      · rw [if_pos q, if_pos q, if_pos q, q]
        exact ⟨rfl, rfl, rfl⟩
      · rw [if_neg q, if_neg q, if_neg q]
        exact d2 j j0 (by push_cast at j1; omega)
theorem c_draw (μ : MMem) (s : Int) (n : Nat) (hn : n ≤ 8) : ∃ μ' : MMem, (FD μ μ' ∧ DW μ' s n) ∧ ∀ Q : MVal → MMem → Prop, Cal 78 [(9, 0), (0, s), (0, (n : Int))] μ Q = Q (14, 0) μ' := by
  refine cal_ex (P := fun μ' => FD μ μ' ∧ DW μ' s n) rfl ?_
  show Rn 78 B78_0 [(9, 0), (0, s), (0, (n : Int)), (14, 0), (14, 0), (14, 0), (14, 0)] [] μ _
  simp only [t78_0, t78_2, B78_0, B78_1, B78_2, Classical.not_not, Prod.mk.injEq, m_l, m_lp, m_lq, m_ps, m_ws, m_en, List.replicate, if_true, if_false, reduceIte, true_and, and_true, false_and, and_false, true_or, or_true, false_or, or_false, and_self, or_self, not_true_eq_false, not_false_eq_true, ne_eq, Nat.reduceLeDiff, Nat.reduceEqDiff, Nat.reduceAdd, Int.reduceLE, Int.reduceLT, Int.reduceEq, Int.reduceNe, Int.reduceAdd, Int.reduceNeg, Nat.reduceSub, Nat.succ_ne_zero, Nat.not_succ_le_zero, Nat.reduceMul, Int.reduceMul, Int.reduceSub, Int.reduceToNat, Nat.zero_le, Nat.reduceLT, r_0, r_1, r_2, r_3, r_4, r_5, r_6, r_7, r_9, r_10, r_11, r_12, r_13, r_14, r_15, r_16, r_17, r_18, r_19, r_20_0, r_21_0, r_20_1, r_21_1, r_20_2, r_21_2, r_20_3, r_21_3, r_20_4, r_21_4, r_20_5, r_21_5, r_22_0, r_22_1, r_23, r_24, r_25, r_26, r_27, r_28, r_29, r_30_0, r_30_1, r_30_2, r_31, r_31b, r_32, r_33, r_33b, r_33c, r_34, r_34b, r_35, r_45, r_46, r_47_0, r_47_1, r_40, r_50, r_51, r_41_0, r_41_1, r_42, r_43, r_44, r_36_0, r_37_0, r_38_0, r_48_0, r_36_1, r_37_1, r_38_1, r_48_1, r_36_2, r_37_2, r_38_2, r_48_2, r_36_3, r_37_3, r_36_4, r_37_4, r_36_5, r_37_5, r_39, r_8, al_13, al_14, al_15, al_16, al_18, al_19, al_25, al_26, al_27, al_28, al_29, al_30, al_31, al_32, al_33, al_34, al_35, al_36, al_37, al_38, al_39, al_40, al_41, al_42, al_43, al_44, al_45, al_46, al_48, al_49, al_50, al_51, al_52, al_53, al_54, al_55, al_56, al_57, al_58, al_59, al_60, al_61, al_62, al_63, al_64, al_65, al_66, al_67, al_68, al_69, al_70, rf_0_0, rf_0_1, rf_0_2, rf_0_3, rf_0_4, rf_0_5, rf_0_6, rf_0_7, rf_0_8, rf_0_10, rf_0_11, rf_1_0, rf_1_1, rf_1_2, rf_2_0, rf_2_1, rf_2_2, rf_3_0, rf_3_1, rf_3_2, rf_4_0, rf_4_1, rf_4_2, rf_5_0, rf_5_1, rf_5_2, rf_6_0, rf_6_1, rf_7_0, rf_7_1, rf_8_0, rf_8_1, rf_8_5, rf_8_6, rf_8_7, rf_8_8, rf_8_9, rf_9_0, rf_10_0, rf_11_0, rf_12_0, rf_47_0, rf_47_1, rf_47_2, rf_47_3, rf_47_5, rf_47_6, rf_47_8, rf_47_10, rf_47_12, rf_47_14, rf_47_15, rf_47_16, rf_47_17, rf_47_18, rf_47_19, rf_47_20, rf_47_21, rf_47_22, rf_47_23, rf_47_24, rf_47_26, rf_47_27, rf_47_29, rf_17, rf_20, rf_21, rf_22, rf_23, rf_24, rl_17, rl_20, rl_21, rl_22, rl_23, rl_24]
  refine c_drawL hn (fun μ' f d => ⟨rfl, f, d⟩) n 0 _ _ _ (by omega) (fun a h1 _ => mw_ne h1) ⟨by rw [mw_at, if_pos rfl]; rfl, fun j j0 j1 => ?_⟩
  have : j < 0 := j1
  omega
def agS (T : MMem) (s n w : Int) : Int := if w = 0 then gapN (dwT T s n) (sm (dwT T s n) 24) (nh T) else bcS (btN (sm (dwT T s n) 24) 3 (nb T))
theorem c_ages {T : MMem} (μ : MMem) (hI : CI μ T) (hM : MO μ T) (s n w : Int) : ∃ μ' : MMem, (FQ μ μ' ∧ MO μ' T) ∧ ∀ Q : MVal → MMem → Prop, Cal 71 [(9, 0), (0, s), (0, n), (0, w)] μ Q = Q (0, if (0 ≤ n ∧ n < 9) ∧ (0 ≤ w ∧ w < 2) then agS T s n w else -2) μ' := by
  obtain ⟨hT, hC, hE, h3⟩ := id hI
  refine cal_ex (P := fun μ' => FQ μ μ' ∧ MO μ' T) rfl ?_
  show Rn 71 B71_0 [(9, 0), (0, s), (0, n), (0, w)] [] μ _
  simp only [t71_0, t71_1, t71_2, t71_3, t71_4, B71_0, B71_1, B71_2, B71_3, B71_4, Classical.not_not, Prod.mk.injEq, m_l, m_lp, m_lq, m_ps, m_ws, m_en, List.replicate, if_true, if_false, reduceIte, true_and, and_true, false_and, and_false, true_or, or_true, false_or, or_false, and_self, or_self, not_true_eq_false, not_false_eq_true, ne_eq, Nat.reduceLeDiff, Nat.reduceEqDiff, Nat.reduceAdd, Int.reduceLE, Int.reduceLT, Int.reduceEq, Int.reduceNe, Int.reduceAdd, Int.reduceNeg, Nat.reduceSub, Nat.succ_ne_zero, Nat.not_succ_le_zero, Nat.reduceMul, Int.reduceMul, Int.reduceSub, Int.reduceToNat, Nat.zero_le, Nat.reduceLT, r_0, r_1, r_2, r_3, r_4, r_5, r_6, r_7, r_9, r_10, r_11, r_12, r_13, r_14, r_15, r_16, r_17, r_18, r_19, r_20_0, r_21_0, r_20_1, r_21_1, r_20_2, r_21_2, r_20_3, r_21_3, r_20_4, r_21_4, r_20_5, r_21_5, r_22_0, r_22_1, r_23, r_24, r_25, r_26, r_27, r_28, r_29, r_30_0, r_30_1, r_30_2, r_31, r_31b, r_32, r_33, r_33b, r_33c, r_34, r_34b, r_35, r_45, r_46, r_47_0, r_47_1, r_40, r_50, r_51, r_41_0, r_41_1, r_42, r_43, r_44, r_36_0, r_37_0, r_38_0, r_48_0, r_36_1, r_37_1, r_38_1, r_48_1, r_36_2, r_37_2, r_38_2, r_48_2, r_36_3, r_37_3, r_36_4, r_37_4, r_36_5, r_37_5, r_39, r_8, al_13, al_14, al_15, al_16, al_18, al_19, al_25, al_26, al_27, al_28, al_29, al_30, al_31, al_32, al_33, al_34, al_35, al_36, al_37, al_38, al_39, al_40, al_41, al_42, al_43, al_44, al_45, al_46, al_48, al_49, al_50, al_51, al_52, al_53, al_54, al_55, al_56, al_57, al_58, al_59, al_60, al_61, al_62, al_63, al_64, al_65, al_66, al_67, al_68, al_69, al_70, rf_0_0, rf_0_1, rf_0_2, rf_0_3, rf_0_4, rf_0_5, rf_0_6, rf_0_7, rf_0_8, rf_0_10, rf_0_11, rf_1_0, rf_1_1, rf_1_2, rf_2_0, rf_2_1, rf_2_2, rf_3_0, rf_3_1, rf_3_2, rf_4_0, rf_4_1, rf_4_2, rf_5_0, rf_5_1, rf_5_2, rf_6_0, rf_6_1, rf_7_0, rf_7_1, rf_8_0, rf_8_1, rf_8_5, rf_8_6, rf_8_7, rf_8_8, rf_8_9, rf_9_0, rf_10_0, rf_11_0, rf_12_0, rf_47_0, rf_47_1, rf_47_2, rf_47_3, rf_47_5, rf_47_6, rf_47_8, rf_47_10, rf_47_12, rf_47_14, rf_47_15, rf_47_16, rf_47_17, rf_47_18, rf_47_19, rf_47_20, rf_47_21, rf_47_22, rf_47_23, rf_47_24, rf_47_26, rf_47_27, rf_47_29, rf_17, rf_20, rf_21, rf_22, rf_23, rf_24, rl_17, rl_20, rl_21, rl_22, rl_23, rl_24, c_isBelow, b0, b1]
  have hrf := FQ.rf μ
  by_cases hn : 0 ≤ n ∧ n < 9
  case neg =>
    simp only [hn, Classical.not_not, Prod.mk.injEq, m_l, m_lp, m_lq, m_ps, m_ws, m_en, List.replicate, if_true, if_false, reduceIte, true_and, and_true, false_and, and_false, true_or, or_true, false_or, or_false, and_self, or_self, not_true_eq_false, not_false_eq_true, ne_eq, Nat.reduceLeDiff, Nat.reduceEqDiff, Nat.reduceAdd, Int.reduceLE, Int.reduceLT, Int.reduceEq, Int.reduceNe, Int.reduceAdd, Int.reduceNeg, Nat.reduceSub, Nat.succ_ne_zero, Nat.not_succ_le_zero, Nat.reduceMul, Int.reduceMul, Int.reduceSub, Int.reduceToNat, Nat.zero_le, Nat.reduceLT]
    exact ⟨hrf, hM⟩
  by_cases hw : 0 ≤ w ∧ w < 2
  case neg =>
    simp only [hn, hw, Classical.not_not, Prod.mk.injEq, m_l, m_lp, m_lq, m_ps, m_ws, m_en, List.replicate, if_true, if_false, reduceIte, true_and, and_true, false_and, and_false, true_or, or_true, false_or, or_false, and_self, or_self, not_true_eq_false, not_false_eq_true, ne_eq, Nat.reduceLeDiff, Nat.reduceEqDiff, Nat.reduceAdd, Int.reduceLE, Int.reduceLT, Int.reduceEq, Int.reduceNe, Int.reduceAdd, Int.reduceNeg, Nat.reduceSub, Nat.succ_ne_zero, Nat.not_succ_le_zero, Nat.reduceMul, Int.reduceMul, Int.reduceSub, Int.reduceToNat, Nat.zero_le, Nat.reduceLT]
    exact ⟨hrf, hM⟩
  obtain ⟨μ0, ⟨f0, d0⟩, c0⟩ := c_draw μ s n.toNat (by omega)
  rw [show ((n.toNat : Nat) : Int) = n by omega] at c0 d0
  have hT2 := hT.dw s (n := n) (by omega)
  have hq0 : FQ μ μ0 := ⟨fun a _ h4 _ _ _ h6 _ => f0 a h4 h6, fun j _ => by rw [f0 0 (by decide) (by decide)]⟩
  have hC0 : CT μ0 (dwT T s n) := (hI.fq hq0).2.1.dw s n
  have hE0 : CE μ0 (dwT T s n) 4 := by
    refine ⟨d0.1, Or.inr ⟨rfl, fun j j0 j1 => ?_⟩⟩
    exact d0.2 j j0 j1
  have h30 : dwT T s n 0 3 = 0 := by rw [dw_0 T s n (by decide)]; exact h3
  obtain ⟨μ1, ⟨p1, w1, f1⟩, c1⟩ := w_begin μ0 hT2 hC0 hE0 0 h30.symm
  obtain ⟨μ2, ⟨w2, f2⟩, c2⟩ := w_pass μ1 hT2 p1 (sim0_SI hT2) w1 0 23 (sim0_ZC _ 0 0) (by decide) (by decide) 24 (by omega)
  have hP := p1.fw f2
  have w2 : WS μ2 (dwT T s n) (sm (dwT T s n) 24) := w2
  have cg := w_gaps μ2 hT2 (sm_SI hT2 24) hP.1 w2
  have cb := w_bits μ2 hT2 hP.1 w2
  have en : nh (dwT T s n) = nh T := by
    unfold nh
    rw [dw_0 T s n (by decide)]
  have eb : nb (dwT T s n) = nb T := by
    unfold nb
    rw [dw_0 T s n (by decide)]
  rw [en] at cg
  rw [eb] at cb
  have hfb := f1.tr f2.fb
  have hq : FQ μ μ2 := hq0.tr hfb.fq
  have hm : MO μ2 T := by
    refine hfb.mo ?_
    unfold MO at *
    rw [f0 0 (by decide) (by decide), f0 18 (by decide) (by decide)]
    exact hM
  simp only [hn, hw, t71_0, t71_1, t71_2, t71_3, t71_4, B71_0, B71_1, B71_2, B71_3, B71_4, Classical.not_not, Prod.mk.injEq, m_l, m_lp, m_lq, m_ps, m_ws, m_en, List.replicate, if_true, if_false, reduceIte, true_and, and_true, false_and, and_false, true_or, or_true, false_or, or_false, and_self, or_self, not_true_eq_false, not_false_eq_true, ne_eq, Nat.reduceLeDiff, Nat.reduceEqDiff, Nat.reduceAdd, Int.reduceLE, Int.reduceLT, Int.reduceEq, Int.reduceNe, Int.reduceAdd, Int.reduceNeg, Nat.reduceSub, Nat.succ_ne_zero, Nat.not_succ_le_zero, Nat.reduceMul, Int.reduceMul, Int.reduceSub, Int.reduceToNat, Nat.zero_le, Nat.reduceLT, r_0, r_1, r_2, r_3, r_4, r_5, r_6, r_7, r_9, r_10, r_11, r_12, r_13, r_14, r_15, r_16, r_17, r_18, r_19, r_20_0, r_21_0, r_20_1, r_21_1, r_20_2, r_21_2, r_20_3, r_21_3, r_20_4, r_21_4, r_20_5, r_21_5, r_22_0, r_22_1, r_23, r_24, r_25, r_26, r_27, r_28, r_29, r_30_0, r_30_1, r_30_2, r_31, r_31b, r_32, r_33, r_33b, r_33c, r_34, r_34b, r_35, r_45, r_46, r_47_0, r_47_1, r_40, r_50, r_51, r_41_0, r_41_1, r_42, r_43, r_44, r_36_0, r_37_0, r_38_0, r_48_0, r_36_1, r_37_1, r_38_1, r_48_1, r_36_2, r_37_2, r_38_2, r_48_2, r_36_3, r_37_3, r_36_4, r_37_4, r_36_5, r_37_5, r_39, r_8, al_13, al_14, al_15, al_16, al_18, al_19, al_25, al_26, al_27, al_28, al_29, al_30, al_31, al_32, al_33, al_34, al_35, al_36, al_37, al_38, al_39, al_40, al_41, al_42, al_43, al_44, al_45, al_46, al_48, al_49, al_50, al_51, al_52, al_53, al_54, al_55, al_56, al_57, al_58, al_59, al_60, al_61, al_62, al_63, al_64, al_65, al_66, al_67, al_68, al_69, al_70, rf_0_0, rf_0_1, rf_0_2, rf_0_3, rf_0_4, rf_0_5, rf_0_6, rf_0_7, rf_0_8, rf_0_10, rf_0_11, rf_1_0, rf_1_1, rf_1_2, rf_2_0, rf_2_1, rf_2_2, rf_3_0, rf_3_1, rf_3_2, rf_4_0, rf_4_1, rf_4_2, rf_5_0, rf_5_1, rf_5_2, rf_6_0, rf_6_1, rf_7_0, rf_7_1, rf_8_0, rf_8_1, rf_8_5, rf_8_6, rf_8_7, rf_8_8, rf_8_9, rf_9_0, rf_10_0, rf_11_0, rf_12_0, rf_47_0, rf_47_1, rf_47_2, rf_47_3, rf_47_5, rf_47_6, rf_47_8, rf_47_10, rf_47_12, rf_47_14, rf_47_15, rf_47_16, rf_47_17, rf_47_18, rf_47_19, rf_47_20, rf_47_21, rf_47_22, rf_47_23, rf_47_24, rf_47_26, rf_47_27, rf_47_29, rf_17, rf_20, rf_21, rf_22, rf_23, rf_24, rl_17, rl_20, rl_21, rl_22, rl_23, rl_24, c0, c1, c2, cg, cb, j_bitCount]
  by_cases e : w = 0
  · simp only [e, Classical.not_not, Prod.mk.injEq, m_l, m_lp, m_lq, m_ps, m_ws, m_en, List.replicate, if_true, if_false, reduceIte, true_and, and_true, false_and, and_false, true_or, or_true, false_or, or_false, and_self, or_self, not_true_eq_false, not_false_eq_true, ne_eq, Nat.reduceLeDiff, Nat.reduceEqDiff, Nat.reduceAdd, Int.reduceLE, Int.reduceLT, Int.reduceEq, Int.reduceNe, Int.reduceAdd, Int.reduceNeg, Nat.reduceSub, Nat.succ_ne_zero, Nat.not_succ_le_zero, Nat.reduceMul, Int.reduceMul, Int.reduceSub, Int.reduceToNat, Nat.zero_le, Nat.reduceLT]
    exact ⟨rfl, hq, hm⟩
  · simp only [e, Classical.not_not, Prod.mk.injEq, m_l, m_lp, m_lq, m_ps, m_ws, m_en, List.replicate, if_true, if_false, reduceIte, true_and, and_true, false_and, and_false, true_or, or_true, false_or, or_false, and_self, or_self, not_true_eq_false, not_false_eq_true, ne_eq, Nat.reduceLeDiff, Nat.reduceEqDiff, Nat.reduceAdd, Int.reduceLE, Int.reduceLT, Int.reduceEq, Int.reduceNe, Int.reduceAdd, Int.reduceNeg, Nat.reduceSub, Nat.succ_ne_zero, Nat.not_succ_le_zero, Nat.reduceMul, Int.reduceMul, Int.reduceSub, Int.reduceToNat, Nat.zero_le, Nat.reduceLT]
    refine ⟨?_, hq, hm⟩
    unfold agS
    rw [if_neg e]
