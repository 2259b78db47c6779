def sh1 (e : Int) : Int := m_i 5 1 e
/-- the least event that had better not be, alone -/
def s1N (T : MMem) : Nat → Int
  | 0 => -1
  | n + 1 => if s1N T n = -1 then (if ow T (sh1 n) = 0 then n else -1) else s1N T n
/-- the least second beside a first one -/
def s2N (T : MMem) (a : Int) : Nat → Int
  | 0 => -1
  | n + 1 => if s2N T a n = -1 then (if a < n ∧ ow T (m_i 4 (sh1 a) (sh1 n)) = 0 then n else -1) else s2N T a n
def s3N (T : MMem) : Nat → Int
  | 0 => -1
  | n + 1 => if s3N T n = -1 then (if s2N T n (ne T) ≠ -1 then n else -1) else s3N T n
theorem s1N_in (T : MMem) : ∀ n : Nat, s1N T n = -1 ∨ (0 ≤ s1N T n ∧ s1N T n < n)
  | 0 => Or.inl rfl
  | n + 1 => by
    have := s1N_in T n
    rw [s1N]
    grind
theorem s2N_in (T : MMem) (a : Int) : ∀ n : Nat, s2N T a n = -1 ∨ (a < s2N T a n ∧ s2N T a n < n)
  | 0 => Or.inl rfl
  | n + 1 => by
    have := s2N_in T a n
    rw [s2N]
    grind
theorem s3N_in (T : MMem) : ∀ n : Nat, s3N T n = -1 ∨ (0 ≤ s3N T n ∧ s3N T n < n ∧ s2N T (s3N T n) (ne T) ≠ -1)
  | 0 => Or.inl rfl
  | n + 1 => by
    have := s3N_in T n
    rw [s3N]
    grind
theorem s1N_up {T : MMem} {n : Nat} {x : Int} (h : s1N T n = x) (hx : x ≠ -1) : ∀ d : Nat, s1N T (n + d) = x
  | 0 => h
  | d + 1 => by
    have ih := s1N_up h hx d
    rw [← Nat.add_assoc, s1N, if_neg (by rw [ih]; exact hx)]
    exact ih
theorem s2N_up {T : MMem} {a : Int} {n : Nat} {x : Int} (h : s2N T a n = x) (hx : x ≠ -1) : ∀ d : Nat, s2N T a (n + d) = x
  | 0 => h
  | d + 1 => by
    have ih := s2N_up h hx d
    rw [← Nat.add_assoc, s2N, if_neg (by rw [ih]; exact hx)]
    exact ih
theorem s3N_up {T : MMem} {n : Nat} {x : Int} (h : s3N T n = x) (hx : x ≠ -1) : ∀ d : Nat, s3N T (n + d) = x
  | 0 => h
  | d + 1 => by
    have ih := s3N_up h hx d
    rw [← Nat.add_assoc, s3N, if_neg (by rw [ih]; exact hx)]
    exact ih
theorem s2N_le {T : MMem} {a : Int} : ∀ n : Nat, (n : Int) ≤ a + 1 → s2N T a n = -1
  | 0, _ => rfl
  | n + 1, h => by
    rw [s2N, s2N_le n (by omega)]
    grind
theorem sh1_in : ∀ e : Fin 8, 0 ≤ sh1 (e.val : Int) ∧ sh1 (e.val : Int) < 256 := by decide +kernel
theorem sh2_in : ∀ e f : Fin 8, 0 ≤ m_i 4 (sh1 (e.val : Int)) (sh1 (f.val : Int)) ∧ m_i 4 (sh1 (e.val : Int)) (sh1 (f.val : Int)) < 256 := by decide +kernel
def fwS (T : MMem) : Int := if ow T 0 = 0 then 0 else if s1N T (ne T) ≠ -1 then sh1 (s1N T (ne T)) else if s3N T (ne T) ≠ -1 then m_i 4 (sh1 (s3N T (ne T))) (sh1 (s2N T (s3N T (ne T)) (ne T))) else -1
def spS (T : MMem) (i : Int) : Int := if ow T 0 = 0 then (if i = -1 then 0 else -1) else if s1N T (ne T) ≠ -1 then (if i = -1 then 1 else if i = 0 then s1N T (ne T) else -1) else if s3N T (ne T) ≠ -1 then (if i = -1 then 2 else if i = 0 then s3N T (ne T) else s2N T (s3N T (ne T)) (ne T)) else -1
theorem c_few3 {T : MMem} (hT : TW T) (h0 : ow T 0 ≠ 0) (h1 : s1N T (ne T) = -1) {a : Nat} (ha : a < ne T) (h2 : s3N T a = -1) {μ : MMem} {Q : MVal → MMem → Prop} (hr : ∀ μ', FQ μ μ' → MO μ' T → Q (0, fwS T) μ') (h : ∀ (ν : MMem) (u w : MVal), FQ μ ν → MO ν T → s3N T (a + 1) = -1 → At 63 5 [(9, 0), (0, (a : Int) + 1), u, w] [] ν Q) (hI : CI μ T) : ∀ (d b : Nat) (ν : MMem) (w : MVal), b + d = ne T → a < b → FQ μ ν → MO ν T → s2N T a b = -1 → At 63 6 [(9, 0), (0, (a : Int)), (0, (b : Int)), w] [] ν Q := by
  have h8 := hT.2.2.1
  have hn : (ne T : Int) = T 0 2 := by unfold ne; omega
  intro d
  induction d with
  | zero =>
    intro b ν w hb hab hF hM hs
    have e : b = ne T := by omega
    subst e
    have hI2 := hI.fq hF
    have e3 := hI2.2.2.1.1
    rw [t63_6]
    simp only [t63_0, t63_1, t63_2, t63_3, t63_4, t63_7, t63_8, t63_9, B63_0, B63_1, B63_2, B63_3, B63_4, B63_5, B63_6, B63_7, B63_8, B63_9, Classical.not_not, Prod.mk.injEq, m_l, m_lp, m_lq, m_ps, m_ws, m_en, List.replicate, if_true, if_false, reduceIte, true_and, and_true, false_and, and_false, true_or, or_true, false_or, or_false, and_self, or_self, not_true_eq_false, not_false_eq_true, ne_eq, Nat.reduceLeDiff, Nat.reduceEqDiff, Nat.reduceAdd, Int.reduceLE, Int.reduceLT, Int.reduceEq, Int.reduceNe, Int.reduceAdd, Int.reduceNeg, Nat.reduceSub, Nat.succ_ne_zero, Nat.not_succ_le_zero, Nat.reduceMul, Int.reduceMul, Int.reduceSub, Int.reduceToNat, Nat.zero_le, Nat.reduceLT, r_0, r_1, r_2, r_3, r_4, r_5, r_6, r_7, r_9, r_10, r_11, r_12, r_13, r_14, r_15, r_16, r_17, r_18, r_19, r_20_0, r_21_0, r_20_1, r_21_1, r_20_2, r_21_2, r_20_3, r_21_3, r_20_4, r_21_4, r_20_5, r_21_5, r_22_0, r_22_1, r_23, r_24, r_25, r_26, r_27, r_28, r_29, r_30_0, r_30_1, r_30_2, r_31, r_31b, r_32, r_33, r_33b, r_33c, r_34, r_34b, r_35, r_45, r_46, r_47_0, r_47_1, r_40, r_50, r_51, r_41_0, r_41_1, r_42, r_43, r_44, r_36_0, r_37_0, r_38_0, r_48_0, r_36_1, r_37_1, r_38_1, r_48_1, r_36_2, r_37_2, r_38_2, r_48_2, r_36_3, r_37_3, r_36_4, r_37_4, r_36_5, r_37_5, r_39, r_8, al_13, al_14, al_15, al_16, al_18, al_19, al_25, al_26, al_27, al_28, al_29, al_30, al_31, al_32, al_33, al_34, al_35, al_36, al_37, al_38, al_39, al_40, al_41, al_42, al_43, al_44, al_45, al_46, al_48, al_49, al_50, al_51, al_52, al_53, al_54, al_55, al_56, al_57, al_58, al_59, al_60, al_61, al_62, al_63, al_64, al_65, al_66, al_67, al_68, al_69, al_70, rf_0_0, rf_0_1, rf_0_2, rf_0_3, rf_0_4, rf_0_5, rf_0_6, rf_0_7, rf_0_8, rf_0_10, rf_0_11, rf_1_0, rf_1_1, rf_1_2, rf_2_0, rf_2_1, rf_2_2, rf_3_0, rf_3_1, rf_3_2, rf_4_0, rf_4_1, rf_4_2, rf_5_0, rf_5_1, rf_5_2, rf_6_0, rf_6_1, rf_7_0, rf_7_1, rf_8_0, rf_8_1, rf_8_5, rf_8_6, rf_8_7, rf_8_8, rf_8_9, rf_9_0, rf_10_0, rf_11_0, rf_12_0, rf_47_0, rf_47_1, rf_47_2, rf_47_3, rf_47_5, rf_47_6, rf_47_8, rf_47_10, rf_47_12, rf_47_14, rf_47_15, rf_47_16, rf_47_17, rf_47_18, rf_47_19, rf_47_20, rf_47_21, rf_47_22, rf_47_23, rf_47_24, rf_47_26, rf_47_27, rf_47_29, rf_17, rf_20, rf_21, rf_22, rf_23, rf_24, rl_17, rl_20, rl_21, rl_22, rl_23, rl_24, e3]
    rw [if_pos (by omega), m_i0 (by omega) (by omega)]
    exact h ν _ _ hF hM (by rw [s3N, if_pos h2, if_neg (fun q => q hs)])
  | succ d ih =>
    intro b ν w hb hab hF hM hs
    have hI2 := hI.fq hF
    have e3 := hI2.2.2.1.1
    obtain ⟨μ1, ⟨f1, m1⟩, c1⟩ := c_openWithout ν hI2 hM (m_i 4 (sh1 a) (sh1 b))
    have ih := ih (b + 1) μ1
    have hin := sh2_in ⟨a, by omega⟩ ⟨b, by omega⟩
    rw [if_pos hin] at c1
    rw [t63_6]
    unfold sh1 at c1
    simp only [t63_0, t63_1, t63_2, t63_3, t63_4, t63_7, t63_8, t63_9, B63_0, B63_1, B63_2, B63_3, B63_4, B63_5, B63_6, B63_7, B63_8, B63_9, Classical.not_not, Prod.mk.injEq, m_l, m_lp, m_lq, m_ps, m_ws, m_en, List.replicate, if_true, if_false, reduceIte, true_and, and_true, false_and, and_false, true_or, or_true, false_or, or_false, and_self, or_self, not_true_eq_false, not_false_eq_true, ne_eq, Nat.reduceLeDiff, Nat.reduceEqDiff, Nat.reduceAdd, Int.reduceLE, Int.reduceLT, Int.reduceEq, Int.reduceNe, Int.reduceAdd, Int.reduceNeg, Nat.reduceSub, Nat.succ_ne_zero, Nat.not_succ_le_zero, Nat.reduceMul, Int.reduceMul, Int.reduceSub, Int.reduceToNat, Nat.zero_le, Nat.reduceLT, r_0, r_1, r_2, r_3, r_4, r_5, r_6, r_7, r_9, r_10, r_11, r_12, r_13, r_14, r_15, r_16, r_17, r_18, r_19, r_20_0, r_21_0, r_20_1, r_21_1, r_20_2, r_21_2, r_20_3, r_21_3, r_20_4, r_21_4, r_20_5, r_21_5, r_22_0, r_22_1, r_23, r_24, r_25, r_26, r_27, r_28, r_29, r_30_0, r_30_1, r_30_2, r_31, r_31b, r_32, r_33, r_33b, r_33c, r_34, r_34b, r_35, r_45, r_46, r_47_0, r_47_1, r_40, r_50, r_51, r_41_0, r_41_1, r_42, r_43, r_44, r_36_0, r_37_0, r_38_0, r_48_0, r_36_1, r_37_1, r_38_1, r_48_1, r_36_2, r_37_2, r_38_2, r_48_2, r_36_3, r_37_3, r_36_4, r_37_4, r_36_5, r_37_5, r_39, r_8, al_13, al_14, al_15, al_16, al_18, al_19, al_25, al_26, al_27, al_28, al_29, al_30, al_31, al_32, al_33, al_34, al_35, al_36, al_37, al_38, al_39, al_40, al_41, al_42, al_43, al_44, al_45, al_46, al_48, al_49, al_50, al_51, al_52, al_53, al_54, al_55, al_56, al_57, al_58, al_59, al_60, al_61, al_62, al_63, al_64, al_65, al_66, al_67, al_68, al_69, al_70, rf_0_0, rf_0_1, rf_0_2, rf_0_3, rf_0_4, rf_0_5, rf_0_6, rf_0_7, rf_0_8, rf_0_10, rf_0_11, rf_1_0, rf_1_1, rf_1_2, rf_2_0, rf_2_1, rf_2_2, rf_3_0, rf_3_1, rf_3_2, rf_4_0, rf_4_1, rf_4_2, rf_5_0, rf_5_1, rf_5_2, rf_6_0, rf_6_1, rf_7_0, rf_7_1, rf_8_0, rf_8_1, rf_8_5, rf_8_6, rf_8_7, rf_8_8, rf_8_9, rf_9_0, rf_10_0, rf_11_0, rf_12_0, rf_47_0, rf_47_1, rf_47_2, rf_47_3, rf_47_5, rf_47_6, rf_47_8, rf_47_10, rf_47_12, rf_47_14, rf_47_15, rf_47_16, rf_47_17, rf_47_18, rf_47_19, rf_47_20, rf_47_21, rf_47_22, rf_47_23, rf_47_24, rf_47_26, rf_47_27, rf_47_29, rf_17, rf_20, rf_21, rf_22, rf_23, rf_24, rl_17, rl_20, rl_21, rl_22, rl_23, rl_24, e3, c1]
    rw [if_neg (by omega), m_i0 (by omega) (by omega)]
    by_cases hz : ow T (m_i 4 (sh1 a) (sh1 b)) = 0
    · have e1 : s2N T a (b + 1) = b := by rw [s2N, if_pos hs, if_pos ⟨by omega, hz⟩]
      have e2 : s2N T a (ne T) = b := by
        have := s2N_up e1 (by omega) d
        rw [show b + 1 + d = ne T by omega] at this
        exact this
      have e4 : s3N T (a + 1) = a := by rw [s3N, if_pos h2, if_pos (by omega)]
      have e5 : s3N T (ne T) = a := by
        have := s3N_up e4 (by omega) (ne T - (a + 1))
        rw [show a + 1 + (ne T - (a + 1)) = ne T by omega] at this
        exact this
      have e6 : fwS T = m_i 4 (sh1 a) (sh1 b) := by
        unfold fwS
        rw [if_neg h0, if_neg (fun q => q h1), e5, if_pos (by omega), e2]
      have := hr μ1 (hF.tr f1) m1
      rw [e6] at this
      unfold sh1 at hz this
      rw [if_neg (fun q => q hz)]
      exact this
    · have := ih (0, m_i 4 (sh1 a) (sh1 b)) (by omega) (by omega) (hF.tr f1) m1 (by rw [s2N, if_pos hs, if_neg (fun q => hz q.2)])
      push_cast at this
      unfold sh1 at hz this
      rw [if_pos hz]
      exact this
theorem c_few2 {T μ : MMem} (hI : CI μ T) (h0 : ow T 0 ≠ 0) (h1 : s1N T (ne T) = -1) {Q : MVal → MMem → Prop} (hr : ∀ μ', FQ μ μ' → MO μ' T → Q (0, fwS T) μ') : ∀ (d b : Nat) (ν : MMem) (u w : MVal), b + d = ne T → FQ μ ν → MO ν T → s3N T b = -1 → At 63 5 [(9, 0), (0, (b : Int)), u, w] [] ν Q := by
  have hT := hI.1
  have h8 := hT.2.2.1
  have hn : (ne T : Int) = T 0 2 := by unfold ne; omega
  intro d
  induction d with
  | zero =>
    intro b ν u w hb hF hM hs
    have e : b = ne T := by omega
    subst e
    have hI2 := hI.fq hF
    have e3 := hI2.2.2.1.1
    have := hr ν hF hM
    unfold fwS at this
    rw [if_neg h0, if_neg (fun q => q h1), if_neg (fun q => q hs)] at this
    rw [t63_5]
    simp only [t63_0, t63_1, t63_2, t63_3, t63_4, t63_7, t63_8, t63_9, B63_0, B63_1, B63_2, B63_3, B63_4, B63_5, B63_6, B63_7, B63_8, B63_9, Classical.not_not, Prod.mk.injEq, m_l, m_lp, m_lq, m_ps, m_ws, m_en, List.replicate, if_true, if_false, reduceIte, true_and, and_true, false_and, and_false, true_or, or_true, false_or, or_false, and_self, or_self, not_true_eq_false, not_false_eq_true, ne_eq, Nat.reduceLeDiff, Nat.reduceEqDiff, Nat.reduceAdd, Int.reduceLE, Int.reduceLT, Int.reduceEq, Int.reduceNe, Int.reduceAdd, Int.reduceNeg, Nat.reduceSub, Nat.succ_ne_zero, Nat.not_succ_le_zero, Nat.reduceMul, Int.reduceMul, Int.reduceSub, Int.reduceToNat, Nat.zero_le, Nat.reduceLT, r_0, r_1, r_2, r_3, r_4, r_5, r_6, r_7, r_9, r_10, r_11, r_12, r_13, r_14, r_15, r_16, r_17, r_18, r_19, r_20_0, r_21_0, r_20_1, r_21_1, r_20_2, r_21_2, r_20_3, r_21_3, r_20_4, r_21_4, r_20_5, r_21_5, r_22_0, r_22_1, r_23, r_24, r_25, r_26, r_27, r_28, r_29, r_30_0, r_30_1, r_30_2, r_31, r_31b, r_32, r_33, r_33b, r_33c, r_34, r_34b, r_35, r_45, r_46, r_47_0, r_47_1, r_40, r_50, r_51, r_41_0, r_41_1, r_42, r_43, r_44, r_36_0, r_37_0, r_38_0, r_48_0, r_36_1, r_37_1, r_38_1, r_48_1, r_36_2, r_37_2, r_38_2, r_48_2, r_36_3, r_37_3, r_36_4, r_37_4, r_36_5, r_37_5, r_39, r_8, al_13, al_14, al_15, al_16, al_18, al_19, al_25, al_26, al_27, al_28, al_29, al_30, al_31, al_32, al_33, al_34, al_35, al_36, al_37, al_38, al_39, al_40, al_41, al_42, al_43, al_44, al_45, al_46, al_48, al_49, al_50, al_51, al_52, al_53, al_54, al_55, al_56, al_57, al_58, al_59, al_60, al_61, al_62, al_63, al_64, al_65, al_66, al_67, al_68, al_69, al_70, rf_0_0, rf_0_1, rf_0_2, rf_0_3, rf_0_4, rf_0_5, rf_0_6, rf_0_7, rf_0_8, rf_0_10, rf_0_11, rf_1_0, rf_1_1, rf_1_2, rf_2_0, rf_2_1, rf_2_2, rf_3_0, rf_3_1, rf_3_2, rf_4_0, rf_4_1, rf_4_2, rf_5_0, rf_5_1, rf_5_2, rf_6_0, rf_6_1, rf_7_0, rf_7_1, rf_8_0, rf_8_1, rf_8_5, rf_8_6, rf_8_7, rf_8_8, rf_8_9, rf_9_0, rf_10_0, rf_11_0, rf_12_0, rf_47_0, rf_47_1, rf_47_2, rf_47_3, rf_47_5, rf_47_6, rf_47_8, rf_47_10, rf_47_12, rf_47_14, rf_47_15, rf_47_16, rf_47_17, rf_47_18, rf_47_19, rf_47_20, rf_47_21, rf_47_22, rf_47_23, rf_47_24, rf_47_26, rf_47_27, rf_47_29, rf_17, rf_20, rf_21, rf_22, rf_23, rf_24, rl_17, rl_20, rl_21, rl_22, rl_23, rl_24, e3]
    rw [if_pos (by omega)]
    exact this
  | succ d ih =>
    intro b ν u w hb hF hM hs
    have hI2 := hI.fq hF
    have e3 := hI2.2.2.1.1
    rw [t63_5]
    simp only [t63_0, t63_1, t63_2, t63_3, t63_4, t63_7, t63_8, t63_9, B63_0, B63_1, B63_2, B63_3, B63_4, B63_5, B63_6, B63_7, B63_8, B63_9, Classical.not_not, Prod.mk.injEq, m_l, m_lp, m_lq, m_ps, m_ws, m_en, List.replicate, if_true, if_false, reduceIte, true_and, and_true, false_and, and_false, true_or, or_true, false_or, or_false, and_self, or_self, not_true_eq_false, not_false_eq_true, ne_eq, Nat.reduceLeDiff, Nat.reduceEqDiff, Nat.reduceAdd, Int.reduceLE, Int.reduceLT, Int.reduceEq, Int.reduceNe, Int.reduceAdd, Int.reduceNeg, Nat.reduceSub, Nat.succ_ne_zero, Nat.not_succ_le_zero, Nat.reduceMul, Int.reduceMul, Int.reduceSub, Int.reduceToNat, Nat.zero_le, Nat.reduceLT, r_0, r_1, r_2, r_3, r_4, r_5, r_6, r_7, r_9, r_10, r_11, r_12, r_13, r_14, r_15, r_16, r_17, r_18, r_19, r_20_0, r_21_0, r_20_1, r_21_1, r_20_2, r_21_2, r_20_3, r_21_3, r_20_4, r_21_4, r_20_5, r_21_5, r_22_0, r_22_1, r_23, r_24, r_25, r_26, r_27, r_28, r_29, r_30_0, r_30_1, r_30_2, r_31, r_31b, r_32, r_33, r_33b, r_33c, r_34, r_34b, r_35, r_45, r_46, r_47_0, r_47_1, r_40, r_50, r_51, r_41_0, r_41_1, r_42, r_43, r_44, r_36_0, r_37_0, r_38_0, r_48_0, r_36_1, r_37_1, r_38_1, r_48_1, r_36_2, r_37_2, r_38_2, r_48_2, r_36_3, r_37_3, r_36_4, r_37_4, r_36_5, r_37_5, r_39, r_8, al_13, al_14, al_15, al_16, al_18, al_19, al_25, al_26, al_27, al_28, al_29, al_30, al_31, al_32, al_33, al_34, al_35, al_36, al_37, al_38, al_39, al_40, al_41, al_42, al_43, al_44, al_45, al_46, al_48, al_49, al_50, al_51, al_52, al_53, al_54, al_55, al_56, al_57, al_58, al_59, al_60, al_61, al_62, al_63, al_64, al_65, al_66, al_67, al_68, al_69, al_70, rf_0_0, rf_0_1, rf_0_2, rf_0_3, rf_0_4, rf_0_5, rf_0_6, rf_0_7, rf_0_8, rf_0_10, rf_0_11, rf_1_0, rf_1_1, rf_1_2, rf_2_0, rf_2_1, rf_2_2, rf_3_0, rf_3_1, rf_3_2, rf_4_0, rf_4_1, rf_4_2, rf_5_0, rf_5_1, rf_5_2, rf_6_0, rf_6_1, rf_7_0, rf_7_1, rf_8_0, rf_8_1, rf_8_5, rf_8_6, rf_8_7, rf_8_8, rf_8_9, rf_9_0, rf_10_0, rf_11_0, rf_12_0, rf_47_0, rf_47_1, rf_47_2, rf_47_3, rf_47_5, rf_47_6, rf_47_8, rf_47_10, rf_47_12, rf_47_14, rf_47_15, rf_47_16, rf_47_17, rf_47_18, rf_47_19, rf_47_20, rf_47_21, rf_47_22, rf_47_23, rf_47_24, rf_47_26, rf_47_27, rf_47_29, rf_17, rf_20, rf_21, rf_22, rf_23, rf_24, rl_17, rl_20, rl_21, rl_22, rl_23, rl_24, e3]
    rw [if_neg (by omega), m_i0 (by omega) (by omega)]
    have := c_few3 hT h0 h1 (a := b) (by omega) hs (μ := μ) hr (fun ν' u' w' f m s => by
      have := ih (b + 1) ν' u' w' (by omega) f m s
      push_cast at this
      exact this) hI (ne T - (b + 1)) (b + 1) ν w (by omega) (by omega) hF hM (s2N_le _ (by omega))
    push_cast at this
    exact this
theorem c_few1 {T μ : MMem} (hI : CI μ T) (h0 : ow T 0 ≠ 0) {Q : MVal → MMem → Prop} (hr : ∀ μ', FQ μ μ' → MO μ' T → Q (0, fwS T) μ') : ∀ (d b : Nat) (ν : MMem), b + d = ne T → FQ μ ν → MO ν T → s1N T b = -1 → At 63 2 [(9, 0), (0, (b : Int)), (14, 0), (14, 0)] [] ν Q := by
  have hT := hI.1
  have h8 := hT.2.2.1
  have hn : (ne T : Int) = T 0 2 := by unfold ne; omega
  intro d
  induction d with
  | zero =>
    intro b ν hb hF hM hs
    have e : b = ne T := by omega
    subst e
    have hI2 := hI.fq hF
    have e3 := hI2.2.2.1.1
    rw [t63_2]
    simp only [t63_0, t63_1, t63_3, t63_4, t63_7, t63_8, t63_9, B63_0, B63_1, B63_2, B63_3, B63_4, B63_5, B63_6, B63_7, B63_8, B63_9, Classical.not_not, Prod.mk.injEq, m_l, m_lp, m_lq, m_ps, m_ws, m_en, List.replicate, if_true, if_false, reduceIte, true_and, and_true, false_and, and_false, true_or, or_true, false_or, or_false, and_self, or_self, not_true_eq_false, not_false_eq_true, ne_eq, Nat.reduceLeDiff, Nat.reduceEqDiff, Nat.reduceAdd, Int.reduceLE, Int.reduceLT, Int.reduceEq, Int.reduceNe, Int.reduceAdd, Int.reduceNeg, Nat.reduceSub, Nat.succ_ne_zero, Nat.not_succ_le_zero, Nat.reduceMul, Int.reduceMul, Int.reduceSub, Int.reduceToNat, Nat.zero_le, Nat.reduceLT, r_0, r_1, r_2, r_3, r_4, r_5, r_6, r_7, r_9, r_10, r_11, r_12, r_13, r_14, r_15, r_16, r_17, r_18, r_19, r_20_0, r_21_0, r_20_1, r_21_1, r_20_2, r_21_2, r_20_3, r_21_3, r_20_4, r_21_4, r_20_5, r_21_5, r_22_0, r_22_1, r_23, r_24, r_25, r_26, r_27, r_28, r_29, r_30_0, r_30_1, r_30_2, r_31, r_31b, r_32, r_33, r_33b, r_33c, r_34, r_34b, r_35, r_45, r_46, r_47_0, r_47_1, r_40, r_50, r_51, r_41_0, r_41_1, r_42, r_43, r_44, r_36_0, r_37_0, r_38_0, r_48_0, r_36_1, r_37_1, r_38_1, r_48_1, r_36_2, r_37_2, r_38_2, r_48_2, r_36_3, r_37_3, r_36_4, r_37_4, r_36_5, r_37_5, r_39, r_8, al_13, al_14, al_15, al_16, al_18, al_19, al_25, al_26, al_27, al_28, al_29, al_30, al_31, al_32, al_33, al_34, al_35, al_36, al_37, al_38, al_39, al_40, al_41, al_42, al_43, al_44, al_45, al_46, al_48, al_49, al_50, al_51, al_52, al_53, al_54, al_55, al_56, al_57, al_58, al_59, al_60, al_61, al_62, al_63, al_64, al_65, al_66, al_67, al_68, al_69, al_70, rf_0_0, rf_0_1, rf_0_2, rf_0_3, rf_0_4, rf_0_5, rf_0_6, rf_0_7, rf_0_8, rf_0_10, rf_0_11, rf_1_0, rf_1_1, rf_1_2, rf_2_0, rf_2_1, rf_2_2, rf_3_0, rf_3_1, rf_3_2, rf_4_0, rf_4_1, rf_4_2, rf_5_0, rf_5_1, rf_5_2, rf_6_0, rf_6_1, rf_7_0, rf_7_1, rf_8_0, rf_8_1, rf_8_5, rf_8_6, rf_8_7, rf_8_8, rf_8_9, rf_9_0, rf_10_0, rf_11_0, rf_12_0, rf_47_0, rf_47_1, rf_47_2, rf_47_3, rf_47_5, rf_47_6, rf_47_8, rf_47_10, rf_47_12, rf_47_14, rf_47_15, rf_47_16, rf_47_17, rf_47_18, rf_47_19, rf_47_20, rf_47_21, rf_47_22, rf_47_23, rf_47_24, rf_47_26, rf_47_27, rf_47_29, rf_17, rf_20, rf_21, rf_22, rf_23, rf_24, rl_17, rl_20, rl_21, rl_22, rl_23, rl_24, e3]
    rw [if_pos (by omega)]
    exact c_few2 hI h0 hs hr (ne T) 0 ν _ _ (by omega) hF hM rfl
  | succ d ih =>
    intro b ν hb hF hM hs
    have hI2 := hI.fq hF
    have e3 := hI2.2.2.1.1
    obtain ⟨μ1, ⟨f1, m1⟩, c1⟩ := c_openWithout ν hI2 hM (sh1 b)
    have ih := ih (b + 1) μ1
    have hin := sh1_in ⟨b, by omega⟩
    rw [if_pos hin] at c1
    rw [t63_2]
    unfold sh1 at c1
    simp only [t63_0, t63_1, t63_3, t63_4, t63_7, t63_8, t63_9, B63_0, B63_1, B63_2, B63_3, B63_4, B63_5, B63_6, B63_7, B63_8, B63_9, Classical.not_not, Prod.mk.injEq, m_l, m_lp, m_lq, m_ps, m_ws, m_en, List.replicate, if_true, if_false, reduceIte, true_and, and_true, false_and, and_false, true_or, or_true, false_or, or_false, and_self, or_self, not_true_eq_false, not_false_eq_true, ne_eq, Nat.reduceLeDiff, Nat.reduceEqDiff, Nat.reduceAdd, Int.reduceLE, Int.reduceLT, Int.reduceEq, Int.reduceNe, Int.reduceAdd, Int.reduceNeg, Nat.reduceSub, Nat.succ_ne_zero, Nat.not_succ_le_zero, Nat.reduceMul, Int.reduceMul, Int.reduceSub, Int.reduceToNat, Nat.zero_le, Nat.reduceLT, r_0, r_1, r_2, r_3, r_4, r_5, r_6, r_7, r_9, r_10, r_11, r_12, r_13, r_14, r_15, r_16, r_17, r_18, r_19, r_20_0, r_21_0, r_20_1, r_21_1, r_20_2, r_21_2, r_20_3, r_21_3, r_20_4, r_21_4, r_20_5, r_21_5, r_22_0, r_22_1, r_23, r_24, r_25, r_26, r_27, r_28, r_29, r_30_0, r_30_1, r_30_2, r_31, r_31b, r_32, r_33, r_33b, r_33c, r_34, r_34b, r_35, r_45, r_46, r_47_0, r_47_1, r_40, r_50, r_51, r_41_0, r_41_1, r_42, r_43, r_44, r_36_0, r_37_0, r_38_0, r_48_0, r_36_1, r_37_1, r_38_1, r_48_1, r_36_2, r_37_2, r_38_2, r_48_2, r_36_3, r_37_3, r_36_4, r_37_4, r_36_5, r_37_5, r_39, r_8, al_13, al_14, al_15, al_16, al_18, al_19, al_25, al_26, al_27, al_28, al_29, al_30, al_31, al_32, al_33, al_34, al_35, al_36, al_37, al_38, al_39, al_40, al_41, al_42, al_43, al_44, al_45, al_46, al_48, al_49, al_50, al_51, al_52, al_53, al_54, al_55, al_56, al_57, al_58, al_59, al_60, al_61, al_62, al_63, al_64, al_65, al_66, al_67, al_68, al_69, al_70, rf_0_0, rf_0_1, rf_0_2, rf_0_3, rf_0_4, rf_0_5, rf_0_6, rf_0_7, rf_0_8, rf_0_10, rf_0_11, rf_1_0, rf_1_1, rf_1_2, rf_2_0, rf_2_1, rf_2_2, rf_3_0, rf_3_1, rf_3_2, rf_4_0, rf_4_1, rf_4_2, rf_5_0, rf_5_1, rf_5_2, rf_6_0, rf_6_1, rf_7_0, rf_7_1, rf_8_0, rf_8_1, rf_8_5, rf_8_6, rf_8_7, rf_8_8, rf_8_9, rf_9_0, rf_10_0, rf_11_0, rf_12_0, rf_47_0, rf_47_1, rf_47_2, rf_47_3, rf_47_5, rf_47_6, rf_47_8, rf_47_10, rf_47_12, rf_47_14, rf_47_15, rf_47_16, rf_47_17, rf_47_18, rf_47_19, rf_47_20, rf_47_21, rf_47_22, rf_47_23, rf_47_24, rf_47_26, rf_47_27, rf_47_29, rf_17, rf_20, rf_21, rf_22, rf_23, rf_24, rl_17, rl_20, rl_21, rl_22, rl_23, rl_24, e3, c1]
    rw [if_neg (by omega), m_i0 (by omega) (by omega)]
    by_cases hz : ow T (sh1 b) = 0
    · have e1 : s1N T (b + 1) = b := by rw [s1N, if_pos hs, if_pos hz]
      have e2 : s1N T (ne T) = b := by
        have := s1N_up e1 (by omega) d
        rw [show b + 1 + d = ne T by omega] at this
        exact this
      have e6 : fwS T = sh1 b := by
        unfold fwS
        rw [if_neg h0, e2, if_pos (by omega)]
      have := hr μ1 (hF.tr f1) m1
      rw [e6] at this
      unfold sh1 at hz this
      rw [if_neg (fun q => q hz)]
      exact this
    · have := ih (by omega) (hF.tr f1) m1 (by rw [s1N, if_pos hs, if_neg hz])
      push_cast at this
      unfold sh1 at hz
      rw [if_pos hz]
      exact this
theorem c_few {T : MMem} (μ : MMem) (hI : CI μ T) (hM : MO μ T) : ∃ μ' : MMem, (FQ μ μ' ∧ MO μ' T) ∧ ∀ Q : MVal → MMem → Prop, Cal 63 [(9, 0)] μ Q = Q (0, fwS T) μ' := by
  refine cal_ex (P := fun μ' => FQ μ μ' ∧ MO μ' T) rfl ?_
  show Rn 63 B63_0 [(9, 0), (14, 0), (14, 0), (14, 0)] [] μ _
  obtain ⟨μ1, ⟨f1, m1⟩, c1⟩ := c_openWithout μ hI hM 0
  rw [if_pos (by decide)] at c1
  simp only [t63_0, t63_1, t63_3, t63_4, t63_7, t63_8, t63_9, B63_0, B63_1, B63_2, B63_3, B63_4, B63_5, B63_6, B63_7, B63_8, B63_9, Classical.not_not, Prod.mk.injEq, m_l, m_lp, m_lq, m_ps, m_ws, m_en, List.replicate, if_true, if_false, reduceIte, true_and, and_true, false_and, and_false, true_or, or_true, false_or, or_false, and_self, or_self, not_true_eq_false, not_false_eq_true, ne_eq, Nat.reduceLeDiff, Nat.reduceEqDiff, Nat.reduceAdd, Int.reduceLE, Int.reduceLT, Int.reduceEq, Int.reduceNe, Int.reduceAdd, Int.reduceNeg, Nat.reduceSub, Nat.succ_ne_zero, Nat.not_succ_le_zero, Nat.reduceMul, Int.reduceMul, Int.reduceSub, Int.reduceToNat, Nat.zero_le, Nat.reduceLT, r_0, r_1, r_2, r_3, r_4, r_5, r_6, r_7, r_9, r_10, r_11, r_12, r_13, r_14, r_15, r_16, r_17, r_18, r_19, r_20_0, r_21_0, r_20_1, r_21_1, r_20_2, r_21_2, r_20_3, r_21_3, r_20_4, r_21_4, r_20_5, r_21_5, r_22_0, r_22_1, r_23, r_24, r_25, r_26, r_27, r_28, r_29, r_30_0, r_30_1, r_30_2, r_31, r_31b, r_32, r_33, r_33b, r_33c, r_34, r_34b, r_35, r_45, r_46, r_47_0, r_47_1, r_40, r_50, r_51, r_41_0, r_41_1, r_42, r_43, r_44, r_36_0, r_37_0, r_38_0, r_48_0, r_36_1, r_37_1, r_38_1, r_48_1, r_36_2, r_37_2, r_38_2, r_48_2, r_36_3, r_37_3, r_36_4, r_37_4, r_36_5, r_37_5, r_39, r_8, al_13, al_14, al_15, al_16, al_18, al_19, al_25, al_26, al_27, al_28, al_29, al_30, al_31, al_32, al_33, al_34, al_35, al_36, al_37, al_38, al_39, al_40, al_41, al_42, al_43, al_44, al_45, al_46, al_48, al_49, al_50, al_51, al_52, al_53, al_54, al_55, al_56, al_57, al_58, al_59, al_60, al_61, al_62, al_63, al_64, al_65, al_66, al_67, al_68, al_69, al_70, rf_0_0, rf_0_1, rf_0_2, rf_0_3, rf_0_4, rf_0_5, rf_0_6, rf_0_7, rf_0_8, rf_0_10, rf_0_11, rf_1_0, rf_1_1, rf_1_2, rf_2_0, rf_2_1, rf_2_2, rf_3_0, rf_3_1, rf_3_2, rf_4_0, rf_4_1, rf_4_2, rf_5_0, rf_5_1, rf_5_2, rf_6_0, rf_6_1, rf_7_0, rf_7_1, rf_8_0, rf_8_1, rf_8_5, rf_8_6, rf_8_7, rf_8_8, rf_8_9, rf_9_0, rf_10_0, rf_11_0, rf_12_0, rf_47_0, rf_47_1, rf_47_2, rf_47_3, rf_47_5, rf_47_6, rf_47_8, rf_47_10, rf_47_12, rf_47_14, rf_47_15, rf_47_16, rf_47_17, rf_47_18, rf_47_19, rf_47_20, rf_47_21, rf_47_22, rf_47_23, rf_47_24, rf_47_26, rf_47_27, rf_47_29, rf_17, rf_20, rf_21, rf_22, rf_23, rf_24, rl_17, rl_20, rl_21, rl_22, rl_23, rl_24, c1]
  by_cases h0 : ow T 0 = 0
  · rw [if_neg (fun q => q h0)]
    refine ⟨?_, f1, m1⟩
    unfold fwS
    rw [if_pos h0]
  · rw [if_pos h0]
    exact c_few1 hI h0 (fun μ' f m => ⟨rfl, f, m⟩) (ne T) 0 μ1 (by omega) f1 m1 rfl
