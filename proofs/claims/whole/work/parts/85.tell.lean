/-- the first place of n whose sign cannot stand there -/
def fcN (vf : Int → Int → Int) (P : Nat) (s : Int → Int) : Nat → Int
  | 0 => -1
  | n + 1 => if fcN vf P s n = -1 then (if vf ((n % P : Nat) : Int) (s n) = -1 then n else -1) else fcN vf P s n
theorem fcN_up {vf : Int → Int → Int} {P : Nat} {s : Int → Int} {n : Nat} {x : Int} (h : fcN vf P s n = x) (hx : x ≠ -1) : ∀ d : Nat, fcN vf P s (n + d) = x
  | 0 => h
  | d + 1 => by
    have ih := fcN_up h hx d
    rw [← Nat.add_assoc, fcN, if_neg (by rw [ih]; exact hx)]
    exact ih
/-- the fault of a text; how many rows it tells -/
def fcF (vf : Int → Int → Int) (P : Nat) (s : Int → Int) (n : Nat) : Int := if fcN vf P s n ≠ -1 then fcN vf P s n else if n = 0 ∨ n % P = P - 1 then -1 else n
def fcC (vf : Int → Int → Int) (P : Nat) (s : Int → Int) (n : Nat) : Int := if fcF vf P s n = -1 then (((n + 1) / P : Nat) : Int) else 0
def FTX (x t lo hi : Int) (μ ν : MMem) : Prop := (∀ a, a ≠ x → a ≠ t → (a < lo ∨ hi < a) → ν a = μ a) ∧ ∀ j, j ≠ 3 → ν x j = μ x j
theorem fcN_in (vf : Int → Int → Int) (P : Nat) (s : Int → Int) : ∀ n : Nat, fcN vf P s n = -1 ∨ (0 ≤ fcN vf P s n ∧ fcN vf P s n < n)
  | 0 => Or.inl rfl
  | n + 1 => by
    have := fcN_in vf P s n
    rw [fcN]
    grind
theorem fcN_ok {vf : Int → Int → Int} {P : Nat} {s : Int → Int} : ∀ {n : Nat}, fcN vf P s n = -1 → ∀ j : Nat, j < n → vf ((j % P : Nat) : Int) (s j) ≠ -1
  | 0, _, j, hj => by omega
  | n + 1, h, j, hj => by
    rw [fcN] at h
    by_cases e : fcN vf P s n = -1
    · rw [if_pos e] at h
      by_cases q : j = n
      · rw [q]
        intro z
        rw [if_pos z] at h
        omega
      · exact fcN_ok e j (by omega)
    · rw [if_neg e] at h
      exact absurd h e
def RWH (ν : MMem) (s : Int → Int) (i : Nat) : Prop := ∀ r c : Nat, c < 2 → 3 * r + c < i → ν (25 + (c : Int)) (r : Int) = hvS (c : Int) (s ((3 * r + c : Nat) : Int))
/-- what the text tells stands in its table -/
def TXH (μ μ' : MMem) (n : Nat) : Prop := μ' 6 3 = fcF hvS 3 (μ 40) n ∧ μ' 1 3 = fcC hvS 3 (μ 40) n ∧ (fcF hvS 3 (μ 40) n = -1 → RWH μ' (μ 40) n) ∧ FTX 6 1 25 26 μ μ'
theorem c_tellHL {μ : MMem} {n : Nat} (hn : n ≤ 17) (h2 : μ 6 2 = n) (hs : ∀ i, 0 ≤ i → i < (n : Int) → 0 ≤ μ 40 i ∧ μ 40 i < 256) {Q : MVal → MMem → Prop} (h : ∀ μ', TXH μ μ' n → Q (14, 0) μ') : ∀ (d r c : Nat) (ν : MMem) (u w : MVal), 3 * r + c + d = n → c ≤ 2 → FTX 6 1 25 26 μ ν → ν 1 3 = 0 → RWH ν (μ 40) (3 * r + c) → fcN hvS 3 (μ 40) (3 * r + c) = -1 → At 24 1 [(5, 6), (0, (r : Int)), (0, (c : Int)), (0, ((3 * r + c : Nat) : Int)), u, w] [] ν Q := by
  intro d
  induction d with
  | zero =>
    intro r c ν u w hb hc hF h0 hR hf
    have e : 3 * r + c = n := by omega
    rw [e] at hR hf ⊢
    have e2 : ν 6 2 = n := by rw [hF.2 2 (by decide)]; exact h2
    have hmod : n % 3 = c := by omega
    have hdiv : (n + 1) / 3 = if c = 2 then r + 1 else r := by split <;> omega
    have hF1 : ∀ x y : Int, FTX 6 1 25 26 μ (m_w (m_w ν 6 3 x) 1 3 y) := fun x y => ⟨fun a q1 q2 q3 => by rw [mw_ne q2, mw_ne q1]; exact hF.1 a q1 q2 q3, fun j hj => by rw [mw_ne (by decide), mw_at, if_neg hj]; exact hF.2 j hj⟩
    have hR1 : ∀ x y : Int, RWH (m_w (m_w ν 6 3 x) 1 3 y) (μ 40) n := fun x y r' c' q1 q2 => by
      rw [mw_ne (by omega), mw_ne (by omega)]
      exact hR r' c' q1 q2
    by_cases hz : n = 0 ∨ c = 2
    · have eF : fcF hvS 3 (μ 40) n = -1 := by
        unfold fcF
        rw [if_neg (fun q => q hf), if_pos (by omega)]
      have eC : fcC hvS 3 (μ 40) n = if 0 < n then (r : Int) + 1 else 0 := by
        unfold fcC
        rw [if_pos eF, hdiv]
        rcases hz with hz | hz
        · rw [if_neg (by omega), if_neg (by omega)]
          omega
        · rw [if_pos hz, if_pos (by omega)]
          rfl
      have hq := h (m_w (m_w ν 6 3 (-1)) 1 3 (if 0 < n then (r : Int) + 1 else 0)) ⟨by rw [mw_ne (by decide), mw_at, if_pos rfl, eF], by rw [mw_at, if_pos rfl, eC], fun _ => hR1 _ _, hF1 _ _⟩
      have hw : ∀ x : Int, m_w ν 6 3 x 6 2 = n := fun x => by rw [mw_at, if_neg (by decide)]; exact e2
      rw [t24_1]
      simp only [t24_0, t24_2, t24_3, t24_4, t24_5, t24_6, t24_7, t24_8, t24_9, t24_10, t24_11, t24_12, t24_13, t24_14, t24_15, t24_16, t24_17, B24_0, B24_1, B24_2, B24_3, B24_4, B24_5, B24_6, B24_7, B24_8, B24_9, B24_10, B24_11, B24_12, B24_13, B24_14, B24_15, B24_16, B24_17, Classical.not_not, Prod.mk.injEq, m_l, m_lp, m_lq, m_ps, m_ws, m_en, List.replicate, if_true, if_false, reduceIte, true_and, and_true, false_and, and_false, true_or, or_true, false_or, or_false, and_self, or_self, not_true_eq_false, not_false_eq_true, ne_eq, Nat.reduceLeDiff, Nat.reduceEqDiff, Nat.reduceAdd, Int.reduceLE, Int.reduceLT, Int.reduceEq, Int.reduceNe, Int.reduceAdd, Int.reduceNeg, Nat.reduceSub, Nat.succ_ne_zero, Nat.not_succ_le_zero, Nat.reduceMul, Int.reduceMul, Int.reduceSub, Int.reduceToNat, Nat.zero_le, Nat.reduceLT, r_0, r_1, r_2, r_3, r_4, r_5, r_6, r_7, r_9, r_10, r_11, r_12, r_13, r_14, r_15, r_16, r_17, r_18, r_19, r_20_0, r_21_0, r_20_1, r_21_1, r_20_2, r_21_2, r_20_3, r_21_3, r_20_4, r_21_4, r_20_5, r_21_5, r_22_0, r_22_1, r_23, r_24, r_25, r_26, r_27, r_28, r_29, r_30_0, r_30_1, r_30_2, r_31, r_31b, r_32, r_33, r_33b, r_33c, r_34, r_34b, r_35, r_45, r_46, r_47_0, r_47_1, r_40, r_50, r_51, r_41_0, r_41_1, r_42, r_43, r_44, r_36_0, r_37_0, r_38_0, r_48_0, r_36_1, r_37_1, r_38_1, r_48_1, r_36_2, r_37_2, r_38_2, r_48_2, r_36_3, r_37_3, r_36_4, r_37_4, r_36_5, r_37_5, r_39, r_8, al_13, al_14, al_15, al_16, al_18, al_19, al_25, al_26, al_27, al_28, al_29, al_30, al_31, al_32, al_33, al_34, al_35, al_36, al_37, al_38, al_39, al_40, al_41, al_42, al_43, al_44, al_45, al_46, al_48, al_49, al_50, al_51, al_52, al_53, al_54, al_55, al_56, al_57, al_58, al_59, al_60, al_61, al_62, al_63, al_64, al_65, al_66, al_67, al_68, al_69, al_70, rf_0_0, rf_0_1, rf_0_2, rf_0_3, rf_0_4, rf_0_5, rf_0_6, rf_0_7, rf_0_8, rf_0_10, rf_0_11, rf_1_0, rf_1_1, rf_1_2, rf_2_0, rf_2_1, rf_2_2, rf_3_0, rf_3_1, rf_3_2, rf_4_0, rf_4_1, rf_4_2, rf_5_0, rf_5_1, rf_5_2, rf_6_0, rf_6_1, rf_7_0, rf_7_1, rf_8_0, rf_8_1, rf_8_5, rf_8_6, rf_8_7, rf_8_8, rf_8_9, rf_9_0, rf_10_0, rf_11_0, rf_12_0, rf_47_0, rf_47_1, rf_47_2, rf_47_3, rf_47_5, rf_47_6, rf_47_8, rf_47_10, rf_47_12, rf_47_14, rf_47_15, rf_47_16, rf_47_17, rf_47_18, rf_47_19, rf_47_20, rf_47_21, rf_47_22, rf_47_23, rf_47_24, rf_47_26, rf_47_27, rf_47_29, rf_17, rf_20, rf_21, rf_22, rf_23, rf_24, rl_17, rl_20, rl_21, rl_22, rl_23, rl_24, e2, hw]
      rw [m_i0 (by omega) (by omega)]
      rw [if_pos (by omega)]
      by_cases q0 : n = 0
      · rw [if_neg (by omega)] at hq
        rw [if_pos (by omega), if_pos (by omega)]
        exact hq
      · rw [if_pos (by omega)] at hq
        rw [if_neg (by omega), if_neg (by omega), if_neg (by omega)]
        exact hq
    · have eF : fcF hvS 3 (μ 40) n = n := by
        unfold fcF
        rw [if_neg (fun q => q hf), if_neg (by omega)]
      have eC : fcC hvS 3 (μ 40) n = 0 := by
        unfold fcC
        rw [if_neg (by omega)]
      have hq := h (m_w (m_w ν 6 3 n) 1 3 0) ⟨by rw [mw_ne (by decide), mw_at, if_pos rfl, eF], by rw [mw_at, if_pos rfl, eC], fun _ => hR1 _ _, hF1 _ _⟩
      rw [t24_1]
      simp only [t24_0, t24_2, t24_3, t24_4, t24_5, t24_6, t24_7, t24_8, t24_9, t24_10, t24_11, t24_12, t24_13, t24_14, t24_15, t24_16, t24_17, B24_0, B24_1, B24_2, B24_3, B24_4, B24_5, B24_6, B24_7, B24_8, B24_9, B24_10, B24_11, B24_12, B24_13, B24_14, B24_15, B24_16, B24_17, Classical.not_not, Prod.mk.injEq, m_l, m_lp, m_lq, m_ps, m_ws, m_en, List.replicate, if_true, if_false, reduceIte, true_and, and_true, false_and, and_false, true_or, or_true, false_or, or_false, and_self, or_self, not_true_eq_false, not_false_eq_true, ne_eq, Nat.reduceLeDiff, Nat.reduceEqDiff, Nat.reduceAdd, Int.reduceLE, Int.reduceLT, Int.reduceEq, Int.reduceNe, Int.reduceAdd, Int.reduceNeg, Nat.reduceSub, Nat.succ_ne_zero, Nat.not_succ_le_zero, Nat.reduceMul, Int.reduceMul, Int.reduceSub, Int.reduceToNat, Nat.zero_le, Nat.reduceLT, r_0, r_1, r_2, r_3, r_4, r_5, r_6, r_7, r_9, r_10, r_11, r_12, r_13, r_14, r_15, r_16, r_17, r_18, r_19, r_20_0, r_21_0, r_20_1, r_21_1, r_20_2, r_21_2, r_20_3, r_21_3, r_20_4, r_21_4, r_20_5, r_21_5, r_22_0, r_22_1, r_23, r_24, r_25, r_26, r_27, r_28, r_29, r_30_0, r_30_1, r_30_2, r_31, r_31b, r_32, r_33, r_33b, r_33c, r_34, r_34b, r_35, r_45, r_46, r_47_0, r_47_1, r_40, r_50, r_51, r_41_0, r_41_1, r_42, r_43, r_44, r_36_0, r_37_0, r_38_0, r_48_0, r_36_1, r_37_1, r_38_1, r_48_1, r_36_2, r_37_2, r_38_2, r_48_2, r_36_3, r_37_3, r_36_4, r_37_4, r_36_5, r_37_5, r_39, r_8, al_13, al_14, al_15, al_16, al_18, al_19, al_25, al_26, al_27, al_28, al_29, al_30, al_31, al_32, al_33, al_34, al_35, al_36, al_37, al_38, al_39, al_40, al_41, al_42, al_43, al_44, al_45, al_46, al_48, al_49, al_50, al_51, al_52, al_53, al_54, al_55, al_56, al_57, al_58, al_59, al_60, al_61, al_62, al_63, al_64, al_65, al_66, al_67, al_68, al_69, al_70, rf_0_0, rf_0_1, rf_0_2, rf_0_3, rf_0_4, rf_0_5, rf_0_6, rf_0_7, rf_0_8, rf_0_10, rf_0_11, rf_1_0, rf_1_1, rf_1_2, rf_2_0, rf_2_1, rf_2_2, rf_3_0, rf_3_1, rf_3_2, rf_4_0, rf_4_1, rf_4_2, rf_5_0, rf_5_1, rf_5_2, rf_6_0, rf_6_1, rf_7_0, rf_7_1, rf_8_0, rf_8_1, rf_8_5, rf_8_6, rf_8_7, rf_8_8, rf_8_9, rf_9_0, rf_10_0, rf_11_0, rf_12_0, rf_47_0, rf_47_1, rf_47_2, rf_47_3, rf_47_5, rf_47_6, rf_47_8, rf_47_10, rf_47_12, rf_47_14, rf_47_15, rf_47_16, rf_47_17, rf_47_18, rf_47_19, rf_47_20, rf_47_21, rf_47_22, rf_47_23, rf_47_24, rf_47_26, rf_47_27, rf_47_29, rf_17, rf_20, rf_21, rf_22, rf_23, rf_24, rl_17, rl_20, rl_21, rl_22, rl_23, rl_24, e2]
      rw [if_pos (by omega), if_neg (by omega), if_pos (by omega)]
      exact hq
  | succ d ih =>
    intro r c ν u w hb hc hF h0 hR hf
    have e2 : ν 6 2 = n := by rw [hF.2 2 (by decide)]; exact h2
    have es : ν 40 = μ 40 := hF.1 40 (by decide) (by decide) (by decide)
    have hmod : (3 * r + c) % 3 = c := by omega
    have hsi := hs ((3 * r + c : Nat) : Int) (by omega) (by omega)
    have hN : fcN hvS 3 (μ 40) (3 * r + c + 1) = if hvS (c : Int) (μ 40 ((3 * r + c : Nat) : Int)) = -1 then ((3 * r + c : Nat) : Int) else -1 := by
      rw [fcN, if_pos hf, hmod]
    have hbad : hvS (c : Int) (μ 40 ((3 * r + c : Nat) : Int)) = -1 → Q (14, 0) (m_w ν 6 3 ((3 * r + c : Nat) : Int)) := fun q => by
      rw [if_pos q] at hN
      have e3 : fcN hvS 3 (μ 40) n = ((3 * r + c : Nat) : Int) := by
        have := fcN_up hN (by omega) d
        rw [show 3 * r + c + 1 + d = n by omega] at this
        exact this
      have eF : fcF hvS 3 (μ 40) n = ((3 * r + c : Nat) : Int) := by
        unfold fcF
        rw [e3, if_pos (by omega)]
      have eC : fcC hvS 3 (μ 40) n = 0 := by
        unfold fcC
        rw [if_neg (by omega)]
      refine h _ ⟨by rw [mw_at, if_pos rfl, eF], by rw [mw_ne (by decide), h0, eC], fun q => by omega, ?_⟩
      exact ⟨fun a q1 q2 q3 => by rw [mw_ne q1]; exact hF.1 a q1 q2 q3, fun j hj => by rw [mw_at, if_neg hj]; exact hF.2 j hj⟩
    by_cases hk : c = 2
    · subst hk
      have i1 := fun (z : ¬ hvS ((2 : Nat) : Int) (μ 40 ((3 * r + 2 : Nat) : Int)) = -1) (u' w' : MVal) => ih (r + 1) 0 ν u' w' (by omega) (by omega) hF h0 (fun r' c' q1 q2 => hR r' c' q1 (by omega)) (by rw [show 3 * (r + 1) + 0 = 3 * r + 2 + 1 by omega, hN, if_neg z])
      have ep := c_placeAmong (μ 40 ((3 * r + 2 : Nat) : Int)) 59 1 hsi (by decide) ν
      have ev : hvS ((2 : Nat) : Int) (μ 40 ((3 * r + 2 : Nat) : Int)) = if 0 ≤ μ 40 ((3 * r + 2 : Nat) : Int) - 59 ∧ μ 40 ((3 * r + 2 : Nat) : Int) - 59 < 1 then μ 40 ((3 * r + 2 : Nat) : Int) - 59 else -1 := by
        unfold hvS
        generalize μ 40 ((3 * r + 2 : Nat) : Int) = x
        grind
      rw [← ev] at ep
      rw [t24_1]
      simp only [t24_0, t24_2, t24_3, t24_4, t24_5, t24_6, t24_7, t24_8, t24_9, t24_10, t24_11, t24_12, t24_13, t24_14, t24_15, t24_16, t24_17, B24_0, B24_1, B24_2, B24_3, B24_4, B24_5, B24_6, B24_7, B24_8, B24_9, B24_10, B24_11, B24_12, B24_13, B24_14, B24_15, B24_16, B24_17, Classical.not_not, Prod.mk.injEq, m_l, m_lp, m_lq, m_ps, m_ws, m_en, List.replicate, if_true, if_false, reduceIte, true_and, and_true, false_and, and_false, true_or, or_true, false_or, or_false, and_self, or_self, not_true_eq_false, not_false_eq_true, ne_eq, Nat.reduceLeDiff, Nat.reduceEqDiff, Nat.reduceAdd, Int.reduceLE, Int.reduceLT, Int.reduceEq, Int.reduceNe, Int.reduceAdd, Int.reduceNeg, Nat.reduceSub, Nat.succ_ne_zero, Nat.not_succ_le_zero, Nat.reduceMul, Int.reduceMul, Int.reduceSub, Int.reduceToNat, Nat.zero_le, Nat.reduceLT, r_0, r_1, r_2, r_3, r_4, r_5, r_6, r_7, r_9, r_10, r_11, r_12, r_13, r_14, r_15, r_16, r_17, r_18, r_19, r_20_0, r_21_0, r_20_1, r_21_1, r_20_2, r_21_2, r_20_3, r_21_3, r_20_4, r_21_4, r_20_5, r_21_5, r_22_0, r_22_1, r_23, r_24, r_25, r_26, r_27, r_28, r_29, r_30_0, r_30_1, r_30_2, r_31, r_31b, r_32, r_33, r_33b, r_33c, r_34, r_34b, r_35, r_45, r_46, r_47_0, r_47_1, r_40, r_50, r_51, r_41_0, r_41_1, r_42, r_43, r_44, r_36_0, r_37_0, r_38_0, r_48_0, r_36_1, r_37_1, r_38_1, r_48_1, r_36_2, r_37_2, r_38_2, r_48_2, r_36_3, r_37_3, r_36_4, r_37_4, r_36_5, r_37_5, r_39, r_8, al_13, al_14, al_15, al_16, al_18, al_19, al_25, al_26, al_27, al_28, al_29, al_30, al_31, al_32, al_33, al_34, al_35, al_36, al_37, al_38, al_39, al_40, al_41, al_42, al_43, al_44, al_45, al_46, al_48, al_49, al_50, al_51, al_52, al_53, al_54, al_55, al_56, al_57, al_58, al_59, al_60, al_61, al_62, al_63, al_64, al_65, al_66, al_67, al_68, al_69, al_70, rf_0_0, rf_0_1, rf_0_2, rf_0_3, rf_0_4, rf_0_5, rf_0_6, rf_0_7, rf_0_8, rf_0_10, rf_0_11, rf_1_0, rf_1_1, rf_1_2, rf_2_0, rf_2_1, rf_2_2, rf_3_0, rf_3_1, rf_3_2, rf_4_0, rf_4_1, rf_4_2, rf_5_0, rf_5_1, rf_5_2, rf_6_0, rf_6_1, rf_7_0, rf_7_1, rf_8_0, rf_8_1, rf_8_5, rf_8_6, rf_8_7, rf_8_8, rf_8_9, rf_9_0, rf_10_0, rf_11_0, rf_12_0, rf_47_0, rf_47_1, rf_47_2, rf_47_3, rf_47_5, rf_47_6, rf_47_8, rf_47_10, rf_47_12, rf_47_14, rf_47_15, rf_47_16, rf_47_17, rf_47_18, rf_47_19, rf_47_20, rf_47_21, rf_47_22, rf_47_23, rf_47_24, rf_47_26, rf_47_27, rf_47_29, rf_17, rf_20, rf_21, rf_22, rf_23, rf_24, rl_17, rl_20, rl_21, rl_22, rl_23, rl_24, e2, es, ep, show (((2 : Nat) : Int) = 2) = True from eq_true rfl]
      rw [if_neg (by omega)]
      generalize hv : hvS ((2 : Nat) : Int) (μ 40 ((3 * r + 2 : Nat) : Int)) = v at *
      refine ⟨⟨by omega, by omega⟩, ?_⟩
      by_cases q : v = -1
      · rw [if_pos q]
        exact hbad q
      · rw [if_neg q, if_pos (by omega), m_i0 (by omega) (by omega), m_i0 (by omega) (by omega)]
        have := i1 q (0, 1) (0, v)
        rw [show (((3 * (r + 1) + 0 : Nat)) : Int) = ((3 * r + 2 : Nat) : Int) + 1 by omega] at this
        push_cast at this ⊢
        exact this
    · have hc2 : c < 2 := by omega
      have i1 := fun (z : ¬ hvS (c : Int) (μ 40 ((3 * r + c : Nat) : Int)) = -1) (u' w' : MVal) => ih r (c + 1) (m_w ν (25 + (c : Int)) (r : Int) (hvS (c : Int) (μ 40 ((3 * r + c : Nat) : Int)))) u' w' (by omega) (by omega) ?_ ?_ ?_ (by rw [← Nat.add_assoc, hN, if_neg z])
      rotate_left
      · exact ⟨fun a q1 q2 q3 => by rw [mw_ne (by omega)]; exact hF.1 a q1 q2 q3, fun j hj => by rw [mw_ne (by omega)]; exact hF.2 j hj⟩
      · rw [mw_ne (by omega)]; exact h0
      · intro r' c' q1 q2
        unfold m_w
        by_cases q : r' = r ∧ c' = c
        · obtain ⟨rfl, rfl⟩ := q
          rw [if_pos ⟨rfl, rfl⟩]
        · rw [if_neg (by omega)]
          exact hR r' c' q1 (by omega)
      have ep := c_valueH (c : Int) (μ 40 ((3 * r + c : Nat) : Int)) (by omega) hsi ν
      have ne2 : ¬ ((c : Int) = 2) := by omega
      have ha : m_al (25 + (c : Int)) = 6 := by
        have : c = 0 ∨ c = 1 := by omega
        rcases this with rfl | rfl <;> rfl
      rw [t24_1]
      simp only [t24_0, t24_2, t24_3, t24_4, t24_5, t24_6, t24_7, t24_8, t24_9, t24_10, t24_11, t24_12, t24_13, t24_14, t24_15, t24_16, t24_17, B24_0, B24_1, B24_2, B24_3, B24_4, B24_5, B24_6, B24_7, B24_8, B24_9, B24_10, B24_11, B24_12, B24_13, B24_14, B24_15, B24_16, B24_17, Classical.not_not, Prod.mk.injEq, m_l, m_lp, m_lq, m_ps, m_ws, m_en, List.replicate, if_true, if_false, reduceIte, true_and, and_true, false_and, and_false, true_or, or_true, false_or, or_false, and_self, or_self, not_true_eq_false, not_false_eq_true, ne_eq, Nat.reduceLeDiff, Nat.reduceEqDiff, Nat.reduceAdd, Int.reduceLE, Int.reduceLT, Int.reduceEq, Int.reduceNe, Int.reduceAdd, Int.reduceNeg, Nat.reduceSub, Nat.succ_ne_zero, Nat.not_succ_le_zero, Nat.reduceMul, Int.reduceMul, Int.reduceSub, Int.reduceToNat, Nat.zero_le, Nat.reduceLT, r_0, r_1, r_2, r_3, r_4, r_5, r_6, r_7, r_9, r_10, r_11, r_12, r_13, r_14, r_15, r_16, r_17, r_18, r_19, r_20_0, r_21_0, r_20_1, r_21_1, r_20_2, r_21_2, r_20_3, r_21_3, r_20_4, r_21_4, r_20_5, r_21_5, r_22_0, r_22_1, r_23, r_24, r_25, r_26, r_27, r_28, r_29, r_30_0, r_30_1, r_30_2, r_31, r_31b, r_32, r_33, r_33b, r_33c, r_34, r_34b, r_35, r_45, r_46, r_47_0, r_47_1, r_40, r_50, r_51, r_41_0, r_41_1, r_42, r_43, r_44, r_36_0, r_37_0, r_38_0, r_48_0, r_36_1, r_37_1, r_38_1, r_48_1, r_36_2, r_37_2, r_38_2, r_48_2, r_36_3, r_37_3, r_36_4, r_37_4, r_36_5, r_37_5, r_39, r_8, al_13, al_14, al_15, al_16, al_18, al_19, al_25, al_26, al_27, al_28, al_29, al_30, al_31, al_32, al_33, al_34, al_35, al_36, al_37, al_38, al_39, al_40, al_41, al_42, al_43, al_44, al_45, al_46, al_48, al_49, al_50, al_51, al_52, al_53, al_54, al_55, al_56, al_57, al_58, al_59, al_60, al_61, al_62, al_63, al_64, al_65, al_66, al_67, al_68, al_69, al_70, rf_0_0, rf_0_1, rf_0_2, rf_0_3, rf_0_4, rf_0_5, rf_0_6, rf_0_7, rf_0_8, rf_0_10, rf_0_11, rf_1_0, rf_1_1, rf_1_2, rf_2_0, rf_2_1, rf_2_2, rf_3_0, rf_3_1, rf_3_2, rf_4_0, rf_4_1, rf_4_2, rf_5_0, rf_5_1, rf_5_2, rf_6_0, rf_6_1, rf_7_0, rf_7_1, rf_8_0, rf_8_1, rf_8_5, rf_8_6, rf_8_7, rf_8_8, rf_8_9, rf_9_0, rf_10_0, rf_11_0, rf_12_0, rf_47_0, rf_47_1, rf_47_2, rf_47_3, rf_47_5, rf_47_6, rf_47_8, rf_47_10, rf_47_12, rf_47_14, rf_47_15, rf_47_16, rf_47_17, rf_47_18, rf_47_19, rf_47_20, rf_47_21, rf_47_22, rf_47_23, rf_47_24, rf_47_26, rf_47_27, rf_47_29, rf_17, rf_20, rf_21, rf_22, rf_23, rf_24, rl_17, rl_20, rl_21, rl_22, rl_23, rl_24, e2, es, ep, ne2, ha]
      rw [if_neg (by omega)]
      generalize hv : hvS (c : Int) (μ 40 ((3 * r + c : Nat) : Int)) = v at *
      refine ⟨⟨by omega, by omega⟩, ?_⟩
      by_cases q : v = -1
      · rw [if_pos q]
        exact hbad q
      · rw [if_neg q, if_pos (by omega), m_i0 (by omega) (by omega), m_i0 (by omega) (by omega)]
        have := i1 q (0, 0) (0, v)
        push_cast at this ⊢
        rw [← Int.add_assoc] at this
        exact ⟨⟨by omega, by omega⟩, ⟨by omega, by omega⟩, this⟩
theorem c_tellH {μ : MMem} {n : Nat} (hn : n ≤ 17) (h2 : μ 6 2 = n) (hs : ∀ i, 0 ≤ i → i < (n : Int) → 0 ≤ μ 40 i ∧ μ 40 i < 256) : ∃ μ' : MMem, TXH μ μ' n ∧ ∀ Q : MVal → MMem → Prop, Cal 24 [(5, 6)] μ Q = Q (14, 0) μ' := by
  refine cal_ex (P := fun μ' => TXH μ μ' n) rfl ?_
  show Rn 24 B24_0 [(5, 6), (14, 0), (14, 0), (14, 0), (14, 0), (14, 0)] [] μ _
  simp only [t24_0, t24_2, t24_3, t24_4, t24_5, t24_6, t24_7, t24_8, t24_9, t24_10, t24_11, t24_12, t24_13, t24_14, t24_15, t24_16, t24_17, B24_0, B24_1, B24_2, B24_3, B24_4, B24_5, B24_6, B24_7, B24_8, B24_9, B24_10, B24_11, B24_12, B24_13, B24_14, B24_15, B24_16, B24_17, Classical.not_not, Prod.mk.injEq, m_l, m_lp, m_lq, m_ps, m_ws, m_en, List.replicate, if_true, if_false, reduceIte, true_and, and_true, false_and, and_false, true_or, or_true, false_or, or_false, and_self, or_self, not_true_eq_false, not_false_eq_true, ne_eq, Nat.reduceLeDiff, Nat.reduceEqDiff, Nat.reduceAdd, Int.reduceLE, Int.reduceLT, Int.reduceEq, Int.reduceNe, Int.reduceAdd, Int.reduceNeg, Nat.reduceSub, Nat.succ_ne_zero, Nat.not_succ_le_zero, Nat.reduceMul, Int.reduceMul, Int.reduceSub, Int.reduceToNat, Nat.zero_le, Nat.reduceLT, r_0, r_1, r_2, r_3, r_4, r_5, r_6, r_7, r_9, r_10, r_11, r_12, r_13, r_14, r_15, r_16, r_17, r_18, r_19, r_20_0, r_21_0, r_20_1, r_21_1, r_20_2, r_21_2, r_20_3, r_21_3, r_20_4, r_21_4, r_20_5, r_21_5, r_22_0, r_22_1, r_23, r_24, r_25, r_26, r_27, r_28, r_29, r_30_0, r_30_1, r_30_2, r_31, r_31b, r_32, r_33, r_33b, r_33c, r_34, r_34b, r_35, r_45, r_46, r_47_0, r_47_1, r_40, r_50, r_51, r_41_0, r_41_1, r_42, r_43, r_44, r_36_0, r_37_0, r_38_0, r_48_0, r_36_1, r_37_1, r_38_1, r_48_1, r_36_2, r_37_2, r_38_2, r_48_2, r_36_3, r_37_3, r_36_4, r_37_4, r_36_5, r_37_5, r_39, r_8, al_13, al_14, al_15, al_16, al_18, al_19, al_25, al_26, al_27, al_28, al_29, al_30, al_31, al_32, al_33, al_34, al_35, al_36, al_37, al_38, al_39, al_40, al_41, al_42, al_43, al_44, al_45, al_46, al_48, al_49, al_50, al_51, al_52, al_53, al_54, al_55, al_56, al_57, al_58, al_59, al_60, al_61, al_62, al_63, al_64, al_65, al_66, al_67, al_68, al_69, al_70, rf_0_0, rf_0_1, rf_0_2, rf_0_3, rf_0_4, rf_0_5, rf_0_6, rf_0_7, rf_0_8, rf_0_10, rf_0_11, rf_1_0, rf_1_1, rf_1_2, rf_2_0, rf_2_1, rf_2_2, rf_3_0, rf_3_1, rf_3_2, rf_4_0, rf_4_1, rf_4_2, rf_5_0, rf_5_1, rf_5_2, rf_6_0, rf_6_1, rf_7_0, rf_7_1, rf_8_0, rf_8_1, rf_8_5, rf_8_6, rf_8_7, rf_8_8, rf_8_9, rf_9_0, rf_10_0, rf_11_0, rf_12_0, rf_47_0, rf_47_1, rf_47_2, rf_47_3, rf_47_5, rf_47_6, rf_47_8, rf_47_10, rf_47_12, rf_47_14, rf_47_15, rf_47_16, rf_47_17, rf_47_18, rf_47_19, rf_47_20, rf_47_21, rf_47_22, rf_47_23, rf_47_24, rf_47_26, rf_47_27, rf_47_29, rf_17, rf_20, rf_21, rf_22, rf_23, rf_24, rl_17, rl_20, rl_21, rl_22, rl_23, rl_24]
  refine c_tellHL hn h2 hs (fun μ' q => ⟨rfl, q⟩) n 0 0 _ _ _ (by omega) (by omega) ⟨fun a q1 q2 q3 => mw_ne q2, fun j _ => by rw [mw_ne (by decide)]⟩ (by rw [mw_at, if_pos rfl]) (fun r' c' q1 q2 => by omega) rfl
def RWB (ν : MMem) (s : Int → Int) (i : Nat) : Prop := ∀ r c : Nat, c < 4 → 5 * r + c < i → ν (27 + (c : Int)) (r : Int) = bvS (c : Int) (s ((5 * r + c : Nat) : Int))
/-- what the text tells stands in its table -/
def TXB (μ μ' : MMem) (n : Nat) : Prop := μ' 7 3 = fcF bvS 5 (μ 41) n ∧ μ' 2 3 = fcC bvS 5 (μ 41) n ∧ (fcF bvS 5 (μ 41) n = -1 → RWB μ' (μ 41) n) ∧ FTX 7 2 27 30 μ μ'
theorem c_tellBL {μ : MMem} {n : Nat} (hn : n ≤ 39) (h2 : μ 7 2 = n) (hs : ∀ i, 0 ≤ i → i < (n : Int) → 0 ≤ μ 41 i ∧ μ 41 i < 256) {Q : MVal → MMem → Prop} (h : ∀ μ', TXB μ μ' n → Q (14, 0) μ') : ∀ (d r c : Nat) (ν : MMem) (u w : MVal), 5 * r + c + d = n → c ≤ 4 → FTX 7 2 27 30 μ ν → ν 2 3 = 0 → RWB ν (μ 41) (5 * r + c) → fcN bvS 5 (μ 41) (5 * r + c) = -1 → At 24 1 [(5, 7), (0, (r : Int)), (0, (c : Int)), (0, ((5 * r + c : Nat) : Int)), u, w] [] ν Q := by
  intro d
  induction d with
  | zero =>
    intro r c ν u w hb hc hF h0 hR hf
    have e : 5 * r + c = n := by omega
    rw [e] at hR hf ⊢
    have e2 : ν 7 2 = n := by rw [hF.2 2 (by decide)]; exact h2
    have hmod : n % 5 = c := by omega
    have hdiv : (n + 1) / 5 = if c = 4 then r + 1 else r := by split <;> omega
    have hF1 : ∀ x y : Int, FTX 7 2 27 30 μ (m_w (m_w ν 7 3 x) 2 3 y) := fun x y => ⟨fun a q1 q2 q3 => by rw [mw_ne q2, mw_ne q1]; exact hF.1 a q1 q2 q3, fun j hj => by rw [mw_ne (by decide), mw_at, if_neg hj]; exact hF.2 j hj⟩
    have hR1 : ∀ x y : Int, RWB (m_w (m_w ν 7 3 x) 2 3 y) (μ 41) n := fun x y r' c' q1 q2 => by
      rw [mw_ne (by omega), mw_ne (by omega)]
      exact hR r' c' q1 q2
    by_cases hz : n = 0 ∨ c = 4
    · have eF : fcF bvS 5 (μ 41) n = -1 := by
        unfold fcF
        rw [if_neg (fun q => q hf), if_pos (by omega)]
      have eC : fcC bvS 5 (μ 41) n = if 0 < n then (r : Int) + 1 else 0 := by
        unfold fcC
        rw [if_pos eF, hdiv]
        rcases hz with hz | hz
        · rw [if_neg (by omega), if_neg (by omega)]
          omega
        · rw [if_pos hz, if_pos (by omega)]
          rfl
      have hq := h (m_w (m_w ν 7 3 (-1)) 2 3 (if 0 < n then (r : Int) + 1 else 0)) ⟨by rw [mw_ne (by decide), mw_at, if_pos rfl, eF], by rw [mw_at, if_pos rfl, eC], fun _ => hR1 _ _, hF1 _ _⟩
      have hw : ∀ x : Int, m_w ν 7 3 x 7 2 = n := fun x => by rw [mw_at, if_neg (by decide)]; exact e2
      rw [t24_1]
      simp only [t24_0, t24_2, t24_3, t24_4, t24_5, t24_6, t24_7, t24_8, t24_9, t24_10, t24_11, t24_12, t24_13, t24_14, t24_15, t24_16, t24_17, B24_0, B24_1, B24_2, B24_3, B24_4, B24_5, B24_6, B24_7, B24_8, B24_9, B24_10, B24_11, B24_12, B24_13, B24_14, B24_15, B24_16, B24_17, Classical.not_not, Prod.mk.injEq, m_l, m_lp, m_lq, m_ps, m_ws, m_en, List.replicate, if_true, if_false, reduceIte, true_and, and_true, false_and, and_false, true_or, or_true, false_or, or_false, and_self, or_self, not_true_eq_false, not_false_eq_true, ne_eq, Nat.reduceLeDiff, Nat.reduceEqDiff, Nat.reduceAdd, Int.reduceLE, Int.reduceLT, Int.reduceEq, Int.reduceNe, Int.reduceAdd, Int.reduceNeg, Nat.reduceSub, Nat.succ_ne_zero, Nat.not_succ_le_zero, Nat.reduceMul, Int.reduceMul, Int.reduceSub, Int.reduceToNat, Nat.zero_le, Nat.reduceLT, r_0, r_1, r_2, r_3, r_4, r_5, r_6, r_7, r_9, r_10, r_11, r_12, r_13, r_14, r_15, r_16, r_17, r_18, r_19, r_20_0, r_21_0, r_20_1, r_21_1, r_20_2, r_21_2, r_20_3, r_21_3, r_20_4, r_21_4, r_20_5, r_21_5, r_22_0, r_22_1, r_23, r_24, r_25, r_26, r_27, r_28, r_29, r_30_0, r_30_1, r_30_2, r_31, r_31b, r_32, r_33, r_33b, r_33c, r_34, r_34b, r_35, r_45, r_46, r_47_0, r_47_1, r_40, r_50, r_51, r_41_0, r_41_1, r_42, r_43, r_44, r_36_0, r_37_0, r_38_0, r_48_0, r_36_1, r_37_1, r_38_1, r_48_1, r_36_2, r_37_2, r_38_2, r_48_2, r_36_3, r_37_3, r_36_4, r_37_4, r_36_5, r_37_5, r_39, r_8, al_13, al_14, al_15, al_16, al_18, al_19, al_25, al_26, al_27, al_28, al_29, al_30, al_31, al_32, al_33, al_34, al_35, al_36, al_37, al_38, al_39, al_40, al_41, al_42, al_43, al_44, al_45, al_46, al_48, al_49, al_50, al_51, al_52, al_53, al_54, al_55, al_56, al_57, al_58, al_59, al_60, al_61, al_62, al_63, al_64, al_65, al_66, al_67, al_68, al_69, al_70, rf_0_0, rf_0_1, rf_0_2, rf_0_3, rf_0_4, rf_0_5, rf_0_6, rf_0_7, rf_0_8, rf_0_10, rf_0_11, rf_1_0, rf_1_1, rf_1_2, rf_2_0, rf_2_1, rf_2_2, rf_3_0, rf_3_1, rf_3_2, rf_4_0, rf_4_1, rf_4_2, rf_5_0, rf_5_1, rf_5_2, rf_6_0, rf_6_1, rf_7_0, rf_7_1, rf_8_0, rf_8_1, rf_8_5, rf_8_6, rf_8_7, rf_8_8, rf_8_9, rf_9_0, rf_10_0, rf_11_0, rf_12_0, rf_47_0, rf_47_1, rf_47_2, rf_47_3, rf_47_5, rf_47_6, rf_47_8, rf_47_10, rf_47_12, rf_47_14, rf_47_15, rf_47_16, rf_47_17, rf_47_18, rf_47_19, rf_47_20, rf_47_21, rf_47_22, rf_47_23, rf_47_24, rf_47_26, rf_47_27, rf_47_29, rf_17, rf_20, rf_21, rf_22, rf_23, rf_24, rl_17, rl_20, rl_21, rl_22, rl_23, rl_24, e2, hw]
      rw [m_i0 (by omega) (by omega)]
      rw [if_pos (by omega)]
      by_cases q0 : n = 0
      · rw [if_neg (by omega)] at hq
        rw [if_pos (by omega), if_pos (by omega)]
        exact hq
      · rw [if_pos (by omega)] at hq
        rw [if_neg (by omega), if_neg (by omega), if_neg (by omega)]
        exact hq
    · have eF : fcF bvS 5 (μ 41) n = n := by
        unfold fcF
        rw [if_neg (fun q => q hf), if_neg (by omega)]
      have eC : fcC bvS 5 (μ 41) n = 0 := by
        unfold fcC
        rw [if_neg (by omega)]
      have hq := h (m_w (m_w ν 7 3 n) 2 3 0) ⟨by rw [mw_ne (by decide), mw_at, if_pos rfl, eF], by rw [mw_at, if_pos rfl, eC], fun _ => hR1 _ _, hF1 _ _⟩
      rw [t24_1]
      simp only [t24_0, t24_2, t24_3, t24_4, t24_5, t24_6, t24_7, t24_8, t24_9, t24_10, t24_11, t24_12, t24_13, t24_14, t24_15, t24_16, t24_17, B24_0, B24_1, B24_2, B24_3, B24_4, B24_5, B24_6, B24_7, B24_8, B24_9, B24_10, B24_11, B24_12, B24_13, B24_14, B24_15, B24_16, B24_17, Classical.not_not, Prod.mk.injEq, m_l, m_lp, m_lq, m_ps, m_ws, m_en, List.replicate, if_true, if_false, reduceIte, true_and, and_true, false_and, and_false, true_or, or_true, false_or, or_false, and_self, or_self, not_true_eq_false, not_false_eq_true, ne_eq, Nat.reduceLeDiff, Nat.reduceEqDiff, Nat.reduceAdd, Int.reduceLE, Int.reduceLT, Int.reduceEq, Int.reduceNe, Int.reduceAdd, Int.reduceNeg, Nat.reduceSub, Nat.succ_ne_zero, Nat.not_succ_le_zero, Nat.reduceMul, Int.reduceMul, Int.reduceSub, Int.reduceToNat, Nat.zero_le, Nat.reduceLT, r_0, r_1, r_2, r_3, r_4, r_5, r_6, r_7, r_9, r_10, r_11, r_12, r_13, r_14, r_15, r_16, r_17, r_18, r_19, r_20_0, r_21_0, r_20_1, r_21_1, r_20_2, r_21_2, r_20_3, r_21_3, r_20_4, r_21_4, r_20_5, r_21_5, r_22_0, r_22_1, r_23, r_24, r_25, r_26, r_27, r_28, r_29, r_30_0, r_30_1, r_30_2, r_31, r_31b, r_32, r_33, r_33b, r_33c, r_34, r_34b, r_35, r_45, r_46, r_47_0, r_47_1, r_40, r_50, r_51, r_41_0, r_41_1, r_42, r_43, r_44, r_36_0, r_37_0, r_38_0, r_48_0, r_36_1, r_37_1, r_38_1, r_48_1, r_36_2, r_37_2, r_38_2, r_48_2, r_36_3, r_37_3, r_36_4, r_37_4, r_36_5, r_37_5, r_39, r_8, al_13, al_14, al_15, al_16, al_18, al_19, al_25, al_26, al_27, al_28, al_29, al_30, al_31, al_32, al_33, al_34, al_35, al_36, al_37, al_38, al_39, al_40, al_41, al_42, al_43, al_44, al_45, al_46, al_48, al_49, al_50, al_51, al_52, al_53, al_54, al_55, al_56, al_57, al_58, al_59, al_60, al_61, al_62, al_63, al_64, al_65, al_66, al_67, al_68, al_69, al_70, rf_0_0, rf_0_1, rf_0_2, rf_0_3, rf_0_4, rf_0_5, rf_0_6, rf_0_7, rf_0_8, rf_0_10, rf_0_11, rf_1_0, rf_1_1, rf_1_2, rf_2_0, rf_2_1, rf_2_2, rf_3_0, rf_3_1, rf_3_2, rf_4_0, rf_4_1, rf_4_2, rf_5_0, rf_5_1, rf_5_2, rf_6_0, rf_6_1, rf_7_0, rf_7_1, rf_8_0, rf_8_1, rf_8_5, rf_8_6, rf_8_7, rf_8_8, rf_8_9, rf_9_0, rf_10_0, rf_11_0, rf_12_0, rf_47_0, rf_47_1, rf_47_2, rf_47_3, rf_47_5, rf_47_6, rf_47_8, rf_47_10, rf_47_12, rf_47_14, rf_47_15, rf_47_16, rf_47_17, rf_47_18, rf_47_19, rf_47_20, rf_47_21, rf_47_22, rf_47_23, rf_47_24, rf_47_26, rf_47_27, rf_47_29, rf_17, rf_20, rf_21, rf_22, rf_23, rf_24, rl_17, rl_20, rl_21, rl_22, rl_23, rl_24, e2]
      rw [if_pos (by omega), if_neg (by omega), if_pos (by omega)]
      exact hq
  | succ d ih =>
    intro r c ν u w hb hc hF h0 hR hf
    have e2 : ν 7 2 = n := by rw [hF.2 2 (by decide)]; exact h2
    have es : ν 41 = μ 41 := hF.1 41 (by decide) (by decide) (by decide)
    have hmod : (5 * r + c) % 5 = c := by omega
    have hsi := hs ((5 * r + c : Nat) : Int) (by omega) (by omega)
    have hN : fcN bvS 5 (μ 41) (5 * r + c + 1) = if bvS (c : Int) (μ 41 ((5 * r + c : Nat) : Int)) = -1 then ((5 * r + c : Nat) : Int) else -1 := by
      rw [fcN, if_pos hf, hmod]
    have hbad : bvS (c : Int) (μ 41 ((5 * r + c : Nat) : Int)) = -1 → Q (14, 0) (m_w ν 7 3 ((5 * r + c : Nat) : Int)) := fun q => by
      rw [if_pos q] at hN
      have e3 : fcN bvS 5 (μ 41) n = ((5 * r + c : Nat) : Int) := by
        have := fcN_up hN (by omega) d
        rw [show 5 * r + c + 1 + d = n by omega] at this
        exact this
      have eF : fcF bvS 5 (μ 41) n = ((5 * r + c : Nat) : Int) := by
        unfold fcF
        rw [e3, if_pos (by omega)]
      have eC : fcC bvS 5 (μ 41) n = 0 := by
        unfold fcC
        rw [if_neg (by omega)]
      refine h _ ⟨by rw [mw_at, if_pos rfl, eF], by rw [mw_ne (by decide), h0, eC], fun q => by omega, ?_⟩
      exact ⟨fun a q1 q2 q3 => by rw [mw_ne q1]; exact hF.1 a q1 q2 q3, fun j hj => by rw [mw_at, if_neg hj]; exact hF.2 j hj⟩
    by_cases hk : c = 4
    · subst hk
      have i1 := fun (z : ¬ bvS ((4 : Nat) : Int) (μ 41 ((5 * r + 4 : Nat) : Int)) = -1) (u' w' : MVal) => ih (r + 1) 0 ν u' w' (by omega) (by omega) hF h0 (fun r' c' q1 q2 => hR r' c' q1 (by omega)) (by rw [show 5 * (r + 1) + 0 = 5 * r + 4 + 1 by omega, hN, if_neg z])
      have ep := c_placeAmong (μ 41 ((5 * r + 4 : Nat) : Int)) 59 1 hsi (by decide) ν
      have ev : bvS ((4 : Nat) : Int) (μ 41 ((5 * r + 4 : Nat) : Int)) = if 0 ≤ μ 41 ((5 * r + 4 : Nat) : Int) - 59 ∧ μ 41 ((5 * r + 4 : Nat) : Int) - 59 < 1 then μ 41 ((5 * r + 4 : Nat) : Int) - 59 else -1 := by
        unfold bvS
        generalize μ 41 ((5 * r + 4 : Nat) : Int) = x
        grind
      rw [← ev] at ep
      rw [t24_1]
      simp only [t24_0, t24_2, t24_3, t24_4, t24_5, t24_6, t24_7, t24_8, t24_9, t24_10, t24_11, t24_12, t24_13, t24_14, t24_15, t24_16, t24_17, B24_0, B24_1, B24_2, B24_3, B24_4, B24_5, B24_6, B24_7, B24_8, B24_9, B24_10, B24_11, B24_12, B24_13, B24_14, B24_15, B24_16, B24_17, Classical.not_not, Prod.mk.injEq, m_l, m_lp, m_lq, m_ps, m_ws, m_en, List.replicate, if_true, if_false, reduceIte, true_and, and_true, false_and, and_false, true_or, or_true, false_or, or_false, and_self, or_self, not_true_eq_false, not_false_eq_true, ne_eq, Nat.reduceLeDiff, Nat.reduceEqDiff, Nat.reduceAdd, Int.reduceLE, Int.reduceLT, Int.reduceEq, Int.reduceNe, Int.reduceAdd, Int.reduceNeg, Nat.reduceSub, Nat.succ_ne_zero, Nat.not_succ_le_zero, Nat.reduceMul, Int.reduceMul, Int.reduceSub, Int.reduceToNat, Nat.zero_le, Nat.reduceLT, r_0, r_1, r_2, r_3, r_4, r_5, r_6, r_7, r_9, r_10, r_11, r_12, r_13, r_14, r_15, r_16, r_17, r_18, r_19, r_20_0, r_21_0, r_20_1, r_21_1, r_20_2, r_21_2, r_20_3, r_21_3, r_20_4, r_21_4, r_20_5, r_21_5, r_22_0, r_22_1, r_23, r_24, r_25, r_26, r_27, r_28, r_29, r_30_0, r_30_1, r_30_2, r_31, r_31b, r_32, r_33, r_33b, r_33c, r_34, r_34b, r_35, r_45, r_46, r_47_0, r_47_1, r_40, r_50, r_51, r_41_0, r_41_1, r_42, r_43, r_44, r_36_0, r_37_0, r_38_0, r_48_0, r_36_1, r_37_1, r_38_1, r_48_1, r_36_2, r_37_2, r_38_2, r_48_2, r_36_3, r_37_3, r_36_4, r_37_4, r_36_5, r_37_5, r_39, r_8, al_13, al_14, al_15, al_16, al_18, al_19, al_25, al_26, al_27, al_28, al_29, al_30, al_31, al_32, al_33, al_34, al_35, al_36, al_37, al_38, al_39, al_40, al_41, al_42, al_43, al_44, al_45, al_46, al_48, al_49, al_50, al_51, al_52, al_53, al_54, al_55, al_56, al_57, al_58, al_59, al_60, al_61, al_62, al_63, al_64, al_65, al_66, al_67, al_68, al_69, al_70, rf_0_0, rf_0_1, rf_0_2, rf_0_3, rf_0_4, rf_0_5, rf_0_6, rf_0_7, rf_0_8, rf_0_10, rf_0_11, rf_1_0, rf_1_1, rf_1_2, rf_2_0, rf_2_1, rf_2_2, rf_3_0, rf_3_1, rf_3_2, rf_4_0, rf_4_1, rf_4_2, rf_5_0, rf_5_1, rf_5_2, rf_6_0, rf_6_1, rf_7_0, rf_7_1, rf_8_0, rf_8_1, rf_8_5, rf_8_6, rf_8_7, rf_8_8, rf_8_9, rf_9_0, rf_10_0, rf_11_0, rf_12_0, rf_47_0, rf_47_1, rf_47_2, rf_47_3, rf_47_5, rf_47_6, rf_47_8, rf_47_10, rf_47_12, rf_47_14, rf_47_15, rf_47_16, rf_47_17, rf_47_18, rf_47_19, rf_47_20, rf_47_21, rf_47_22, rf_47_23, rf_47_24, rf_47_26, rf_47_27, rf_47_29, rf_17, rf_20, rf_21, rf_22, rf_23, rf_24, rl_17, rl_20, rl_21, rl_22, rl_23, rl_24, e2, es, ep, show (((4 : Nat) : Int) = 4) = True from eq_true rfl]
      rw [if_neg (by omega)]
      generalize hv : bvS ((4 : Nat) : Int) (μ 41 ((5 * r + 4 : Nat) : Int)) = v at *
      refine ⟨⟨by omega, by omega⟩, ?_⟩
      by_cases q : v = -1
      · rw [if_pos q]
        exact hbad q
      · rw [if_neg q, if_pos (by omega), m_i0 (by omega) (by omega), m_i0 (by omega) (by omega)]
        have := i1 q (0, 1) (0, v)
        rw [show (((5 * (r + 1) + 0 : Nat)) : Int) = ((5 * r + 4 : Nat) : Int) + 1 by omega] at this
        push_cast at this ⊢
        exact this
    · have hc2 : c < 4 := by omega
      have i1 := fun (z : ¬ bvS (c : Int) (μ 41 ((5 * r + c : Nat) : Int)) = -1) (u' w' : MVal) => ih r (c + 1) (m_w ν (27 + (c : Int)) (r : Int) (bvS (c : Int) (μ 41 ((5 * r + c : Nat) : Int)))) u' w' (by omega) (by omega) ?_ ?_ ?_ (by rw [← Nat.add_assoc, hN, if_neg z])
      rotate_left
      · exact ⟨fun a q1 q2 q3 => by rw [mw_ne (by omega)]; exact hF.1 a q1 q2 q3, fun j hj => by rw [mw_ne (by omega)]; exact hF.2 j hj⟩
      · rw [mw_ne (by omega)]; exact h0
      · intro r' c' q1 q2
        unfold m_w
        by_cases q : r' = r ∧ c' = c
        · obtain ⟨rfl, rfl⟩ := q
          rw [if_pos ⟨rfl, rfl⟩]
        · rw [if_neg (by omega)]
          exact hR r' c' q1 (by omega)
      have ep := c_valueB (c : Int) (μ 41 ((5 * r + c : Nat) : Int)) (by omega) hsi ν
      have ne2 : ¬ ((c : Int) = 4) := by omega
      have ha : m_al (27 + (c : Int)) = 8 := by
        have : c = 0 ∨ c = 1 ∨ c = 2 ∨ c = 3 := by omega
        rcases this with rfl | rfl | rfl | rfl <;> rfl
      rw [t24_1]
      simp only [t24_0, t24_2, t24_3, t24_4, t24_5, t24_6, t24_7, t24_8, t24_9, t24_10, t24_11, t24_12, t24_13, t24_14, t24_15, t24_16, t24_17, B24_0, B24_1, B24_2, B24_3, B24_4, B24_5, B24_6, B24_7, B24_8, B24_9, B24_10, B24_11, B24_12, B24_13, B24_14, B24_15, B24_16, B24_17, Classical.not_not, Prod.mk.injEq, m_l, m_lp, m_lq, m_ps, m_ws, m_en, List.replicate, if_true, if_false, reduceIte, true_and, and_true, false_and, and_false, true_or, or_true, false_or, or_false, and_self, or_self, not_true_eq_false, not_false_eq_true, ne_eq, Nat.reduceLeDiff, Nat.reduceEqDiff, Nat.reduceAdd, Int.reduceLE, Int.reduceLT, Int.reduceEq, Int.reduceNe, Int.reduceAdd, Int.reduceNeg, Nat.reduceSub, Nat.succ_ne_zero, Nat.not_succ_le_zero, Nat.reduceMul, Int.reduceMul, Int.reduceSub, Int.reduceToNat, Nat.zero_le, Nat.reduceLT, r_0, r_1, r_2, r_3, r_4, r_5, r_6, r_7, r_9, r_10, r_11, r_12, r_13, r_14, r_15, r_16, r_17, r_18, r_19, r_20_0, r_21_0, r_20_1, r_21_1, r_20_2, r_21_2, r_20_3, r_21_3, r_20_4, r_21_4, r_20_5, r_21_5, r_22_0, r_22_1, r_23, r_24, r_25, r_26, r_27, r_28, r_29, r_30_0, r_30_1, r_30_2, r_31, r_31b, r_32, r_33, r_33b, r_33c, r_34, r_34b, r_35, r_45, r_46, r_47_0, r_47_1, r_40, r_50, r_51, r_41_0, r_41_1, r_42, r_43, r_44, r_36_0, r_37_0, r_38_0, r_48_0, r_36_1, r_37_1, r_38_1, r_48_1, r_36_2, r_37_2, r_38_2, r_48_2, r_36_3, r_37_3, r_36_4, r_37_4, r_36_5, r_37_5, r_39, r_8, al_13, al_14, al_15, al_16, al_18, al_19, al_25, al_26, al_27, al_28, al_29, al_30, al_31, al_32, al_33, al_34, al_35, al_36, al_37, al_38, al_39, al_40, al_41, al_42, al_43, al_44, al_45, al_46, al_48, al_49, al_50, al_51, al_52, al_53, al_54, al_55, al_56, al_57, al_58, al_59, al_60, al_61, al_62, al_63, al_64, al_65, al_66, al_67, al_68, al_69, al_70, rf_0_0, rf_0_1, rf_0_2, rf_0_3, rf_0_4, rf_0_5, rf_0_6, rf_0_7, rf_0_8, rf_0_10, rf_0_11, rf_1_0, rf_1_1, rf_1_2, rf_2_0, rf_2_1, rf_2_2, rf_3_0, rf_3_1, rf_3_2, rf_4_0, rf_4_1, rf_4_2, rf_5_0, rf_5_1, rf_5_2, rf_6_0, rf_6_1, rf_7_0, rf_7_1, rf_8_0, rf_8_1, rf_8_5, rf_8_6, rf_8_7, rf_8_8, rf_8_9, rf_9_0, rf_10_0, rf_11_0, rf_12_0, rf_47_0, rf_47_1, rf_47_2, rf_47_3, rf_47_5, rf_47_6, rf_47_8, rf_47_10, rf_47_12, rf_47_14, rf_47_15, rf_47_16, rf_47_17, rf_47_18, rf_47_19, rf_47_20, rf_47_21, rf_47_22, rf_47_23, rf_47_24, rf_47_26, rf_47_27, rf_47_29, rf_17, rf_20, rf_21, rf_22, rf_23, rf_24, rl_17, rl_20, rl_21, rl_22, rl_23, rl_24, e2, es, ep, ne2, ha]
      rw [if_neg (by omega)]
      generalize hv : bvS (c : Int) (μ 41 ((5 * r + c : Nat) : Int)) = v at *
      refine ⟨⟨by omega, by omega⟩, ?_⟩
      by_cases q : v = -1
      · rw [if_pos q]
        exact hbad q
      · rw [if_neg q, if_pos (by omega), m_i0 (by omega) (by omega), m_i0 (by omega) (by omega)]
        have := i1 q (0, 0) (0, v)
        push_cast at this ⊢
        rw [← Int.add_assoc] at this
        exact ⟨⟨by omega, by omega⟩, ⟨by omega, by omega⟩, this⟩
theorem c_tellB {μ : MMem} {n : Nat} (hn : n ≤ 39) (h2 : μ 7 2 = n) (hs : ∀ i, 0 ≤ i → i < (n : Int) → 0 ≤ μ 41 i ∧ μ 41 i < 256) : ∃ μ' : MMem, TXB μ μ' n ∧ ∀ Q : MVal → MMem → Prop, Cal 24 [(5, 7)] μ Q = Q (14, 0) μ' := by
  refine cal_ex (P := fun μ' => TXB μ μ' n) rfl ?_
  show Rn 24 B24_0 [(5, 7), (14, 0), (14, 0), (14, 0), (14, 0), (14, 0)] [] μ _
  simp only [t24_0, t24_2, t24_3, t24_4, t24_5, t24_6, t24_7, t24_8, t24_9, t24_10, t24_11, t24_12, t24_13, t24_14, t24_15, t24_16, t24_17, B24_0, B24_1, B24_2, B24_3, B24_4, B24_5, B24_6, B24_7, B24_8, B24_9, B24_10, B24_11, B24_12, B24_13, B24_14, B24_15, B24_16, B24_17, Classical.not_not, Prod.mk.injEq, m_l, m_lp, m_lq, m_ps, m_ws, m_en, List.replicate, if_true, if_false, reduceIte, true_and, and_true, false_and, and_false, true_or, or_true, false_or, or_false, and_self, or_self, not_true_eq_false, not_false_eq_true, ne_eq, Nat.reduceLeDiff, Nat.reduceEqDiff, Nat.reduceAdd, Int.reduceLE, Int.reduceLT, Int.reduceEq, Int.reduceNe, Int.reduceAdd, Int.reduceNeg, Nat.reduceSub, Nat.succ_ne_zero, Nat.not_succ_le_zero, Nat.reduceMul, Int.reduceMul, Int.reduceSub, Int.reduceToNat, Nat.zero_le, Nat.reduceLT, r_0, r_1, r_2, r_3, r_4, r_5, r_6, r_7, r_9, r_10, r_11, r_12, r_13, r_14, r_15, r_16, r_17, r_18, r_19, r_20_0, r_21_0, r_20_1, r_21_1, r_20_2, r_21_2, r_20_3, r_21_3, r_20_4, r_21_4, r_20_5, r_21_5, r_22_0, r_22_1, r_23, r_24, r_25, r_26, r_27, r_28, r_29, r_30_0, r_30_1, r_30_2, r_31, r_31b, r_32, r_33, r_33b, r_33c, r_34, r_34b, r_35, r_45, r_46, r_47_0, r_47_1, r_40, r_50, r_51, r_41_0, r_41_1, r_42, r_43, r_44, r_36_0, r_37_0, r_38_0, r_48_0, r_36_1, r_37_1, r_38_1, r_48_1, r_36_2, r_37_2, r_38_2, r_48_2, r_36_3, r_37_3, r_36_4, r_37_4, r_36_5, r_37_5, r_39, r_8, al_13, al_14, al_15, al_16, al_18, al_19, al_25, al_26, al_27, al_28, al_29, al_30, al_31, al_32, al_33, al_34, al_35, al_36, al_37, al_38, al_39, al_40, al_41, al_42, al_43, al_44, al_45, al_46, al_48, al_49, al_50, al_51, al_52, al_53, al_54, al_55, al_56, al_57, al_58, al_59, al_60, al_61, al_62, al_63, al_64, al_65, al_66, al_67, al_68, al_69, al_70, rf_0_0, rf_0_1, rf_0_2, rf_0_3, rf_0_4, rf_0_5, rf_0_6, rf_0_7, rf_0_8, rf_0_10, rf_0_11, rf_1_0, rf_1_1, rf_1_2, rf_2_0, rf_2_1, rf_2_2, rf_3_0, rf_3_1, rf_3_2, rf_4_0, rf_4_1, rf_4_2, rf_5_0, rf_5_1, rf_5_2, rf_6_0, rf_6_1, rf_7_0, rf_7_1, rf_8_0, rf_8_1, rf_8_5, rf_8_6, rf_8_7, rf_8_8, rf_8_9, rf_9_0, rf_10_0, rf_11_0, rf_12_0, rf_47_0, rf_47_1, rf_47_2, rf_47_3, rf_47_5, rf_47_6, rf_47_8, rf_47_10, rf_47_12, rf_47_14, rf_47_15, rf_47_16, rf_47_17, rf_47_18, rf_47_19, rf_47_20, rf_47_21, rf_47_22, rf_47_23, rf_47_24, rf_47_26, rf_47_27, rf_47_29, rf_17, rf_20, rf_21, rf_22, rf_23, rf_24, rl_17, rl_20, rl_21, rl_22, rl_23, rl_24]
  refine c_tellBL hn h2 hs (fun μ' q => ⟨rfl, q⟩) n 0 0 _ _ _ (by omega) (by omega) ⟨fun a q1 q2 q3 => mw_ne q2, fun j _ => by rw [mw_ne (by decide)]⟩ (by rw [mw_at, if_pos rfl]) (fun r' c' q1 q2 => by omega) rfl
