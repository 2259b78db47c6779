/-- the gap of a house in a year if it had opened so high -/
def gpA (T : MMem) (i h : Int) (y : Int) : Int := gap (m_w T 2 i h) (sm (m_w T 2 i h) (y.toNat + 1)) i
/-- how many of the heights 1 to n give that gap -/
def tyN (T : MMem) (i x y v : Int) : Nat → Int
  | 0 => 0
  | n + 1 => if tb x ((n : Int) + 1) ∧ gpA T i ((n : Int) + 1) y = v then tyN T i x y v n + 1 else tyN T i x y v n
theorem tyN_in (T : MMem) (i x y v : Int) : ∀ n : Nat, 0 ≤ tyN T i x y v n ∧ tyN T i x y v n ≤ n
  | 0 => by simp [tyN]
  | n + 1 => by
    have := tyN_in T i x y v n
    rw [tyN]
    split <;> omega
def FS (μ ν : MMem) (c k : Int) : Prop := (∀ a, a ≠ 8 → a ≠ c → a ≠ 19 → (a < 42 ∨ 46 < a) → ν a = μ a) ∧ ∀ j, j ≠ k → ν c j = μ c j
def stM (μ ν : MMem) : MMem := fun a => if a = 19 then ν 19 else μ a
theorem stM_ne {μ ν : MMem} {a : Int} (h : a ≠ 19) : stM μ ν a = μ a := if_neg h
theorem FS.fr {μ ν : MMem} {c k : Int} (h : FS μ ν c k) (hc : c ≠ 19) : FR (stM μ ν) ν c k := by
  refine ⟨fun a h1 h2 h3 => ?_, fun j hj => ?_⟩
  · by_cases e : a = 19
    · rw [e]; rfl
    · rw [stM_ne e]; exact h.1 a h1 h2 e h3
  · rw [stM_ne hc]; exact h.2 j hj
theorem CI.st {μ ν T : MMem} (h : CI μ T) : CI (stM μ ν) T := h
theorem FS.fb {μ ν ν' : MMem} {c k : Int} (h : FS μ ν c k) (hf : FB ν ν') (hc : 25 ≤ c ∧ c < 42) : FS μ ν' c k := by
  refine ⟨fun a h1 h2 h3 h4 => (hf a h1 h4).trans (h.1 a h1 h2 h3 h4), fun j hj => ?_⟩
  rw [hf c (by omega) (by omega)]
  exact h.2 j hj
theorem FS.w {μ ν : MMem} {c k : Int} (h : FS μ ν c k) (v : Int) : FS μ (m_w ν c k v) c k := by
  refine ⟨fun a h1 h2 h3 h4 => by rw [mw_ne h2]; exact h.1 a h1 h2 h3 h4, fun j hj => ?_⟩
  rw [mw_at, if_neg hj]
  exact h.2 j hj
theorem FS.w19 {μ ν : MMem} {c k : Int} (h : FS μ ν c k) (hc : c ≠ 19) (j v : Int) : FS μ (m_w ν 19 j v) c k := by
  refine ⟨fun a h1 h2 h3 h4 => by rw [mw_ne h3]; exact h.1 a h1 h2 h3 h4, fun j hj => ?_⟩
  rw [mw_ne hc]
  exact h.2 j hj
theorem FS.end {μ ν : MMem} {c k : Int} (h : FS μ ν c k) (hc : c ≠ 19) : ∀ a, a ≠ 8 → a ≠ 19 → (a < 42 ∨ 46 < a) → m_w ν c k (μ c k) a = μ a := by
  intro a h1 h3 h2
  by_cases e : a = c
  · subst e
    funext j
    rw [mw_at]
    split
    · rename_i q; rw [q]
    · rename_i q; exact h.2 j q
  · rw [mw_ne e]
    exact h.1 a h1 e h3 h2
def TY (ν T : MMem) (i x : Int) (n b : Nat) : Prop := ∀ y v : Int, 0 ≤ y → y < 24 → 0 ≤ v → v < 21 → ν 19 (y * 21 + v) = if y < b then tyN T i x y v (n + 1) else tyN T i x y v n
theorem PW.w19 {μ T : MMem} {ev : Int} (h : PW μ T ev) (j v : Int) : PW (m_w μ 19 j v) T ev := by
  unfold PW CT CE at *
  have g : ∀ a : Int, a ≠ 19 → m_w μ 19 j v a = μ a := fun a ha => mw_ne ha
  have e : m_w μ 19 j v ev = μ ev := g ev (by have := h.2.1.2; omega)
  rw [e, g 1 (by decide), g 2 (by decide), g 25 (by decide), g 26 (by decide), g 27 (by decide), g 28 (by decide), g 29 (by decide), g 30 (by decide), g 31 (by decide), g 32 (by decide), g 33 (by decide), g 34 (by decide), g 35 (by decide), g 36 (by decide), g 8 (by decide)]
  exact h
theorem WS.w19 {μ T σ : MMem} (h : WS μ T σ) (j v : Int) : WS (m_w μ 19 j v) T σ := by
  unfold WS at *
  have g : ∀ a : Int, a ≠ 19 → m_w μ 19 j v a = μ a := fun a ha => mw_ne ha
  rw [g 42 (by decide), g 43 (by decide), g 44 (by decide), g 45 (by decide), g 46 (by decide)]
  exact h
theorem c_tyY {μ T : MMem} {i x : Int} (hi : 0 ≤ i ∧ i < T 0 0) {n : Nat} (hn : n < 20) (hT : TW (m_w T 2 i ((n : Int) + 1))) (hx : tb x ((n : Int) + 1) = true) {z : Int} {Q : MVal → MMem → Prop} (h : ∀ (μ' : MMem) (u w : MVal), FS μ μ' 26 i → TY μ' T i x (n + 1) 0 → At 75 1 [(9, 0), (0, i), (0, x), (0, z), (0, (n : Int) + 1 + 1), u, w] [] μ' Q) : ∀ (d b : Nat) (ν : MMem) (w : MVal), b + d = 24 → FS μ ν 26 i → PW ν (m_w T 2 i ((n : Int) + 1)) 3 → WS ν (m_w T 2 i ((n : Int) + 1)) (sm (m_w T 2 i ((n : Int) + 1)) b) → TY ν T i x n b → At 75 3 [(9, 0), (0, i), (0, x), (0, z), (0, (n : Int) + 1), (0, (b : Int)), w] [] ν Q := by
  intro d
  induction d with
  | zero =>
    intro b ν w hb hF hP hW hY
    have e : b = 24 := by omega
    subst e
    rw [t75_3]
    simp only [t75_0, t75_2, t75_4, t75_5, t75_6, B75_0, B75_1, B75_2, B75_3, B75_4, B75_5, B75_6, Classical.not_not, Prod.mk.injEq, m_l, m_lp, m_lq, m_ps, m_ws, m_en, List.replicate, if_true, if_false, reduceIte, true_and, and_true, false_and, and_false, true_or, or_true, false_or, or_false, and_self, or_self, not_true_eq_false, not_false_eq_true, ne_eq, Nat.reduceLeDiff, Nat.reduceEqDiff, Nat.reduceAdd, Int.reduceLE, Int.reduceLT, Int.reduceEq, Int.reduceNe, Int.reduceAdd, Int.reduceNeg, Nat.reduceSub, Nat.succ_ne_zero, Nat.not_succ_le_zero, Nat.reduceMul, Int.reduceMul, Int.reduceSub, Int.reduceToNat, Nat.zero_le, Nat.reduceLT, r_0, r_1, r_2, r_3, r_4, r_5, r_6, r_7, r_9, r_10, r_11, r_12, r_13, r_14, r_15, r_16, r_17, r_18, r_19, r_20_0, r_21_0, r_20_1, r_21_1, r_20_2, r_21_2, r_20_3, r_21_3, r_20_4, r_21_4, r_20_5, r_21_5, r_22_0, r_22_1, r_23, r_24, r_25, r_26, r_27, r_28, r_29, r_30_0, r_30_1, r_30_2, r_31, r_31b, r_32, r_33, r_33b, r_33c, r_34, r_34b, r_35, r_45, r_46, r_47_0, r_47_1, r_40, r_50, r_51, r_41_0, r_41_1, r_42, r_43, r_44, r_36_0, r_37_0, r_38_0, r_48_0, r_36_1, r_37_1, r_38_1, r_48_1, r_36_2, r_37_2, r_38_2, r_48_2, r_36_3, r_37_3, r_36_4, r_37_4, r_36_5, r_37_5, r_39, r_8, al_13, al_14, al_15, al_16, al_18, al_19, al_25, al_26, al_27, al_28, al_29, al_30, al_31, al_32, al_33, al_34, al_35, al_36, al_37, al_38, al_39, al_40, al_41, al_42, al_43, al_44, al_45, al_46, al_48, al_49, al_50, al_51, al_52, al_53, al_54, al_55, al_56, al_57, al_58, al_59, al_60, al_61, al_62, al_63, al_64, al_65, al_66, al_67, al_68, al_69, al_70, rf_0_0, rf_0_1, rf_0_2, rf_0_3, rf_0_4, rf_0_5, rf_0_6, rf_0_7, rf_0_8, rf_0_10, rf_0_11, rf_1_0, rf_1_1, rf_1_2, rf_2_0, rf_2_1, rf_2_2, rf_3_0, rf_3_1, rf_3_2, rf_4_0, rf_4_1, rf_4_2, rf_5_0, rf_5_1, rf_5_2, rf_6_0, rf_6_1, rf_7_0, rf_7_1, rf_8_0, rf_8_1, rf_8_5, rf_8_6, rf_8_7, rf_8_8, rf_8_9, rf_9_0, rf_10_0, rf_11_0, rf_12_0, rf_47_0, rf_47_1, rf_47_2, rf_47_3, rf_47_5, rf_47_6, rf_47_8, rf_47_10, rf_47_12, rf_47_14, rf_47_15, rf_47_16, rf_47_17, rf_47_18, rf_47_19, rf_47_20, rf_47_21, rf_47_22, rf_47_23, rf_47_24, rf_47_26, rf_47_27, rf_47_29, rf_17, rf_20, rf_21, rf_22, rf_23, rf_24, rl_17, rl_20, rl_21, rl_22, rl_23, rl_24]
    rw [if_pos (by omega), m_i0 (by omega) (by omega)]
    refine h ν _ _ hF (fun y v y0 y1 v0 v1 => ?_)
    rw [hY y v y0 y1 v0 v1, if_pos (by omega), if_neg (by omega)]
  | succ d ih =>
    intro b ν w hb hF hP hW hY
    have hS := sm_SI hT b
    obtain ⟨μ2, ⟨w2, f2⟩, c2⟩ := w_pass ν hT hP hS hW b b (sm_ZC _ b) (by omega) (by omega) 1 (by omega)
    have w3 : WS μ2 (m_w T 2 i ((n : Int) + 1)) (sm (m_w T 2 i ((n : Int) + 1)) (b + 1)) := by
      have e : sm (m_w T 2 i ((n : Int) + 1)) (b + 1) = yrs (m_w T 2 i ((n : Int) + 1)) (sm (m_w T 2 i ((n : Int) + 1)) b) b 1 := by
        show yearS _ _ (0 + b) = yearS _ _ ((b : Int) + ((0 : Nat) : Int))
        congr 1
        omega
      rw [e]
      exact w2
    have hF2 := hF.fb f2.fb (by decide)
    have e00 : m_w T 2 i ((n : Int) + 1) 0 = T 0 := mw_ne (by decide)
    have hi2 : 0 ≤ i ∧ i < m_w T 2 i ((n : Int) + 1) 0 0 := by rw [e00]; exact hi
    have hS2 := sm_SI hT (b + 1)
    have cg := w_gap μ2 hT hS2 (hP.fw f2).1 w3 i hi2
    have eg : gap (m_w T 2 i ((n : Int) + 1)) (sm (m_w T 2 i ((n : Int) + 1)) (b + 1)) i = gpA T i ((n : Int) + 1) b := by
      unfold gpA
      rw [show ((b : Int)).toNat = b by omega]
    have hg := gap_in hT hS2 hi2
    rw [eg] at cg hg
    have e19 : μ2 19 = ν 19 := f2.fb 19 (by decide) (by decide)
    generalize hgq : gpA T i ((n : Int) + 1) b = g at *
    have hy := hY b g (by omega) (by omega) (by omega) (by omega)
    rw [if_neg (by omega), ← e19] at hy
    have hti := tyN_in T i x b g n
    have ih := ih (b + 1) (m_w μ2 19 (b * 21 + g) (tyN T i x b g n + 1)) (0, g) (by omega) (hF2.w19 (by decide) _ _) ((hP.fw f2).w19 _ _) (w3.w19 _ _) ?_
    · push_cast at ih
      rw [t75_3]
      simp only [t75_0, t75_2, t75_4, t75_5, t75_6, B75_0, B75_1, B75_2, B75_3, B75_4, B75_5, B75_6, Classical.not_not, Prod.mk.injEq, m_l, m_lp, m_lq, m_ps, m_ws, m_en, List.replicate, if_true, if_false, reduceIte, true_and, and_true, false_and, and_false, true_or, or_true, false_or, or_false, and_self, or_self, not_true_eq_false, not_false_eq_true, ne_eq, Nat.reduceLeDiff, Nat.reduceEqDiff, Nat.reduceAdd, Int.reduceLE, Int.reduceLT, Int.reduceEq, Int.reduceNe, Int.reduceAdd, Int.reduceNeg, Nat.reduceSub, Nat.succ_ne_zero, Nat.not_succ_le_zero, Nat.reduceMul, Int.reduceMul, Int.reduceSub, Int.reduceToNat, Nat.zero_le, Nat.reduceLT, r_0, r_1, r_2, r_3, r_4, r_5, r_6, r_7, r_9, r_10, r_11, r_12, r_13, r_14, r_15, r_16, r_17, r_18, r_19, r_20_0, r_21_0, r_20_1, r_21_1, r_20_2, r_21_2, r_20_3, r_21_3, r_20_4, r_21_4, r_20_5, r_21_5, r_22_0, r_22_1, r_23, r_24, r_25, r_26, r_27, r_28, r_29, r_30_0, r_30_1, r_30_2, r_31, r_31b, r_32, r_33, r_33b, r_33c, r_34, r_34b, r_35, r_45, r_46, r_47_0, r_47_1, r_40, r_50, r_51, r_41_0, r_41_1, r_42, r_43, r_44, r_36_0, r_37_0, r_38_0, r_48_0, r_36_1, r_37_1, r_38_1, r_48_1, r_36_2, r_37_2, r_38_2, r_48_2, r_36_3, r_37_3, r_36_4, r_37_4, r_36_5, r_37_5, r_39, r_8, al_13, al_14, al_15, al_16, al_18, al_19, al_25, al_26, al_27, al_28, al_29, al_30, al_31, al_32, al_33, al_34, al_35, al_36, al_37, al_38, al_39, al_40, al_41, al_42, al_43, al_44, al_45, al_46, al_48, al_49, al_50, al_51, al_52, al_53, al_54, al_55, al_56, al_57, al_58, al_59, al_60, al_61, al_62, al_63, al_64, al_65, al_66, al_67, al_68, al_69, al_70, rf_0_0, rf_0_1, rf_0_2, rf_0_3, rf_0_4, rf_0_5, rf_0_6, rf_0_7, rf_0_8, rf_0_10, rf_0_11, rf_1_0, rf_1_1, rf_1_2, rf_2_0, rf_2_1, rf_2_2, rf_3_0, rf_3_1, rf_3_2, rf_4_0, rf_4_1, rf_4_2, rf_5_0, rf_5_1, rf_5_2, rf_6_0, rf_6_1, rf_7_0, rf_7_1, rf_8_0, rf_8_1, rf_8_5, rf_8_6, rf_8_7, rf_8_8, rf_8_9, rf_9_0, rf_10_0, rf_11_0, rf_12_0, rf_47_0, rf_47_1, rf_47_2, rf_47_3, rf_47_5, rf_47_6, rf_47_8, rf_47_10, rf_47_12, rf_47_14, rf_47_15, rf_47_16, rf_47_17, rf_47_18, rf_47_19, rf_47_20, rf_47_21, rf_47_22, rf_47_23, rf_47_24, rf_47_26, rf_47_27, rf_47_29, rf_17, rf_20, rf_21, rf_22, rf_23, rf_24, rl_17, rl_20, rl_21, rl_22, rl_23, rl_24, c2, cg, c_isBelow, b0]
      rw [if_neg (by omega), if_neg (by omega), m_i2 (by omega) (by omega), m_i0 (x := (b : Int) * 21) (by omega) (by omega), hy, m_i0 (x := tyN T i x b g n) (by omega) (by omega), m_i0 (x := (b : Int)) (by omega) (by omega)]
      grind
    · intro y v y0 y1 v0 v1
      rw [mw_at]
      by_cases e : y * 21 + v = b * 21 + g
      · have e1 : y = b := by omega
        have e2 : v = g := by omega
        rw [if_pos e, if_pos (by omega), tyN, e1, e2, if_pos ⟨hx, hgq⟩]
      · rw [if_neg e, e19, hY y v y0 y1 v0 v1]
        by_cases q : y = b
        · have q2 : v ≠ g := by
            intro q2
            rw [q, q2] at e
            exact e rfl
          rw [if_neg (by omega), if_pos (by omega), tyN, q, if_neg (by rw [hgq]; exact fun z => q2 z.2.symm)]
        · by_cases q3 : y < b
          · rw [if_pos q3, if_pos (by omega)]
          · rw [if_neg q3, if_neg (by omega)]
