theorem TW.set2 {T : MMem} (h : TW T) {c k v : Int} (hc : (c = 1 ∧ 0 ≤ v ∧ v ≤ 2) ∨ (c = 2 ∧ 1 ≤ v ∧ v ≤ 20)) : TW (m_w T c k v) := by
  obtain ⟨h1, h2, h3, h4, h5, h6⟩ := h
  unfold TW
  rw [mw_ne (show (0 : Int) ≠ c by omega), mw_ne (show (3 : Int) ≠ c by omega), mw_ne (show (4 : Int) ≠ c by omega), mw_ne (show (5 : Int) ≠ c by omega), mw_ne (show (6 : Int) ≠ c by omega), mw_ne (show (7 : Int) ≠ c by omega), mw_ne (show (8 : Int) ≠ c by omega), mw_ne (show (9 : Int) ≠ c by omega)]
  refine ⟨h1, h2, h3, fun j j0 j1 => ?_, h5, h6⟩
  have := h4 j j0 j1
  rcases hc with ⟨rfl, hc⟩ | ⟨rfl, hc⟩
  · rw [mw_at, mw_ne (by decide)]; split <;> omega
  · rw [mw_at, mw_ne (by decide)]; split <;> omega
theorem CI.fr2 {μ ν T : MMem} {c k v : Int} (hI : CI μ T) (hf : FR μ ν (24 + c) k) (hc : (c = 1 ∧ 0 ≤ v ∧ v ≤ 2) ∨ (c = 2 ∧ 1 ≤ v ∧ v ≤ 20)) : CI (m_w ν (24 + c) k v) (m_w T c k v) := by
  obtain ⟨hT, ⟨c1, c2, c3, c4⟩, ⟨e1, e2⟩, h3⟩ := hI
  have n0 : (0 : Int) ≠ c := by omega
  have g : ∀ a : Int, a ≠ 24 + c → a ≠ 8 → a < 42 → m_w ν (24 + c) k v a = μ a := fun a h1 h2 h4 => by rw [mw_ne h1]; exact hf.1 a h2 h1 (Or.inl h4)
  have e2' : ∀ j, 0 ≤ j → j < T 0 2 → μ 31 j = T 7 j ∧ μ 32 j = T 8 j ∧ μ 33 j = T 9 j := by
    rcases e2 with ⟨_, q⟩ | ⟨q, _⟩
    · exact q
    · omega
  refine ⟨hT.set2 hc, ⟨?_, ?_, ?_, ?_⟩, ⟨?_, Or.inl ⟨rfl, ?_⟩⟩, ?_⟩
  · rw [g 1 (by omega) (by decide) (by decide), mw_ne n0]; exact c1
  · rw [g 2 (by omega) (by decide) (by decide), mw_ne n0]; exact c2
  · intro j j0 j1
    rw [mw_ne n0] at j1
    have := c3 j j0 j1
    have f2 := hf.2 j
    rcases hc with ⟨rfl, hc⟩ | ⟨rfl, hc⟩
    · rw [g 26 (by decide) (by decide) (by decide), mw_ne (show (2 : Int) ≠ 1 by decide)]
      refine ⟨?_, this.2⟩
      show m_w ν 25 k v 25 j = _
      rw [mw_at, mw_at]
      split
      · rfl
      · rename_i q; rw [← this.1]; exact f2 q
    · rw [g 25 (by decide) (by decide) (by decide), mw_ne (show (1 : Int) ≠ 2 by decide)]
      refine ⟨this.1, ?_⟩
      show m_w ν 26 k v 26 j = _
      rw [mw_at, mw_at]
      split
      · rfl
      · rename_i q; rw [← this.2]; exact f2 q
  · rw [g 27 (by omega) (by decide) (by decide), g 28 (by omega) (by decide) (by decide), g 29 (by omega) (by decide) (by decide), g 30 (by omega) (by decide) (by decide), mw_ne n0, mw_ne (show (3 : Int) ≠ c by omega), mw_ne (show (4 : Int) ≠ c by omega), mw_ne (show (5 : Int) ≠ c by omega), mw_ne (show (6 : Int) ≠ c by omega)]; exact c4
  · rw [g 3 (by omega) (by decide) (by decide), mw_ne n0]; exact e1
  · rw [g 31 (by omega) (by decide) (by decide), g 32 (by omega) (by decide) (by decide), g 33 (by omega) (by decide) (by decide), mw_ne n0, mw_ne (show (7 : Int) ≠ c by omega), mw_ne (show (8 : Int) ≠ c by omega), mw_ne (show (9 : Int) ≠ c by omega)]; exact e2'
  · rw [mw_ne n0]; exact h3
theorem SG.fr2 {μ ν T : MMem} {c k v : Int} (hG : SG μ T) (hf : FR μ ν (24 + c) k) (hc : c = 1 ∨ c = 2) : SG (m_w ν (24 + c) k v) (m_w T c k v) := by
  have g : ∀ a : Int, a ≠ 24 + c → a ≠ 8 → a < 42 → m_w ν (24 + c) k v a = μ a := fun a h1 h2 h4 => by rw [mw_ne h1]; exact hf.1 a h2 h1 (Or.inl h4)
  unfold SG at *
  rw [g 5 (by omega) (by decide) (by decide), g 37 (by omega) (by decide) (by decide), g 38 (by omega) (by decide) (by decide), g 39 (by omega) (by decide) (by decide), mw_ne (show (0 : Int) ≠ c by omega), mw_ne (show (10 : Int) ≠ c by omega), mw_ne (show (11 : Int) ≠ c by omega), mw_ne (show (12 : Int) ≠ c by omega)]
  exact hG
/-- the numbers of a house, from f on, by which what was seen comes out -/
def ftN (T : MMem) (c k f : Int) : Nat → Int
  | 0 => 0
  | n + 1 => if seB (m_w T c k (f + n)) (ns T) then m_i 4 (ftN T c k f n) (sh1 (f + n)) else ftN T c k f n
theorem c_fitL {μ T : MMem} (hI : CI μ T) (hG : SG μ T) {c k col f l : Int} {n : Nat} (hn : f + n = l + 1) (hc : (c = 1 ∧ f = 0 ∧ l = 2) ∨ (c = 2 ∧ f = 1 ∧ l = 20)) (hcol : c = 1 + col) (hrf : m_rf 20 col = 24 + c) (hk : 0 ≤ k ∧ k < T 0 0) {Q : MVal → MMem → Prop} (h : ∀ μ', FB μ μ' → Q (0, ftN T c k f n) μ') : ∀ (d b : Nat) (ν : MMem), b + d = n → FR μ ν (24 + c) k → At 74 1 [(9, 0), (0, k), (0, col), (0, f), (0, l), (0, μ (24 + c) k), (0, ftN T c k f b), (0, f + b)] [] ν Q := by
  obtain ⟨hT, hC, hE, h3⟩ := id hI
  have h8 := hT.1
  have ha : m_al (24 + c) = 6 := by
    rcases hc with ⟨rfl, _⟩ | ⟨rfl, _⟩ <;> rfl
  intro d
  induction d with
  | zero =>
    intro b ν hb hF
    have e : b = n := by omega
    subst e
    have := h _ hF.end
    rw [t74_1]
    simp only [t74_0, t74_2, t74_3, B74_0, B74_1, B74_2, B74_3, Classical.not_not, Prod.mk.injEq, m_l, m_lp, m_lq, m_ps, m_ws, m_en, List.replicate, if_true, if_false, reduceIte, true_and, and_true, false_and, and_false, true_or, or_true, false_or, or_false, and_self, or_self, not_true_eq_false, not_false_eq_true, ne_eq, Nat.reduceLeDiff, Nat.reduceEqDiff, Nat.reduceAdd, Int.reduceLE, Int.reduceLT, Int.reduceEq, Int.reduceNe, Int.reduceAdd, Int.reduceNeg, Nat.reduceSub, Nat.succ_ne_zero, Nat.not_succ_le_zero, Nat.reduceMul, Int.reduceMul, Int.reduceSub, Int.reduceToNat, Nat.zero_le, Nat.reduceLT, r_0, r_1, r_2, r_3, r_4, r_5, r_6, r_7, r_9, r_10, r_11, r_12, r_13, r_14, r_15, r_16, r_17, r_18, r_19, r_20_0, r_21_0, r_20_1, r_21_1, r_20_2, r_21_2, r_20_3, r_21_3, r_20_4, r_21_4, r_20_5, r_21_5, r_22_0, r_22_1, r_23, r_24, r_25, r_26, r_27, r_28, r_29, r_30_0, r_30_1, r_30_2, r_31, r_31b, r_32, r_33, r_33b, r_33c, r_34, r_34b, r_35, r_45, r_46, r_47_0, r_47_1, r_40, r_50, r_51, r_41_0, r_41_1, r_42, r_43, r_44, r_36_0, r_37_0, r_38_0, r_48_0, r_36_1, r_37_1, r_38_1, r_48_1, r_36_2, r_37_2, r_38_2, r_48_2, r_36_3, r_37_3, r_36_4, r_37_4, r_36_5, r_37_5, r_39, r_8, al_13, al_14, al_15, al_16, al_18, al_19, al_25, al_26, al_27, al_28, al_29, al_30, al_31, al_32, al_33, al_34, al_35, al_36, al_37, al_38, al_39, al_40, al_41, al_42, al_43, al_44, al_45, al_46, al_48, al_49, al_50, al_51, al_52, al_53, al_54, al_55, al_56, al_57, al_58, al_59, al_60, al_61, al_62, al_63, al_64, al_65, al_66, al_67, al_68, al_69, al_70, rf_0_0, rf_0_1, rf_0_2, rf_0_3, rf_0_4, rf_0_5, rf_0_6, rf_0_7, rf_0_8, rf_0_10, rf_0_11, rf_1_0, rf_1_1, rf_1_2, rf_2_0, rf_2_1, rf_2_2, rf_3_0, rf_3_1, rf_3_2, rf_4_0, rf_4_1, rf_4_2, rf_5_0, rf_5_1, rf_5_2, rf_6_0, rf_6_1, rf_7_0, rf_7_1, rf_8_0, rf_8_1, rf_8_5, rf_8_6, rf_8_7, rf_8_8, rf_8_9, rf_9_0, rf_10_0, rf_11_0, rf_12_0, rf_47_0, rf_47_1, rf_47_2, rf_47_3, rf_47_5, rf_47_6, rf_47_8, rf_47_10, rf_47_12, rf_47_14, rf_47_15, rf_47_16, rf_47_17, rf_47_18, rf_47_19, rf_47_20, rf_47_21, rf_47_22, rf_47_23, rf_47_24, rf_47_26, rf_47_27, rf_47_29, rf_17, rf_20, rf_21, rf_22, rf_23, rf_24, rl_17, rl_20, rl_21, rl_22, rl_23, rl_24, hrf, ha]
    rw [if_pos (by omega)]
    exact ⟨by omega, by omega, this⟩
  | succ d ih =>
    intro b ν hb hF
    have hI2 := hI.fr2 hF (v := f + b) (by omega)
    have hG2 := hG.fr2 hF (v := f + b) (by omega)
    obtain ⟨μ1, f1, c1⟩ := c_comesOut _ hI2 hG2 0
    rw [gn_self hI2.2.2.2] at c1
    have ens : ns (m_w T c k (f + b)) = ns T := by
      unfold ns
      rw [mw_ne (by omega)]
    rw [ens] at c1
    have hF1 : FR μ μ1 (24 + c) k := (hF.w (f + b)).fb f1 (by omega)
    have ih := ih (b + 1) μ1 (by omega) hF1
    rw [ftN] at ih
    push_cast at ih
    rw [← Int.add_assoc] at ih
    unfold sh1 at ih
    rw [t74_1]
    simp only [t74_0, t74_2, t74_3, B74_0, B74_1, B74_2, B74_3, Classical.not_not, Prod.mk.injEq, m_l, m_lp, m_lq, m_ps, m_ws, m_en, List.replicate, if_true, if_false, reduceIte, true_and, and_true, false_and, and_false, true_or, or_true, false_or, or_false, and_self, or_self, not_true_eq_false, not_false_eq_true, ne_eq, Nat.reduceLeDiff, Nat.reduceEqDiff, Nat.reduceAdd, Int.reduceLE, Int.reduceLT, Int.reduceEq, Int.reduceNe, Int.reduceAdd, Int.reduceNeg, Nat.reduceSub, Nat.succ_ne_zero, Nat.not_succ_le_zero, Nat.reduceMul, Int.reduceMul, Int.reduceSub, Int.reduceToNat, Nat.zero_le, Nat.reduceLT, r_0, r_1, r_2, r_3, r_4, r_5, r_6, r_7, r_9, r_10, r_11, r_12, r_13, r_14, r_15, r_16, r_17, r_18, r_19, r_20_0, r_21_0, r_20_1, r_21_1, r_20_2, r_21_2, r_20_3, r_21_3, r_20_4, r_21_4, r_20_5, r_21_5, r_22_0, r_22_1, r_23, r_24, r_25, r_26, r_27, r_28, r_29, r_30_0, r_30_1, r_30_2, r_31, r_31b, r_32, r_33, r_33b, r_33c, r_34, r_34b, r_35, r_45, r_46, r_47_0, r_47_1, r_40, r_50, r_51, r_41_0, r_41_1, r_42, r_43, r_44, r_36_0, r_37_0, r_38_0, r_48_0, r_36_1, r_37_1, r_38_1, r_48_1, r_36_2, r_37_2, r_38_2, r_48_2, r_36_3, r_37_3, r_36_4, r_37_4, r_36_5, r_37_5, r_39, r_8, al_13, al_14, al_15, al_16, al_18, al_19, al_25, al_26, al_27, al_28, al_29, al_30, al_31, al_32, al_33, al_34, al_35, al_36, al_37, al_38, al_39, al_40, al_41, al_42, al_43, al_44, al_45, al_46, al_48, al_49, al_50, al_51, al_52, al_53, al_54, al_55, al_56, al_57, al_58, al_59, al_60, al_61, al_62, al_63, al_64, al_65, al_66, al_67, al_68, al_69, al_70, rf_0_0, rf_0_1, rf_0_2, rf_0_3, rf_0_4, rf_0_5, rf_0_6, rf_0_7, rf_0_8, rf_0_10, rf_0_11, rf_1_0, rf_1_1, rf_1_2, rf_2_0, rf_2_1, rf_2_2, rf_3_0, rf_3_1, rf_3_2, rf_4_0, rf_4_1, rf_4_2, rf_5_0, rf_5_1, rf_5_2, rf_6_0, rf_6_1, rf_7_0, rf_7_1, rf_8_0, rf_8_1, rf_8_5, rf_8_6, rf_8_7, rf_8_8, rf_8_9, rf_9_0, rf_10_0, rf_11_0, rf_12_0, rf_47_0, rf_47_1, rf_47_2, rf_47_3, rf_47_5, rf_47_6, rf_47_8, rf_47_10, rf_47_12, rf_47_14, rf_47_15, rf_47_16, rf_47_17, rf_47_18, rf_47_19, rf_47_20, rf_47_21, rf_47_22, rf_47_23, rf_47_24, rf_47_26, rf_47_27, rf_47_29, rf_17, rf_20, rf_21, rf_22, rf_23, rf_24, rl_17, rl_20, rl_21, rl_22, rl_23, rl_24, hrf, ha, c1, b0]
    rw [if_neg (by omega), m_i0 (by omega) (by omega)]
    grind
theorem c_fitting {μ T : MMem} (hI : CI μ T) (hG : SG μ T) {c k col f l : Int} {n : Nat} (hn : f + n = l + 1) (hc : (c = 1 ∧ f = 0 ∧ l = 2) ∨ (c = 2 ∧ f = 1 ∧ l = 20)) (hcol : c = 1 + col) (hk : 0 ≤ k ∧ k < T 0 0) : ∃ μ' : MMem, FB μ μ' ∧ ∀ Q : MVal → MMem → Prop, Cal 74 [(9, 0), (0, k), (0, col), (0, f), (0, l)] μ Q = Q (0, ftN T c k f n) μ' := by
  have hrf : m_rf 20 col = 24 + c := by
    rcases hc with ⟨rfl, _⟩ | ⟨rfl, _⟩
    · rw [show col = 0 by omega]; rfl
    · rw [show col = 1 by omega]; rfl
  have ha : m_al (24 + c) = 6 := by
    rcases hc with ⟨rfl, _⟩ | ⟨rfl, _⟩ <;> rfl
  have h8 := hI.1.1
  refine cal_ex (P := fun μ' => FB μ μ') rfl ?_
  show Rn 74 B74_0 [(9, 0), (0, k), (0, col), (0, f), (0, l), (14, 0), (14, 0), (14, 0)] [] μ _
  simp only [t74_0, t74_2, t74_3, B74_0, B74_1, B74_2, B74_3, Classical.not_not, Prod.mk.injEq, m_l, m_lp, m_lq, m_ps, m_ws, m_en, List.replicate, if_true, if_false, reduceIte, true_and, and_true, false_and, and_false, true_or, or_true, false_or, or_false, and_self, or_self, not_true_eq_false, not_false_eq_true, ne_eq, Nat.reduceLeDiff, Nat.reduceEqDiff, Nat.reduceAdd, Int.reduceLE, Int.reduceLT, Int.reduceEq, Int.reduceNe, Int.reduceAdd, Int.reduceNeg, Nat.reduceSub, Nat.succ_ne_zero, Nat.not_succ_le_zero, Nat.reduceMul, Int.reduceMul, Int.reduceSub, Int.reduceToNat, Nat.zero_le, Nat.reduceLT, r_0, r_1, r_2, r_3, r_4, r_5, r_6, r_7, r_9, r_10, r_11, r_12, r_13, r_14, r_15, r_16, r_17, r_18, r_19, r_20_0, r_21_0, r_20_1, r_21_1, r_20_2, r_21_2, r_20_3, r_21_3, r_20_4, r_21_4, r_20_5, r_21_5, r_22_0, r_22_1, r_23, r_24, r_25, r_26, r_27, r_28, r_29, r_30_0, r_30_1, r_30_2, r_31, r_31b, r_32, r_33, r_33b, r_33c, r_34, r_34b, r_35, r_45, r_46, r_47_0, r_47_1, r_40, r_50, r_51, r_41_0, r_41_1, r_42, r_43, r_44, r_36_0, r_37_0, r_38_0, r_48_0, r_36_1, r_37_1, r_38_1, r_48_1, r_36_2, r_37_2, r_38_2, r_48_2, r_36_3, r_37_3, r_36_4, r_37_4, r_36_5, r_37_5, r_39, r_8, al_13, al_14, al_15, al_16, al_18, al_19, al_25, al_26, al_27, al_28, al_29, al_30, al_31, al_32, al_33, al_34, al_35, al_36, al_37, al_38, al_39, al_40, al_41, al_42, al_43, al_44, al_45, al_46, al_48, al_49, al_50, al_51, al_52, al_53, al_54, al_55, al_56, al_57, al_58, al_59, al_60, al_61, al_62, al_63, al_64, al_65, al_66, al_67, al_68, al_69, al_70, rf_0_0, rf_0_1, rf_0_2, rf_0_3, rf_0_4, rf_0_5, rf_0_6, rf_0_7, rf_0_8, rf_0_10, rf_0_11, rf_1_0, rf_1_1, rf_1_2, rf_2_0, rf_2_1, rf_2_2, rf_3_0, rf_3_1, rf_3_2, rf_4_0, rf_4_1, rf_4_2, rf_5_0, rf_5_1, rf_5_2, rf_6_0, rf_6_1, rf_7_0, rf_7_1, rf_8_0, rf_8_1, rf_8_5, rf_8_6, rf_8_7, rf_8_8, rf_8_9, rf_9_0, rf_10_0, rf_11_0, rf_12_0, rf_47_0, rf_47_1, rf_47_2, rf_47_3, rf_47_5, rf_47_6, rf_47_8, rf_47_10, rf_47_12, rf_47_14, rf_47_15, rf_47_16, rf_47_17, rf_47_18, rf_47_19, rf_47_20, rf_47_21, rf_47_22, rf_47_23, rf_47_24, rf_47_26, rf_47_27, rf_47_29, rf_17, rf_20, rf_21, rf_22, rf_23, rf_24, rl_17, rl_20, rl_21, rl_22, rl_23, rl_24, hrf, ha]
  refine ⟨by omega, by omega, ?_⟩
  have := c_fitL hI hG hn hc hcol hrf hk (Q := fun a b => a = (0, ftN T c k f n) ∧ FB μ b) (fun μ' hf => ⟨rfl, hf⟩) n 0 μ (by omega) ⟨fun _ _ _ _ => rfl, fun _ _ => rfl⟩
  rw [show f + ((0 : Nat) : Int) = f by omega] at this
  exact this
def wasS (T : MMem) (i w : Int) : Int := if w = 0 then ftN T 2 i 1 20 else ftN T 1 i 0 3
theorem c_was {T : MMem} (μ : MMem) (hI : CI μ T) (hG : SG μ T) (i w : Int) : ∃ μ' : MMem, FB μ μ' ∧ ∀ Q : MVal → MMem → Prop, Cal 68 [(9, 0), (0, i), (0, w)] μ Q = Q (0, if (0 ≤ i ∧ i < T 0 0) ∧ (0 ≤ w ∧ w < 2) then wasS T i w else -2) μ' := by
  obtain ⟨hT, hC, hE, h3⟩ := id hI
  refine cal_ex (P := fun μ' => FB μ μ') rfl ?_
  show Rn 68 B68_0 [(9, 0), (0, i), (0, w)] [] μ _
  simp only [t68_0, t68_1, t68_2, t68_3, t68_4, B68_0, B68_1, B68_2, B68_3, B68_4, Classical.not_not, Prod.mk.injEq, m_l, m_lp, m_lq, m_ps, m_ws, m_en, List.replicate, if_true, if_false, reduceIte, true_and, and_true, false_and, and_false, true_or, or_true, false_or, or_false, and_self, or_self, not_true_eq_false, not_false_eq_true, ne_eq, Nat.reduceLeDiff, Nat.reduceEqDiff, Nat.reduceAdd, Int.reduceLE, Int.reduceLT, Int.reduceEq, Int.reduceNe, Int.reduceAdd, Int.reduceNeg, Nat.reduceSub, Nat.succ_ne_zero, Nat.not_succ_le_zero, Nat.reduceMul, Int.reduceMul, Int.reduceSub, Int.reduceToNat, Nat.zero_le, Nat.reduceLT, r_0, r_1, r_2, r_3, r_4, r_5, r_6, r_7, r_9, r_10, r_11, r_12, r_13, r_14, r_15, r_16, r_17, r_18, r_19, r_20_0, r_21_0, r_20_1, r_21_1, r_20_2, r_21_2, r_20_3, r_21_3, r_20_4, r_21_4, r_20_5, r_21_5, r_22_0, r_22_1, r_23, r_24, r_25, r_26, r_27, r_28, r_29, r_30_0, r_30_1, r_30_2, r_31, r_31b, r_32, r_33, r_33b, r_33c, r_34, r_34b, r_35, r_45, r_46, r_47_0, r_47_1, r_40, r_50, r_51, r_41_0, r_41_1, r_42, r_43, r_44, r_36_0, r_37_0, r_38_0, r_48_0, r_36_1, r_37_1, r_38_1, r_48_1, r_36_2, r_37_2, r_38_2, r_48_2, r_36_3, r_37_3, r_36_4, r_37_4, r_36_5, r_37_5, r_39, r_8, al_13, al_14, al_15, al_16, al_18, al_19, al_25, al_26, al_27, al_28, al_29, al_30, al_31, al_32, al_33, al_34, al_35, al_36, al_37, al_38, al_39, al_40, al_41, al_42, al_43, al_44, al_45, al_46, al_48, al_49, al_50, al_51, al_52, al_53, al_54, al_55, al_56, al_57, al_58, al_59, al_60, al_61, al_62, al_63, al_64, al_65, al_66, al_67, al_68, al_69, al_70, rf_0_0, rf_0_1, rf_0_2, rf_0_3, rf_0_4, rf_0_5, rf_0_6, rf_0_7, rf_0_8, rf_0_10, rf_0_11, rf_1_0, rf_1_1, rf_1_2, rf_2_0, rf_2_1, rf_2_2, rf_3_0, rf_3_1, rf_3_2, rf_4_0, rf_4_1, rf_4_2, rf_5_0, rf_5_1, rf_5_2, rf_6_0, rf_6_1, rf_7_0, rf_7_1, rf_8_0, rf_8_1, rf_8_5, rf_8_6, rf_8_7, rf_8_8, rf_8_9, rf_9_0, rf_10_0, rf_11_0, rf_12_0, rf_47_0, rf_47_1, rf_47_2, rf_47_3, rf_47_5, rf_47_6, rf_47_8, rf_47_10, rf_47_12, rf_47_14, rf_47_15, rf_47_16, rf_47_17, rf_47_18, rf_47_19, rf_47_20, rf_47_21, rf_47_22, rf_47_23, rf_47_24, rf_47_26, rf_47_27, rf_47_29, rf_17, rf_20, rf_21, rf_22, rf_23, rf_24, rl_17, rl_20, rl_21, rl_22, rl_23, rl_24, c_isBelow, c_hasRow 1 i (show (0 : Int) ≤ 1 by decide) μ, hC.1, b0, b1]
  have hrf := FB.rf μ
  by_cases hk : 0 ≤ i ∧ i < T 0 0
  case neg => simp only [hk, hrf, Classical.not_not, Prod.mk.injEq, m_l, m_lp, m_lq, m_ps, m_ws, m_en, List.replicate, if_true, if_false, reduceIte, true_and, and_true, false_and, and_false, true_or, or_true, false_or, or_false, and_self, or_self, not_true_eq_false, not_false_eq_true, ne_eq, Nat.reduceLeDiff, Nat.reduceEqDiff, Nat.reduceAdd, Int.reduceLE, Int.reduceLT, Int.reduceEq, Int.reduceNe, Int.reduceAdd, Int.reduceNeg, Nat.reduceSub, Nat.succ_ne_zero, Nat.not_succ_le_zero, Nat.reduceMul, Int.reduceMul, Int.reduceSub, Int.reduceToNat, Nat.zero_le, Nat.reduceLT]
  by_cases hw : 0 ≤ w ∧ w < 2
  case neg => simp only [hk, hw, hrf, Classical.not_not, Prod.mk.injEq, m_l, m_lp, m_lq, m_ps, m_ws, m_en, List.replicate, if_true, if_false, reduceIte, true_and, and_true, false_and, and_false, true_or, or_true, false_or, or_false, and_self, or_self, not_true_eq_false, not_false_eq_true, ne_eq, Nat.reduceLeDiff, Nat.reduceEqDiff, Nat.reduceAdd, Int.reduceLE, Int.reduceLT, Int.reduceEq, Int.reduceNe, Int.reduceAdd, Int.reduceNeg, Nat.reduceSub, Nat.succ_ne_zero, Nat.not_succ_le_zero, Nat.reduceMul, Int.reduceMul, Int.reduceSub, Int.reduceToNat, Nat.zero_le, Nat.reduceLT]
  obtain ⟨μ1, f1, c1⟩ := c_fitting hI hG (c := 2) (col := 1) (f := 1) (l := 20) (n := 20) (k := i) (by omega) (by omega) (by omega) hk
  obtain ⟨μ2, f2, c2⟩ := c_fitting hI hG (c := 1) (col := 0) (f := 0) (l := 2) (n := 3) (k := i) (by omega) (by omega) (by omega) hk
  simp only [hk, hw, Classical.not_not, Prod.mk.injEq, m_l, m_lp, m_lq, m_ps, m_ws, m_en, List.replicate, if_true, if_false, reduceIte, true_and, and_true, false_and, and_false, true_or, or_true, false_or, or_false, and_self, or_self, not_true_eq_false, not_false_eq_true, ne_eq, Nat.reduceLeDiff, Nat.reduceEqDiff, Nat.reduceAdd, Int.reduceLE, Int.reduceLT, Int.reduceEq, Int.reduceNe, Int.reduceAdd, Int.reduceNeg, Nat.reduceSub, Nat.succ_ne_zero, Nat.not_succ_le_zero, Nat.reduceMul, Int.reduceMul, Int.reduceSub, Int.reduceToNat, Nat.zero_le, Nat.reduceLT, c1, c2, r_0, r_1, r_2, r_3, r_4, r_5, r_6, r_7, r_9, r_10, r_11, r_12, r_13, r_14, r_15, r_16, r_17, r_18, r_19, r_20_0, r_21_0, r_20_1, r_21_1, r_20_2, r_21_2, r_20_3, r_21_3, r_20_4, r_21_4, r_20_5, r_21_5, r_22_0, r_22_1, r_23, r_24, r_25, r_26, r_27, r_28, r_29, r_30_0, r_30_1, r_30_2, r_31, r_31b, r_32, r_33, r_33b, r_33c, r_34, r_34b, r_35, r_45, r_46, r_47_0, r_47_1, r_40, r_50, r_51, r_41_0, r_41_1, r_42, r_43, r_44, r_36_0, r_37_0, r_38_0, r_48_0, r_36_1, r_37_1, r_38_1, r_48_1, r_36_2, r_37_2, r_38_2, r_48_2, r_36_3, r_37_3, r_36_4, r_37_4, r_36_5, r_37_5, r_39, r_8]
  unfold wasS
  grind
