/-- what the years depend on -/
def EQ9 (T T' : MMem) : Prop := (T' 0 0 = T 0 0 ∧ T' 0 1 = T 0 1 ∧ T' 0 2 = T 0 2 ∧ T' 0 3 = T 0 3) ∧ (T' 1 = T 1 ∧ T' 2 = T 2 ∧ T' 3 = T 3 ∧ T' 4 = T 4 ∧ T' 5 = T 5 ∧ T' 6 = T 6 ∧ T' 7 = T 7 ∧ T' 8 = T 8 ∧ T' 9 = T 9)
theorem hiN_c {T T' : MMem} (h : T' 3 = T 3) (σ : MMem) (i : Int) : ∀ n : Nat, hiN T' σ i n = hiN T σ i n
  | 0 => rfl
  | n + 1 => by rw [hiN, hiN, hiN_c h σ i n, h]
theorem loN_c {T T' : MMem} (h : T' 3 = T 3) (σ : MMem) (i : Int) : ∀ n : Nat, loN T' σ i n = loN T σ i n
  | 0 => rfl
  | n + 1 => by rw [loN, loN, loN_c h σ i n, h]
theorem happ_c {T T' : MMem} (h : EQ9 T T') (σ : MMem) (k i : Int) : happ T' σ k i = happ T σ k i := by
  obtain ⟨⟨a0, a1, a2, a3⟩, b1, b2, b3, b4, b5, b6, b7, b8, b9⟩ := h
  have enb : nb T' = nb T := by unfold nb; rw [a1]
  have es : sawS T' σ i = sawS T σ i := by
    funext c j
    unfold sawS
    rw [a1, b3]
  unfold happ
  rw [es, enb, hiN_c b3, loN_c b3]
theorem comeS_c {T T' : MMem} (h : EQ9 T T') (σ : MMem) (k : Int) : comeS T' σ k = comeS T σ k := by
  obtain ⟨⟨a0, a1, a2, a3⟩, b1, b2, b3, b4, b5, b6, b7, b8, b9⟩ := h
  unfold comeS brou wid
  rw [a0, a1, b1, b2, b3, b5, b6]
theorem evN_c {T T' : MMem} (h : EQ9 T T') (σ : MMem) (y : Int) : ∀ n : Nat, evN T' σ y n = evN T σ y n
  | 0 => rfl
  | n + 1 => by
    rw [evN, evN, evN_c h σ y n, happ_c h, h.1.2.2.2, h.2.2.2.2.2.2.2.1, h.2.2.2.2.2.2.2.2.1, h.2.2.2.2.2.2.2.2.2]
theorem brN_c {T T' : MMem} (h : EQ9 T T') (σ : MMem) (y : Int) : ∀ n : Nat, brN T' σ y n = brN T σ y n
  | 0 => rfl
  | n + 1 => by
    rw [brN, brN, brN_c h σ y n, comeS_c h, h.2.2.2.2.1]
theorem yearS_c {T T' : MMem} (h : EQ9 T T') (σ : MMem) (y : Int) : yearS T' σ y = yearS T σ y := by
  have enb : nb T' = nb T := by unfold nb; rw [h.1.2.1]
  have ene : ne T' = ne T := by unfold ne; rw [h.1.2.2.1]
  unfold yearS
  rw [enb, ene, evN_c h, brN_c h]
theorem sm_c {T T' : MMem} (h : EQ9 T T') : ∀ n : Nat, sm T' n = sm T n := by
  have e0 : sim0 T' = sim0 T := by
    funext c k
    unfold sim0
    rw [h.2.2.1]
  intro n
  induction n with
  | zero => exact e0
  | succ n ih =>
    show yearS T' (sm T' n) (0 + n) = yearS T (sm T n) (0 + n)
    rw [ih, yearS_c h]
theorem opN_c {T T' : MMem} (h : EQ9 T T') (σ : MMem) : ∀ n : Nat, opN T' σ n = opN T σ n
  | 0 => rfl
  | n + 1 => by
    have enb : nb T' = nb T := by unfold nb; rw [h.1.2.1]
    rw [opN, opN, opN_c h σ n, enb, hiN_c h.2.2.2.1]
theorem EQ9.g {T T' : MMem} (h : EQ9 T T') (m : Int) : EQ9 (gn T m) (gn T' m) := by
  unfold EQ9 at *
  have e : ∀ (T : MMem) (a : Int), a ≠ 0 → gn T m a = T a := fun T a ha => gn_ne T m ha
  simp only [gn_3, gn_at T m (show (0 : Int) ≠ 3 by decide), gn_at T m (show (1 : Int) ≠ 3 by decide), gn_at T m (show (2 : Int) ≠ 3 by decide), gn_at T' m (show (0 : Int) ≠ 3 by decide), gn_at T' m (show (1 : Int) ≠ 3 by decide), gn_at T' m (show (2 : Int) ≠ 3 by decide), e T 1 (by decide), e T 2 (by decide), e T 3 (by decide), e T 4 (by decide), e T 5 (by decide), e T 6 (by decide), e T 7 (by decide), e T 8 (by decide), e T 9 (by decide), e T' 1 (by decide), e T' 2 (by decide), e T' 3 (by decide), e T' 4 (by decide), e T' 5 (by decide), e T' 6 (by decide), e T' 7 (by decide), e T' 8 (by decide), e T' 9 (by decide)]
  exact ⟨⟨h.1.1, h.1.2.1, h.1.2.2.1, trivial⟩, h.2⟩
theorem ow_c {T T' : MMem} (h : EQ9 T T') (m : Int) : ow T' m = ow T m := by
  have enh : nh T' = nh T := by unfold nh; rw [h.1.1]
  unfold ow
  rw [sm_c (h.g m), opN_c (h.g m), enh]
theorem MO.c {μ ν T T' : MMem} (h : MO μ T) (h9 : ν 0 9 = μ 0 9) (h18 : ν 18 = μ 18) (e : EQ9 T T') : MO ν T' := by
  unfold MO at *
  rw [h9, h18]
  refine ⟨h.1, fun q m m0 m1 => ?_⟩
  rw [ow_c e]
  exact h.2 q m m0 m1
theorem MO.stale {μ T : MMem} (h : μ 0 9 = 1) : MO μ T := ⟨Or.inr h, fun q => by omega⟩
theorem INV.find {μ : MMem} (h : INV μ) (n : Int) : INV (m_w (m_w μ 0 12 n) 47 4 n) := by
  refine (h.same (fun a ha => by rw [mw_ne (by omega), mw_ne (by omega)]) ?_ ?_ ?_ ?_ ?_).1
  · have := h.2.2.2.2.2.1
    unfold MO at *
    simp only [mw8, mw_ne (show (18 : Int) ≠ 47 by decide), mw_ne (show (18 : Int) ≠ 0 by decide), Classical.not_not, Prod.mk.injEq, m_l, m_lp, m_lq, m_ps, m_ws, m_en, List.replicate, if_true, if_false, reduceIte, true_and, and_true, false_and, and_false, true_or, or_true, false_or, or_false, and_self, or_self, not_true_eq_false, not_false_eq_true, ne_eq, Nat.reduceLeDiff, Nat.reduceEqDiff, Nat.reduceAdd, Int.reduceLE, Int.reduceLT, Int.reduceEq, Int.reduceNe, Int.reduceAdd, Int.reduceNeg, Nat.reduceSub, Nat.succ_ne_zero, Nat.not_succ_le_zero, Nat.reduceMul, Int.reduceMul, Int.reduceSub, Int.reduceToNat, Nat.zero_le, Nat.reduceLT]
    exact this
  · simp only [mw8, Classical.not_not, Prod.mk.injEq, m_l, m_lp, m_lq, m_ps, m_ws, m_en, List.replicate, if_true, if_false, reduceIte, true_and, and_true, false_and, and_false, true_or, or_true, false_or, or_false, and_self, or_self, not_true_eq_false, not_false_eq_true, ne_eq, Nat.reduceLeDiff, Nat.reduceEqDiff, Nat.reduceAdd, Int.reduceLE, Int.reduceLT, Int.reduceEq, Int.reduceNe, Int.reduceAdd, Int.reduceNeg, Nat.reduceSub, Nat.succ_ne_zero, Nat.not_succ_le_zero, Nat.reduceMul, Int.reduceMul, Int.reduceSub, Int.reduceToNat, Nat.zero_le, Nat.reduceLT]
  · simp only [mw8, Classical.not_not, Prod.mk.injEq, m_l, m_lp, m_lq, m_ps, m_ws, m_en, List.replicate, if_true, if_false, reduceIte, true_and, and_true, false_and, and_false, true_or, or_true, false_or, or_false, and_self, or_self, not_true_eq_false, not_false_eq_true, ne_eq, Nat.reduceLeDiff, Nat.reduceEqDiff, Nat.reduceAdd, Int.reduceLE, Int.reduceLT, Int.reduceEq, Int.reduceNe, Int.reduceAdd, Int.reduceNeg, Nat.reduceSub, Nat.succ_ne_zero, Nat.not_succ_le_zero, Nat.reduceMul, Int.reduceMul, Int.reduceSub, Int.reduceToNat, Nat.zero_le, Nat.reduceLT]
  · simp only [mw8, Classical.not_not, Prod.mk.injEq, m_l, m_lp, m_lq, m_ps, m_ws, m_en, List.replicate, if_true, if_false, reduceIte, true_and, and_true, false_and, and_false, true_or, or_true, false_or, or_false, and_self, or_self, not_true_eq_false, not_false_eq_true, ne_eq, Nat.reduceLeDiff, Nat.reduceEqDiff, Nat.reduceAdd, Int.reduceLE, Int.reduceLT, Int.reduceEq, Int.reduceNe, Int.reduceAdd, Int.reduceNeg, Nat.reduceSub, Nat.succ_ne_zero, Nat.not_succ_le_zero, Nat.reduceMul, Int.reduceMul, Int.reduceSub, Int.reduceToNat, Nat.zero_le, Nat.reduceLT]
  · simp only [mw8, Classical.not_not, Prod.mk.injEq, m_l, m_lp, m_lq, m_ps, m_ws, m_en, List.replicate, if_true, if_false, reduceIte, true_and, and_true, false_and, and_false, true_or, or_true, false_or, or_false, and_self, or_self, not_true_eq_false, not_false_eq_true, ne_eq, Nat.reduceLeDiff, Nat.reduceEqDiff, Nat.reduceAdd, Int.reduceLE, Int.reduceLT, Int.reduceEq, Int.reduceNe, Int.reduceAdd, Int.reduceNeg, Nat.reduceSub, Nat.succ_ne_zero, Nat.not_succ_le_zero, Nat.reduceMul, Int.reduceMul, Int.reduceSub, Int.reduceToNat, Nat.zero_le, Nat.reduceLT]
theorem l_find {μ : MMem} (h : INV μ) {f g : Nat} {as : List MVal} {v : Int} {n : Int} (c1 : ∀ Q : MVal → MMem → Prop, Cal f ((9, 0) :: as) μ Q = Q (0, v) (m_w μ 0 12 n)) (c2 : ∀ Q : MVal → MMem → Prop, Cal g ((10, 47) :: as) (m_w μ 0 12 n) Q = Q (0, v) (m_w (m_w μ 0 12 n) 47 4 n)) : LW 0 f g as μ := ⟨_, _, v, c1, c2, h.find n, by rw [mw_ne (by decide), mw_ne (by decide)], by rw [mw_ne (by decide)]⟩
theorem l_no {μ : MMem} (h : INV μ) {f g : Nat} {as : List MVal} {v : Int} (c1 : ∀ Q : MVal → MMem → Prop, Cal f ((9, 0) :: as) μ Q = Q (0, v) μ) (c2 : ∀ Q : MVal → MMem → Prop, Cal g ((10, 47) :: as) μ Q = Q (0, v) μ) : LW 0 f g as μ := ⟨_, _, v, c1, c2, h, rfl, rfl⟩
/-- sights -/
theorem tT_sg {μ ν : MMem} (h1 : ν 1 = μ 1) (h2 : ν 2 = μ 2) (h3 : ν 3 = μ 3) (hr : ∀ a, 25 ≤ a → a ≤ 33 → ν a = μ a) : EQ9 (tT μ) (tT ν) := by
  refine ⟨⟨congrFun h1 3, congrFun h2 3, congrFun h3 3, rfl⟩, ?_⟩
  have e : ∀ a : Int, 1 ≤ a → a ≤ 9 → tT ν a = tT μ a := fun a a1 a2 => by
    funext b
    unfold tT
    rw [if_neg (by omega), if_pos ⟨a1, a2⟩, if_neg (by omega), if_pos ⟨a1, a2⟩, hr (24 + a) (by omega) (by omega)]
  exact ⟨e 1 (by decide) (by decide), e 2 (by decide) (by decide), e 3 (by decide) (by decide), e 4 (by decide) (by decide), e 5 (by decide) (by decide), e 6 (by decide) (by decide), e 7 (by decide) (by decide), e 8 (by decide) (by decide), e 9 (by decide) (by decide)⟩
/-- only sights change -/
theorem INV.sights {μ ν : MMem} (h : INV μ) (hc : ∀ a, a ≠ 5 → (a < 37 ∨ 39 < a) → a ≠ 47 → a ≠ 68 → ν a = μ a) (h47 : ∀ j, j ≠ 25 → ν 47 j = μ 47 j) (hs : SGr ν) (hd : DSr ν) : INV ν := by
  obtain ⟨i1, i2, i3, i4, i5, i6, i7, i8, i9, i10⟩ := h
  have c : ∀ a : Int, a ≠ 5 → (a < 37 ∨ (39 < a ∧ a ≠ 47 ∧ a ≠ 68)) → ν a = μ a := fun a a1 a2 => hc a a1 (by omega) (by omega) (by omega)
  refine ⟨i1.c (c 1 (by decide) (by decide)) (c 6 (by decide) (by decide)) (c 25 (by decide) (by decide)) (c 26 (by decide) (by decide)) (c 40 (by decide) (by decide)), i2.c (c 2 (by decide) (by decide)) (c 7 (by decide) (by decide)) (c 27 (by decide) (by decide)) (c 28 (by decide) (by decide)) (c 29 (by decide) (by decide)) (c 30 (by decide) (by decide)) (c 41 (by decide) (by decide)), i3.c (c 3 (by decide) (by decide)) (c 31 (by decide) (by decide)) (c 32 (by decide) (by decide)) (c 33 (by decide) (by decide)), i4.c (c 6 (by decide) (by decide)) (c 7 (by decide) (by decide)) (c 40 (by decide) (by decide)) (c 41 (by decide) (by decide)) (c 52 (by decide) (by decide)) (c 53 (by decide) (by decide)), i5.c (c 3 (by decide) (by decide)) (c 31 (by decide) (by decide)) (c 32 (by decide) (by decide)) (c 33 (by decide) (by decide)) (c 56 (by decide) (by decide)) (h47 11 (by decide)) (h47 13 (by decide)), ?_, hs, hd, i9.c (fun a a1 a2 => c a (by omega) (by omega)) (c 48 (by decide) (by decide)) (c 49 (by decide) (by decide)) (c 50 (by decide) (by decide)), ?_⟩
  · exact i6.c (by rw [c 0 (by decide) (by decide)]) (c 18 (by decide) (by decide)) (tT_sg (c 1 (by decide) (by decide)) (c 2 (by decide) (by decide)) (c 3 (by decide) (by decide)) (fun a a1 a2 => c a (by omega) (by omega)))
  · rw [h47 4 (by decide), c 0 (by decide) (by decide)]
    exact i10
theorem l_forget {μ : MMem} (h : INV μ) : LW 0 66 174 [] μ := by
  have e : m_w μ 5 3 0 47 25 = μ 5 3 := by rw [mw_ne (by decide)]; exact h.2.2.2.2.2.2.2.1.1
  have c2 := d_forget (m_w μ 5 3 0)
  rw [e] at c2
  refine ⟨_, _, _, c_forget μ, c2, ?_, by rw [mw_ne (by decide), mw_ne (by decide)], by rw [mw_ne (by decide)]⟩
  refine h.sights (fun a a1 a2 a3 a4 => by rw [mw_ne a3, mw_ne a1]) (fun j hj => by rw [mw_at, if_neg hj, mw_ne (by decide)]) ?_ ?_
  · refine ⟨?_, fun j j0 j1 => ?_⟩
    · simp only [mw8, Classical.not_not, Prod.mk.injEq, m_l, m_lp, m_lq, m_ps, m_ws, m_en, List.replicate, if_true, if_false, reduceIte, true_and, and_true, false_and, and_false, true_or, or_true, false_or, or_false, and_self, or_self, not_true_eq_false, not_false_eq_true, ne_eq, Nat.reduceLeDiff, Nat.reduceEqDiff, Nat.reduceAdd, Int.reduceLE, Int.reduceLT, Int.reduceEq, Int.reduceNe, Int.reduceAdd, Int.reduceNeg, Nat.reduceSub, Nat.succ_ne_zero, Nat.not_succ_le_zero, Nat.reduceMul, Int.reduceMul, Int.reduceSub, Int.reduceToNat, Nat.zero_le, Nat.reduceLT]
    · simp only [mw8, Classical.not_not, Prod.mk.injEq, m_l, m_lp, m_lq, m_ps, m_ws, m_en, List.replicate, if_true, if_false, reduceIte, true_and, and_true, false_and, and_false, true_or, or_true, false_or, or_false, and_self, or_self, not_true_eq_false, not_false_eq_true, ne_eq, Nat.reduceLeDiff, Nat.reduceEqDiff, Nat.reduceAdd, Int.reduceLE, Int.reduceLT, Int.reduceEq, Int.reduceNe, Int.reduceAdd, Int.reduceNeg, Nat.reduceSub, Nat.succ_ne_zero, Nat.not_succ_le_zero, Nat.reduceMul, Int.reduceMul, Int.reduceSub, Int.reduceToNat, Nat.zero_le, Nat.reduceLT] at j1
      omega
  · refine ⟨?_, fun j j0 j1 => ?_⟩
    · simp only [mw8, Classical.not_not, Prod.mk.injEq, m_l, m_lp, m_lq, m_ps, m_ws, m_en, List.replicate, if_true, if_false, reduceIte, true_and, and_true, false_and, and_false, true_or, or_true, false_or, or_false, and_self, or_self, not_true_eq_false, not_false_eq_true, ne_eq, Nat.reduceLeDiff, Nat.reduceEqDiff, Nat.reduceAdd, Int.reduceLE, Int.reduceLT, Int.reduceEq, Int.reduceNe, Int.reduceAdd, Int.reduceNeg, Nat.reduceSub, Nat.succ_ne_zero, Nat.not_succ_le_zero, Nat.reduceMul, Int.reduceMul, Int.reduceSub, Int.reduceToNat, Nat.zero_le, Nat.reduceLT]
    · simp only [mw8, Classical.not_not, Prod.mk.injEq, m_l, m_lp, m_lq, m_ps, m_ws, m_en, List.replicate, if_true, if_false, reduceIte, true_and, and_true, false_and, and_false, true_or, or_true, false_or, or_false, and_self, or_self, not_true_eq_false, not_false_eq_true, ne_eq, Nat.reduceLeDiff, Nat.reduceEqDiff, Nat.reduceAdd, Int.reduceLE, Int.reduceLT, Int.reduceEq, Int.reduceNe, Int.reduceAdd, Int.reduceNeg, Nat.reduceSub, Nat.succ_ne_zero, Nat.not_succ_le_zero, Nat.reduceMul, Int.reduceMul, Int.reduceSub, Int.reduceToNat, Nat.zero_le, Nat.reduceLT] at j1
      omega
theorem l_seen {μ : MMem} (h : INV μ) (y i g : Int) : LW 0 65 173 [(0, y), (0, i), (0, g)] μ := by
  have i7 := h.2.2.2.2.2.2.1
  have i8 := h.2.2.2.2.2.2.2.1
  have h25 := i8.1
  have n7 := i7.1
  by_cases hb : sbP y i g
  · have hb' := hb
    unfold sbP at hb'
    by_cases h8 : μ 5 3 = 8
    · have c2 := d_seen μ (by omega) (by omega) y i g
      rw [if_pos hb', if_pos (by omega), if_neg (fun q => q.2 (by omega))] at c2
      exact l_no h (c_sn_full hb h8) c2
    · have c1 := c_sn_ok hb i7.1.1 (by omega)
      have e25 : sgW μ y i g 47 25 = μ 5 3 := by
        unfold sgW
        simp only [mw8, Classical.not_not, Prod.mk.injEq, m_l, m_lp, m_lq, m_ps, m_ws, m_en, List.replicate, if_true, if_false, reduceIte, true_and, and_true, false_and, and_false, true_or, or_true, false_or, or_false, and_self, or_self, not_true_eq_false, not_false_eq_true, ne_eq, Nat.reduceLeDiff, Nat.reduceEqDiff, Nat.reduceAdd, Int.reduceLE, Int.reduceLT, Int.reduceEq, Int.reduceNe, Int.reduceAdd, Int.reduceNeg, Nat.reduceSub, Nat.succ_ne_zero, Nat.not_succ_le_zero, Nat.reduceMul, Int.reduceMul, Int.reduceSub, Int.reduceToNat, Nat.zero_le, Nat.reduceLT]
        exact h25
      have c2 := d_seen (sgW μ y i g) (by omega) (by omega) y i g
      rw [if_pos hb', if_neg (by omega), if_pos ⟨hb', by omega⟩] at c2
      unfold snW at c2
      rw [e25] at c2
      refine ⟨_, _, _, c1, c2, ?_, ?_, ?_⟩
      · have hn := i7.1
        generalize hnn : μ 5 3 = n at *
        have e5 : sgW μ y i g = m_w (m_w (m_w (m_w μ 37 n y) 38 n i) 39 n g) 5 3 (n + 1) := by unfold sgW; rw [hnn]
        rw [e5]
        refine h.sights (fun a a1 a2 a3 a4 => ?_) (fun j hj => ?_) ⟨?_, fun j j0 j1 => ?_⟩ ⟨?_, fun j j0 j1 => ?_⟩
        · rw [mw_ne a3, mw_ne a4, mw_ne a4, mw_ne a4, mw_ne a1, mw_ne (by omega), mw_ne (by omega), mw_ne (by omega)]
        · simp only [mw8, Classical.not_not, Prod.mk.injEq, m_l, m_lp, m_lq, m_ps, m_ws, m_en, List.replicate, if_true, if_false, reduceIte, true_and, and_true, false_and, and_false, true_or, or_true, false_or, or_false, and_self, or_self, not_true_eq_false, not_false_eq_true, ne_eq, Nat.reduceLeDiff, Nat.reduceEqDiff, Nat.reduceAdd, Int.reduceLE, Int.reduceLT, Int.reduceEq, Int.reduceNe, Int.reduceAdd, Int.reduceNeg, Nat.reduceSub, Nat.succ_ne_zero, Nat.not_succ_le_zero, Nat.reduceMul, Int.reduceMul, Int.reduceSub, Int.reduceToNat, Nat.zero_le, Nat.reduceLT, hj]
        · simp only [mw8, Classical.not_not, Prod.mk.injEq, m_l, m_lp, m_lq, m_ps, m_ws, m_en, List.replicate, if_true, if_false, reduceIte, true_and, and_true, false_and, and_false, true_or, or_true, false_or, or_false, and_self, or_self, not_true_eq_false, not_false_eq_true, ne_eq, Nat.reduceLeDiff, Nat.reduceEqDiff, Nat.reduceAdd, Int.reduceLE, Int.reduceLT, Int.reduceEq, Int.reduceNe, Int.reduceAdd, Int.reduceNeg, Nat.reduceSub, Nat.succ_ne_zero, Nat.not_succ_le_zero, Nat.reduceMul, Int.reduceMul, Int.reduceSub, Int.reduceToNat, Nat.zero_le, Nat.reduceLT]
          omega
        · simp only [mw8, Classical.not_not, Prod.mk.injEq, m_l, m_lp, m_lq, m_ps, m_ws, m_en, List.replicate, if_true, if_false, reduceIte, true_and, and_true, false_and, and_false, true_or, or_true, false_or, or_false, and_self, or_self, not_true_eq_false, not_false_eq_true, ne_eq, Nat.reduceLeDiff, Nat.reduceEqDiff, Nat.reduceAdd, Int.reduceLE, Int.reduceLT, Int.reduceEq, Int.reduceNe, Int.reduceAdd, Int.reduceNeg, Nat.reduceSub, Nat.succ_ne_zero, Nat.not_succ_le_zero, Nat.reduceMul, Int.reduceMul, Int.reduceSub, Int.reduceToNat, Nat.zero_le, Nat.reduceLT] at j1 ⊢
          by_cases q : j = n
          · simp only [q, Classical.not_not, Prod.mk.injEq, m_l, m_lp, m_lq, m_ps, m_ws, m_en, List.replicate, if_true, if_false, reduceIte, true_and, and_true, false_and, and_false, true_or, or_true, false_or, or_false, and_self, or_self, not_true_eq_false, not_false_eq_true, ne_eq, Nat.reduceLeDiff, Nat.reduceEqDiff, Nat.reduceAdd, Int.reduceLE, Int.reduceLT, Int.reduceEq, Int.reduceNe, Int.reduceAdd, Int.reduceNeg, Nat.reduceSub, Nat.succ_ne_zero, Nat.not_succ_le_zero, Nat.reduceMul, Int.reduceMul, Int.reduceSub, Int.reduceToNat, Nat.zero_le, Nat.reduceLT]
            omega
          · simp only [q, Classical.not_not, Prod.mk.injEq, m_l, m_lp, m_lq, m_ps, m_ws, m_en, List.replicate, if_true, if_false, reduceIte, true_and, and_true, false_and, and_false, true_or, or_true, false_or, or_false, and_self, or_self, not_true_eq_false, not_false_eq_true, ne_eq, Nat.reduceLeDiff, Nat.reduceEqDiff, Nat.reduceAdd, Int.reduceLE, Int.reduceLT, Int.reduceEq, Int.reduceNe, Int.reduceAdd, Int.reduceNeg, Nat.reduceSub, Nat.succ_ne_zero, Nat.not_succ_le_zero, Nat.reduceMul, Int.reduceMul, Int.reduceSub, Int.reduceToNat, Nat.zero_le, Nat.reduceLT]
            exact i7.2 j j0 (by omega)
        · simp only [mw8, Classical.not_not, Prod.mk.injEq, m_l, m_lp, m_lq, m_ps, m_ws, m_en, List.replicate, if_true, if_false, reduceIte, true_and, and_true, false_and, and_false, true_or, or_true, false_or, or_false, and_self, or_self, not_true_eq_false, not_false_eq_true, ne_eq, Nat.reduceLeDiff, Nat.reduceEqDiff, Nat.reduceAdd, Int.reduceLE, Int.reduceLT, Int.reduceEq, Int.reduceNe, Int.reduceAdd, Int.reduceNeg, Nat.reduceSub, Nat.succ_ne_zero, Nat.not_succ_le_zero, Nat.reduceMul, Int.reduceMul, Int.reduceSub, Int.reduceToNat, Nat.zero_le, Nat.reduceLT]
        · simp only [mw8, Classical.not_not, Prod.mk.injEq, m_l, m_lp, m_lq, m_ps, m_ws, m_en, List.replicate, if_true, if_false, reduceIte, true_and, and_true, false_and, and_false, true_or, or_true, false_or, or_false, and_self, or_self, not_true_eq_false, not_false_eq_true, ne_eq, Nat.reduceLeDiff, Nat.reduceEqDiff, Nat.reduceAdd, Int.reduceLE, Int.reduceLT, Int.reduceEq, Int.reduceNe, Int.reduceAdd, Int.reduceNeg, Nat.reduceSub, Nat.succ_ne_zero, Nat.not_succ_le_zero, Nat.reduceMul, Int.reduceMul, Int.reduceSub, Int.reduceToNat, Nat.zero_le, Nat.reduceLT] at j1 ⊢
          by_cases q : j = n
          · subst q
            have a1 : (3 * j = 3 * j + 1) = False := eq_false (by omega)
            have a2 : (3 * j = 3 * j + 2) = False := eq_false (by omega)
            have a3 : (3 * j + 1 = 3 * j + 2) = False := eq_false (by omega)
            simp only [a1, a2, a3, Classical.not_not, Prod.mk.injEq, m_l, m_lp, m_lq, m_ps, m_ws, m_en, List.replicate, if_true, if_false, reduceIte, true_and, and_true, false_and, and_false, true_or, or_true, false_or, or_false, and_self, or_self, not_true_eq_false, not_false_eq_true, ne_eq, Nat.reduceLeDiff, Nat.reduceEqDiff, Nat.reduceAdd, Int.reduceLE, Int.reduceLT, Int.reduceEq, Int.reduceNe, Int.reduceAdd, Int.reduceNeg, Nat.reduceSub, Nat.succ_ne_zero, Nat.not_succ_le_zero, Nat.reduceMul, Int.reduceMul, Int.reduceSub, Int.reduceToNat, Nat.zero_le, Nat.reduceLT]
          · have z0 : (3 * j = 3 * n) = False := eq_false (by omega)
            have z1 : (3 * j = 3 * n + 1) = False := eq_false (by omega)
            have z2 : (3 * j = 3 * n + 2) = False := eq_false (by omega)
            have z3 : (3 * j + 1 = 3 * n) = False := eq_false (by omega)
            have z4 : (3 * j + 1 = 3 * n + 1) = False := eq_false (by omega)
            have z5 : (3 * j + 1 = 3 * n + 2) = False := eq_false (by omega)
            have z6 : (3 * j + 2 = 3 * n) = False := eq_false (by omega)
            have z7 : (3 * j + 2 = 3 * n + 1) = False := eq_false (by omega)
            have z8 : (3 * j + 2 = 3 * n + 2) = False := eq_false (by omega)
            simp only [z0, z1, z2, z3, z4, z5, z6, z7, z8, q, Classical.not_not, Prod.mk.injEq, m_l, m_lp, m_lq, m_ps, m_ws, m_en, List.replicate, if_true, if_false, reduceIte, true_and, and_true, false_and, and_false, true_or, or_true, false_or, or_false, and_self, or_self, not_true_eq_false, not_false_eq_true, ne_eq, Nat.reduceLeDiff, Nat.reduceEqDiff, Nat.reduceAdd, Int.reduceLE, Int.reduceLT, Int.reduceEq, Int.reduceNe, Int.reduceAdd, Int.reduceNeg, Nat.reduceSub, Nat.succ_ne_zero, Nat.not_succ_le_zero, Nat.reduceMul, Int.reduceMul, Int.reduceSub, Int.reduceToNat, Nat.zero_le, Nat.reduceLT]
            exact i8.2 j j0 (by omega)
      · unfold sgW
        simp only [mw_ne (show (202 : Int) ≠ 47 by decide), mw_ne (show (202 : Int) ≠ 68 by decide), mw_ne (show (202 : Int) ≠ 5 by decide), mw_ne (show (202 : Int) ≠ 39 by decide), mw_ne (show (202 : Int) ≠ 38 by decide), mw_ne (show (202 : Int) ≠ 37 by decide)]
      · unfold sgW
        simp only [mw_ne (show (202 : Int) ≠ 5 by decide), mw_ne (show (202 : Int) ≠ 39 by decide), mw_ne (show (202 : Int) ≠ 38 by decide), mw_ne (show (202 : Int) ≠ 37 by decide)]
  · have hb' := hb
    unfold sbP at hb'
    have c2 := d_seen μ (by omega) (by omega) y i g
    rw [if_neg hb', if_neg (fun q => hb' q.1)] at c2
    exact l_no h (c_sn_bad hb) c2
/-- only events change -/
theorem INV.events {μ ν : MMem} (h : INV μ) (hc : ∀ a, a ≠ 0 → a ≠ 3 → (a < 31 ∨ 33 < a) → a ≠ 47 → a ≠ 56 → ν a = μ a) (h47 : ∀ j, j ≠ 11 → ν 47 j = μ 47 j) (h9 : ν 0 9 = 1) (h12 : ν 0 12 = μ 0 12) (he : EV ν) (hd : DEr ν) : INV ν := by
  obtain ⟨i1, i2, i3, i4, i5, i6, i7, i8, i9, i10⟩ := h
  have c : ∀ a : Int, a ≠ 0 → a ≠ 3 → (a < 31 ∨ (33 < a ∧ a ≠ 47 ∧ a ≠ 56)) → ν a = μ a := fun a a1 a2 a3 => hc a a1 a2 (by omega) (by omega) (by omega)
  refine ⟨i1.c (c 1 (by decide) (by decide) (by decide)) (c 6 (by decide) (by decide) (by decide)) (c 25 (by decide) (by decide) (by decide)) (c 26 (by decide) (by decide) (by decide)) (c 40 (by decide) (by decide) (by decide)), i2.c (c 2 (by decide) (by decide) (by decide)) (c 7 (by decide) (by decide) (by decide)) (c 27 (by decide) (by decide) (by decide)) (c 28 (by decide) (by decide) (by decide)) (c 29 (by decide) (by decide) (by decide)) (c 30 (by decide) (by decide) (by decide)) (c 41 (by decide) (by decide) (by decide)), he, i4.c (c 6 (by decide) (by decide) (by decide)) (c 7 (by decide) (by decide) (by decide)) (c 40 (by decide) (by decide) (by decide)) (c 41 (by decide) (by decide) (by decide)) (c 52 (by decide) (by decide) (by decide)) (c 53 (by decide) (by decide) (by decide)), hd, MO.stale h9, i7.c (c 5 (by decide) (by decide) (by decide)) (c 37 (by decide) (by decide) (by decide)) (c 38 (by decide) (by decide) (by decide)), i8.c (c 5 (by decide) (by decide) (by decide)) (c 37 (by decide) (by decide) (by decide)) (c 38 (by decide) (by decide) (by decide)) (c 39 (by decide) (by decide) (by decide)) (c 68 (by decide) (by decide) (by decide)) (h47 25 (by decide)), i9.c (fun a a1 a2 => c a (by omega) (by omega) (by omega)) (c 48 (by decide) (by decide) (by decide)) (c 49 (by decide) (by decide) (by decide)) (c 50 (by decide) (by decide) (by decide)), ?_⟩
  rw [h47 4 (by decide), h12]
  exact i10
/-- events read, both sides: what stands in the rows -/
theorem rdW_r {μ : MMem} {g : Int → Int} (h0 : 0 ≤ μ 3 3) : ∀ n : Nat, (∀ j, j < μ 3 3 → rdW μ g n 31 j = μ 31 j ∧ rdW μ g n 32 j = μ 32 j ∧ rdW μ g n 33 j = μ 33 j) ∧ ∀ p : Nat, p < n → rdW μ g n 31 (μ 3 3 + p) = g (3 * (p : Int)) ∧ rdW μ g n 32 (μ 3 3 + p) = g (3 * (p : Int) + 1) ∧ rdW μ g n 33 (μ 3 3 + p) = g (3 * (p : Int) + 2)
  | 0 => ⟨fun j hj => ⟨rfl, rfl, rfl⟩, fun p hp => by omega⟩
  | n + 1 => by
    have ih := rdW_r (g := g) h0 n
    have e3 := rdW_3 (μ := μ) (g := g) n
    rw [rdW]
    unfold evW
    rw [e3]
    refine ⟨fun j hj => ?_, fun p hp => ?_⟩
    · have z : (j = μ 3 3 + n) = False := eq_false (by omega)
      simp only [mw8, Classical.not_not, Prod.mk.injEq, m_l, m_lp, m_lq, m_ps, m_ws, m_en, List.replicate, if_true, if_false, reduceIte, true_and, and_true, false_and, and_false, true_or, or_true, false_or, or_false, and_self, or_self, not_true_eq_false, not_false_eq_true, ne_eq, Nat.reduceLeDiff, Nat.reduceEqDiff, Nat.reduceAdd, Int.reduceLE, Int.reduceLT, Int.reduceEq, Int.reduceNe, Int.reduceAdd, Int.reduceNeg, Nat.reduceSub, Nat.succ_ne_zero, Nat.not_succ_le_zero, Nat.reduceMul, Int.reduceMul, Int.reduceSub, Int.reduceToNat, Nat.zero_le, Nat.reduceLT, z]
      exact ih.1 j hj
    · simp only [mw8, Classical.not_not, Prod.mk.injEq, m_l, m_lp, m_lq, m_ps, m_ws, m_en, List.replicate, if_true, if_false, reduceIte, true_and, and_true, false_and, and_false, true_or, or_true, false_or, or_false, and_self, or_self, not_true_eq_false, not_false_eq_true, ne_eq, Nat.reduceLeDiff, Nat.reduceEqDiff, Nat.reduceAdd, Int.reduceLE, Int.reduceLT, Int.reduceEq, Int.reduceNe, Int.reduceAdd, Int.reduceNeg, Nat.reduceSub, Nat.succ_ne_zero, Nat.not_succ_le_zero, Nat.reduceMul, Int.reduceMul, Int.reduceSub, Int.reduceToNat, Nat.zero_le, Nat.reduceLT]
      by_cases q : p = n
      · simp only [q, Classical.not_not, Prod.mk.injEq, m_l, m_lp, m_lq, m_ps, m_ws, m_en, List.replicate, if_true, if_false, reduceIte, true_and, and_true, false_and, and_false, true_or, or_true, false_or, or_false, and_self, or_self, not_true_eq_false, not_false_eq_true, ne_eq, Nat.reduceLeDiff, Nat.reduceEqDiff, Nat.reduceAdd, Int.reduceLE, Int.reduceLT, Int.reduceEq, Int.reduceNe, Int.reduceAdd, Int.reduceNeg, Nat.reduceSub, Nat.succ_ne_zero, Nat.not_succ_le_zero, Nat.reduceMul, Int.reduceMul, Int.reduceSub, Int.reduceToNat, Nat.zero_le, Nat.reduceLT]
      · have z : (μ 3 3 + (p : Int) = μ 3 3 + n) = False := eq_false (by omega)
        simp only [z, Classical.not_not, Prod.mk.injEq, m_l, m_lp, m_lq, m_ps, m_ws, m_en, List.replicate, if_true, if_false, reduceIte, true_and, and_true, false_and, and_false, true_or, or_true, false_or, or_false, and_self, or_self, not_true_eq_false, not_false_eq_true, ne_eq, Nat.reduceLeDiff, Nat.reduceEqDiff, Nat.reduceAdd, Int.reduceLE, Int.reduceLT, Int.reduceEq, Int.reduceNe, Int.reduceAdd, Int.reduceNeg, Nat.reduceSub, Nat.succ_ne_zero, Nat.not_succ_le_zero, Nat.reduceMul, Int.reduceMul, Int.reduceSub, Int.reduceToNat, Nat.zero_le, Nat.reduceLT]
        exact ih.2 p (by omega)
theorem rdV_r {μ : MMem} {g : Int → Int} (h0 : 0 ≤ μ 47 11) : ∀ n : Nat, (∀ k, k < 3 * μ 47 11 → rdV μ g n 56 k = μ 56 k) ∧ ∀ p : Nat, p < n → rdV μ g n 56 (3 * (μ 47 11 + p)) = g (3 * (p : Int)) ∧ rdV μ g n 56 (3 * (μ 47 11 + p) + 1) = g (3 * (p : Int) + 1) ∧ rdV μ g n 56 (3 * (μ 47 11 + p) + 2) = g (3 * (p : Int) + 2)
  | 0 => ⟨fun j hj => rfl, fun p hp => by omega⟩
  | n + 1 => by
    have ih := rdV_r (g := g) h0 n
    have e3 := rdV_11 (μ := μ) (g := g) n
    rw [rdV]
    unfold kpW
    rw [e3]
    refine ⟨fun j hj => ?_, fun p hp => ?_⟩
    · have z0 : (j = 3 * (μ 47 11 + n)) = False := eq_false (by omega)
      have z1 : (j = 3 * (μ 47 11 + n) + 1) = False := eq_false (by omega)
      have z2 : (j = 3 * (μ 47 11 + n) + 2) = False := eq_false (by omega)
      simp only [mw8, Classical.not_not, Prod.mk.injEq, m_l, m_lp, m_lq, m_ps, m_ws, m_en, List.replicate, if_true, if_false, reduceIte, true_and, and_true, false_and, and_false, true_or, or_true, false_or, or_false, and_self, or_self, not_true_eq_false, not_false_eq_true, ne_eq, Nat.reduceLeDiff, Nat.reduceEqDiff, Nat.reduceAdd, Int.reduceLE, Int.reduceLT, Int.reduceEq, Int.reduceNe, Int.reduceAdd, Int.reduceNeg, Nat.reduceSub, Nat.succ_ne_zero, Nat.not_succ_le_zero, Nat.reduceMul, Int.reduceMul, Int.reduceSub, Int.reduceToNat, Nat.zero_le, Nat.reduceLT, z0, z1, z2]
      exact ih.1 j hj
    · simp only [mw8, Classical.not_not, Prod.mk.injEq, m_l, m_lp, m_lq, m_ps, m_ws, m_en, List.replicate, if_true, if_false, reduceIte, true_and, and_true, false_and, and_false, true_or, or_true, false_or, or_false, and_self, or_self, not_true_eq_false, not_false_eq_true, ne_eq, Nat.reduceLeDiff, Nat.reduceEqDiff, Nat.reduceAdd, Int.reduceLE, Int.reduceLT, Int.reduceEq, Int.reduceNe, Int.reduceAdd, Int.reduceNeg, Nat.reduceSub, Nat.succ_ne_zero, Nat.not_succ_le_zero, Nat.reduceMul, Int.reduceMul, Int.reduceSub, Int.reduceToNat, Nat.zero_le, Nat.reduceLT]
      by_cases q : p = n
      · subst q
        have a1 : ∀ x : Int, (x = x + 1) = False := fun x => eq_false (by omega)
        have a2 : ∀ x : Int, (x = x + 2) = False := fun x => eq_false (by omega)
        have a3 : ∀ x : Int, (x + 1 = x + 2) = False := fun x => eq_false (by omega)
        simp only [a1, a2, a3, Classical.not_not, Prod.mk.injEq, m_l, m_lp, m_lq, m_ps, m_ws, m_en, List.replicate, if_true, if_false, reduceIte, true_and, and_true, false_and, and_false, true_or, or_true, false_or, or_false, and_self, or_self, not_true_eq_false, not_false_eq_true, ne_eq, Nat.reduceLeDiff, Nat.reduceEqDiff, Nat.reduceAdd, Int.reduceLE, Int.reduceLT, Int.reduceEq, Int.reduceNe, Int.reduceAdd, Int.reduceNeg, Nat.reduceSub, Nat.succ_ne_zero, Nat.not_succ_le_zero, Nat.reduceMul, Int.reduceMul, Int.reduceSub, Int.reduceToNat, Nat.zero_le, Nat.reduceLT]
      · have z0 : (3 * (μ 47 11 + (p : Int)) = 3 * (μ 47 11 + n)) = False := eq_false (by omega)
        have z1 : (3 * (μ 47 11 + (p : Int)) = 3 * (μ 47 11 + n) + 1) = False := eq_false (by omega)
        have z2 : (3 * (μ 47 11 + (p : Int)) = 3 * (μ 47 11 + n) + 2) = False := eq_false (by omega)
        have z3 : (3 * (μ 47 11 + (p : Int)) + 1 = 3 * (μ 47 11 + n)) = False := eq_false (by omega)
        have z4 : (3 * (μ 47 11 + (p : Int)) + 1 = 3 * (μ 47 11 + n) + 1) = False := eq_false (by omega)
        have z5 : (3 * (μ 47 11 + (p : Int)) + 1 = 3 * (μ 47 11 + n) + 2) = False := eq_false (by omega)
        have z6 : (3 * (μ 47 11 + (p : Int)) + 2 = 3 * (μ 47 11 + n)) = False := eq_false (by omega)
        have z7 : (3 * (μ 47 11 + (p : Int)) + 2 = 3 * (μ 47 11 + n) + 1) = False := eq_false (by omega)
        have z8 : (3 * (μ 47 11 + (p : Int)) + 2 = 3 * (μ 47 11 + n) + 2) = False := eq_false (by omega)
        simp only [z0, z1, z2, z3, z4, z5, z6, z7, z8, Classical.not_not, Prod.mk.injEq, m_l, m_lp, m_lq, m_ps, m_ws, m_en, List.replicate, if_true, if_false, reduceIte, true_and, and_true, false_and, and_false, true_or, or_true, false_or, or_false, and_self, or_self, not_true_eq_false, not_false_eq_true, ne_eq, Nat.reduceLeDiff, Nat.reduceEqDiff, Nat.reduceAdd, Int.reduceLE, Int.reduceLT, Int.reduceEq, Int.reduceNe, Int.reduceAdd, Int.reduceNeg, Nat.reduceSub, Nat.succ_ne_zero, Nat.not_succ_le_zero, Nat.reduceMul, Int.reduceMul, Int.reduceSub, Int.reduceToNat, Nat.zero_le, Nat.reduceLT]
        exact ih.2 p (by omega)
theorem rdV_47 {μ : MMem} {g : Int → Int} {j : Int} (hj : j ≠ 11) : ∀ n : Nat, rdV μ g n 47 j = μ 47 j
  | 0 => rfl
  | n + 1 => by
    rw [rdV]
    unfold kpW
    simp only [mw8, Classical.not_not, Prod.mk.injEq, m_l, m_lp, m_lq, m_ps, m_ws, m_en, List.replicate, if_true, if_false, reduceIte, true_and, and_true, false_and, and_false, true_or, or_true, false_or, or_false, and_self, or_self, not_true_eq_false, not_false_eq_true, ne_eq, Nat.reduceLeDiff, Nat.reduceEqDiff, Nat.reduceAdd, Int.reduceLE, Int.reduceLT, Int.reduceEq, Int.reduceNe, Int.reduceAdd, Int.reduceNeg, Nat.reduceSub, Nat.succ_ne_zero, Nat.not_succ_le_zero, Nat.reduceMul, Int.reduceMul, Int.reduceSub, Int.reduceToNat, Nat.zero_le, Nat.reduceLT, hj]
    exact rdV_47 hj n
theorem rdC_ok {g : Int → Int} {z e : Int} (h8 : e ≤ 8) : ∀ (d n : Nat), e + n ≤ 8 → n ≤ rdC g z e d n ∧ e + rdC g z e d n ≤ 8 ∧ ∀ p : Nat, n ≤ p → p < rdC g z e d n → mbP (g (3 * (p : Int))) (g (3 * (p : Int) + 1)) (g (3 * (p : Int) + 2))
  | 0, n, hn => by
    rw [rdC]
    exact ⟨Nat.le_refl _, hn, fun p p1 p2 => by omega⟩
  | d + 1, n, hn => by
    rw [rdC]
    split
    · rename_i q
      have ih := rdC_ok (g := g) (z := z) h8 d (n + 1) (by push_cast; omega)
      refine ⟨by omega, ih.2.1, fun p p1 p2 => ?_⟩
      by_cases w : p = n
      · rw [w]
        exact q.2.2
      · exact ih.2.2 p (by omega) p2
    · exact ⟨Nat.le_refl _, hn, fun p p1 p2 => by omega⟩
/-- so many events come to both sides -/
theorem INV.add {μ : MMem} (h : INV μ) (g : Int → Int) (N : Nat) (h8 : μ 3 3 + N ≤ 8) (ok : ∀ p : Nat, p < N → mbP (g (3 * (p : Int))) (g (3 * (p : Int) + 1)) (g (3 * (p : Int) + 2))) : INV (rdV (m_w (rdW μ g N) 0 9 1) g N) := by
  have i3 := h.2.2.1
  have i5 := h.2.2.2.2.1
  have n3 := i3.1
  have n5 := i5.1
  have e11 : m_w (rdW μ g N) 0 9 1 47 11 = μ 3 3 := by
    rw [mw_ne (by decide), rdW_ne (by decide) (by decide)]
    exact i5.1
  have r := rdW_r (g := g) i3.1.1 N
  have v := rdV_r (μ := m_w (rdW μ g N) 0 9 1) (g := g) (by rw [e11]; exact i3.1.1) N
  rw [e11] at v
  have c : ∀ a : Int, a ≠ 47 → a ≠ 56 → a ≠ 0 → rdV (m_w (rdW μ g N) 0 9 1) g N a = rdW μ g N a := fun a a1 a2 a3 => by rw [rdV_ne a1 a2, mw_ne a3]
  have c3 : rdV (m_w (rdW μ g N) 0 9 1) g N 3 3 = μ 3 3 + N := by rw [c 3 (by decide) (by decide) (by decide), rdW_3]
  have c31 := c 31 (by decide) (by decide) (by decide)
  have c32 := c 32 (by decide) (by decide) (by decide)
  have c33 := c 33 (by decide) (by decide) (by decide)
  have e56 : m_w (rdW μ g N) 0 9 1 56 = μ 56 := by rw [mw_ne (by decide), rdW_ne (by decide) (by decide)]
  rw [e56] at v
  refine h.events (fun a a1 a2 a3 a4 a5 => by rw [c a a4 a5 a1, rdW_ne a2 a3]) (fun j hj => ?_) ?_ ?_ ⟨?_, fun j j0 j1 => ?_⟩ ⟨?_, ?_, fun j j0 j1 => ?_⟩
  · rw [rdV_47 hj, mw_ne (by decide), rdW_ne (by decide) (by decide)]
  · rw [rdV_ne (by decide) (by decide), mw_at, if_pos rfl]
  · rw [rdV_ne (by decide) (by decide), mw_at, if_neg (by decide), rdW_ne (by decide) (by decide)]
  · rw [c3]
    have := i3.1
    omega
  · rw [c3] at j1
    rw [c31, c32, c33]
    by_cases q : j < μ 3 3
    · have := r.1 j q
      rw [this.1, this.2.1, this.2.2]
      exact i3.2 j j0 q
    · have := r.2 (j - μ 3 3).toNat (by omega)
      rw [show μ 3 3 + (((j - μ 3 3).toNat : Nat) : Int) = j by omega] at this
      rw [this.1, this.2.1, this.2.2]
      exact ok _ (by omega)
  · rw [rdV_11, e11, c3]
  · rw [rdV_47 (by decide), mw_ne (by decide), rdW_ne (by decide) (by decide)]
    exact i5.2.1
  · rw [c3] at j1
    rw [c31, c32, c33]
    by_cases q : j < μ 3 3
    · have a := r.1 j q
      rw [a.1, a.2.1, a.2.2, v.1 _ (by omega), v.1 _ (by omega), v.1 _ (by omega)]
      exact i5.2.2 j j0 q
    · have a := r.2 (j - μ 3 3).toNat (by omega)
      have b := v.2 (j - μ 3 3).toNat (by omega)
      rw [show μ 3 3 + (((j - μ 3 3).toNat : Nat) : Int) = j by omega] at a b
      rw [a.1, a.2.1, a.2.2, b.1, b.2.1, b.2.2]
      exact ⟨rfl, rfl, rfl⟩
theorem l_event {μ : MMem} (h : INV μ) (k y i : Int) : LW 0 47 137 [(0, k), (0, y), (0, i)] μ := by
  have i3 := h.2.2.1
  have i5 := h.2.2.2.2.1
  have n3 := i3.1
  have n5 := i5.1
  by_cases hb : mbP k y i
  · have hb' := hb
    unfold mbP at hb'
    by_cases h8 : μ 3 3 = 8
    · have c2 := d_event μ (by omega) (by omega) k y i
      rw [if_pos hb', if_pos (by omega), if_neg (fun q => q.2 (by omega))] at c2
      exact l_no h (c_ev_full hb h8) c2
    · have c1 := fun Q => c_ev_ok hb i3.1.1 (by omega) Q
      have hA := h.add (fun x => if x = 0 then k else if x = 1 then y else i) 1 (by omega) (fun p hp => by
        have e : p = 0 := by omega
        subst e
        exact hb)
      have e1 : rdW μ (fun x => if x = 0 then k else if x = 1 then y else i) 1 = evW μ k y i := rfl
      have e2 : ∀ κ : MMem, rdV κ (fun x => if x = 0 then k else if x = 1 then y else i) 1 = kpW κ k y i := fun κ => rfl
      rw [e1, e2] at hA
      have e11 : m_w (evW μ k y i) 0 9 1 47 11 = μ 3 3 := by
        rw [mw_ne (by decide), evW_ne (by decide) (by decide)]
        exact i5.1
      have c2 := d_event (m_w (evW μ k y i) 0 9 1) (by omega) (by omega) k y i
      rw [if_pos hb', if_neg (by omega), if_pos ⟨hb', by omega⟩, e11] at c2
      refine ⟨_, _, _, c1, c2, hA, ?_, by rw [mw_ne (by decide), evW_ne (by decide) (by decide)]⟩
      rw [kpW_ne (by decide) (by decide), mw_ne (by decide), evW_ne (by decide) (by decide)]
  · have hb' := hb
    unfold mbP at hb'
    have c2 := d_event μ (by omega) (by omega) k y i
    rw [if_neg hb', if_neg (fun q => hb' q.1)] at c2
    exact l_no h (c_ev_bad hb) c2
theorem l_back {μ : MMem} (h : INV μ) : LW 0 48 138 [] μ := by
  have i3 := h.2.2.1
  have i5 := h.2.2.2.2.1
  have n3 := i3.1
  have n5 := i5.1
  have c1 := c_back μ i3.1.1 i3.1.2
  by_cases q : μ 3 3 = 0
  · rw [if_pos q, if_pos q] at c1
    have c2 := d_back μ (by omega) (by omega)
    rw [if_pos (by omega), if_pos (by omega)] at c2
    exact l_no h c1 c2
  · rw [if_neg q, if_neg q] at c1
    have e11 : m_w (m_w μ 3 3 (μ 3 3 - 1)) 0 9 1 47 11 = μ 3 3 := by
      rw [mw_ne (by decide), mw_ne (by decide)]
      exact i5.1
    have c2 := d_back (m_w (m_w μ 3 3 (μ 3 3 - 1)) 0 9 1) (by omega) (by omega)
    rw [if_neg (by omega), if_neg (by omega), e11] at c2
    refine ⟨_, _, _, c1, c2, ?_, by rw [mw_ne (by decide), mw_ne (by decide), mw_ne (by decide)], by rw [mw_ne (by decide), mw_ne (by decide)]⟩
    refine h.events (fun a a1 a2 a3 a4 a5 => by rw [mw_ne a4, mw_ne a1, mw_ne a2]) (fun j hj => by rw [mw_at, if_neg hj, mw_ne (by decide), mw_ne (by decide)]) ?_ ?_ ⟨?_, fun j j0 j1 => ?_⟩ ⟨?_, ?_, fun j j0 j1 => ?_⟩
    · simp only [mw8, Classical.not_not, Prod.mk.injEq, m_l, m_lp, m_lq, m_ps, m_ws, m_en, List.replicate, if_true, if_false, reduceIte, true_and, and_true, false_and, and_false, true_or, or_true, false_or, or_false, and_self, or_self, not_true_eq_false, not_false_eq_true, ne_eq, Nat.reduceLeDiff, Nat.reduceEqDiff, Nat.reduceAdd, Int.reduceLE, Int.reduceLT, Int.reduceEq, Int.reduceNe, Int.reduceAdd, Int.reduceNeg, Nat.reduceSub, Nat.succ_ne_zero, Nat.not_succ_le_zero, Nat.reduceMul, Int.reduceMul, Int.reduceSub, Int.reduceToNat, Nat.zero_le, Nat.reduceLT]
    · simp only [mw8, Classical.not_not, Prod.mk.injEq, m_l, m_lp, m_lq, m_ps, m_ws, m_en, List.replicate, if_true, if_false, reduceIte, true_and, and_true, false_and, and_false, true_or, or_true, false_or, or_false, and_self, or_self, not_true_eq_false, not_false_eq_true, ne_eq, Nat.reduceLeDiff, Nat.reduceEqDiff, Nat.reduceAdd, Int.reduceLE, Int.reduceLT, Int.reduceEq, Int.reduceNe, Int.reduceAdd, Int.reduceNeg, Nat.reduceSub, Nat.succ_ne_zero, Nat.not_succ_le_zero, Nat.reduceMul, Int.reduceMul, Int.reduceSub, Int.reduceToNat, Nat.zero_le, Nat.reduceLT]
    · simp only [mw8, Classical.not_not, Prod.mk.injEq, m_l, m_lp, m_lq, m_ps, m_ws, m_en, List.replicate, if_true, if_false, reduceIte, true_and, and_true, false_and, and_false, true_or, or_true, false_or, or_false, and_self, or_self, not_true_eq_false, not_false_eq_true, ne_eq, Nat.reduceLeDiff, Nat.reduceEqDiff, Nat.reduceAdd, Int.reduceLE, Int.reduceLT, Int.reduceEq, Int.reduceNe, Int.reduceAdd, Int.reduceNeg, Nat.reduceSub, Nat.succ_ne_zero, Nat.not_succ_le_zero, Nat.reduceMul, Int.reduceMul, Int.reduceSub, Int.reduceToNat, Nat.zero_le, Nat.reduceLT]
      omega
    · simp only [mw8, Classical.not_not, Prod.mk.injEq, m_l, m_lp, m_lq, m_ps, m_ws, m_en, List.replicate, if_true, if_false, reduceIte, true_and, and_true, false_and, and_false, true_or, or_true, false_or, or_false, and_self, or_self, not_true_eq_false, not_false_eq_true, ne_eq, Nat.reduceLeDiff, Nat.reduceEqDiff, Nat.reduceAdd, Int.reduceLE, Int.reduceLT, Int.reduceEq, Int.reduceNe, Int.reduceAdd, Int.reduceNeg, Nat.reduceSub, Nat.succ_ne_zero, Nat.not_succ_le_zero, Nat.reduceMul, Int.reduceMul, Int.reduceSub, Int.reduceToNat, Nat.zero_le, Nat.reduceLT] at j1 ⊢
      exact i3.2 j j0 (by omega)
    · simp only [mw8, Classical.not_not, Prod.mk.injEq, m_l, m_lp, m_lq, m_ps, m_ws, m_en, List.replicate, if_true, if_false, reduceIte, true_and, and_true, false_and, and_false, true_or, or_true, false_or, or_false, and_self, or_self, not_true_eq_false, not_false_eq_true, ne_eq, Nat.reduceLeDiff, Nat.reduceEqDiff, Nat.reduceAdd, Int.reduceLE, Int.reduceLT, Int.reduceEq, Int.reduceNe, Int.reduceAdd, Int.reduceNeg, Nat.reduceSub, Nat.succ_ne_zero, Nat.not_succ_le_zero, Nat.reduceMul, Int.reduceMul, Int.reduceSub, Int.reduceToNat, Nat.zero_le, Nat.reduceLT]
    · simp only [mw8, Classical.not_not, Prod.mk.injEq, m_l, m_lp, m_lq, m_ps, m_ws, m_en, List.replicate, if_true, if_false, reduceIte, true_and, and_true, false_and, and_false, true_or, or_true, false_or, or_false, and_self, or_self, not_true_eq_false, not_false_eq_true, ne_eq, Nat.reduceLeDiff, Nat.reduceEqDiff, Nat.reduceAdd, Int.reduceLE, Int.reduceLT, Int.reduceEq, Int.reduceNe, Int.reduceAdd, Int.reduceNeg, Nat.reduceSub, Nat.succ_ne_zero, Nat.not_succ_le_zero, Nat.reduceMul, Int.reduceMul, Int.reduceSub, Int.reduceToNat, Nat.zero_le, Nat.reduceLT]
      exact i5.2.1
    · simp only [mw8, Classical.not_not, Prod.mk.injEq, m_l, m_lp, m_lq, m_ps, m_ws, m_en, List.replicate, if_true, if_false, reduceIte, true_and, and_true, false_and, and_false, true_or, or_true, false_or, or_false, and_self, or_self, not_true_eq_false, not_false_eq_true, ne_eq, Nat.reduceLeDiff, Nat.reduceEqDiff, Nat.reduceAdd, Int.reduceLE, Int.reduceLT, Int.reduceEq, Int.reduceNe, Int.reduceAdd, Int.reduceNeg, Nat.reduceSub, Nat.succ_ne_zero, Nat.not_succ_le_zero, Nat.reduceMul, Int.reduceMul, Int.reduceSub, Int.reduceToNat, Nat.zero_le, Nat.reduceLT] at j1 ⊢
      exact i5.2.2 j j0 (by omega)
theorem l_read {μ : MMem} (h : INV μ) (s : Int) : LW 0 49 139 [(0, s)] μ := by
  by_cases hs : 0 ≤ s ∧ s < 4
  case neg => exact l_no h (c_read_bad hs) (d_read_bad hs)
  have i3 := h.2.2.1
  have i5 := h.2.2.2.2.1
  have n3 := i3.1
  have n5 := i5.1
  have hh := h.2.2.2.2.2.2.2.2.1 s hs.1 hs.2
  by_cases hl : μ (9 + s) 1 = 0
  case neg =>
    have e48 : m_w μ 0 12 1 48 s = -1 := by
      rw [mw_ne (by decide)]
      omega
    exact l_find h (c_read_null hs hl) (d_read_null hs (by omega))
  have e48 : μ 48 s = μ (9 + s) 2 ∧ 0 ≤ μ (9 + s) 2 := by omega
  have c1 := fun Q => c_read_ok hs hl (g := μ (13 + s)) hh.1 (fun i i0 i1 => rfl) i3.1 Q
  have ok := rdC_ok (g := μ (13 + s)) (z := μ (9 + s) 3) i3.1.2 20 0 (by push_cast; omega)
  generalize hN : rdC (μ (13 + s)) (μ (9 + s) 3) (μ 3 3) 20 0 = N at *
  have hA := h.add (μ (13 + s)) N ok.2.1 (fun p hp => ok.2.2 p (by omega) hp)
  have cc : ∀ a : Int, 48 ≤ a → a ≤ 50 → m_w (rdW μ (μ (13 + s)) N) 0 9 1 a = μ a := fun a a1 a2 => by rw [mw_ne (by omega), rdW_ne (by omega) (by omega)]
  have e11 : m_w (rdW μ (μ (13 + s)) N) 0 9 1 47 11 = μ 3 3 := by
    rw [mw_ne (by decide), rdW_ne (by decide) (by decide)]
    exact i5.1
  have c2 := fun Q => d_read_ok (μ := m_w (rdW μ (μ (13 + s)) N) 0 9 1) hs (by rw [cc 48 (by decide) (by decide)]; omega) (g := μ (13 + s)) (by rw [cc 49 (by decide) (by decide), hh.2.1]; exact hh.1) (fun i i0 i1 => by
    rw [cc 49 (by decide) (by decide), hh.2.1] at i1
    rw [cc 50 (by decide) (by decide)]
    exact hh.2.2.2 i i0 i1) (by rw [e11]; exact i3.1) Q
  rw [cc 49 (by decide) (by decide), hh.2.1, e11, hN] at c2
  refine ⟨_, _, _, c1, c2, hA, ?_, by rw [mw_ne (by decide), rdW_ne (by decide) (by decide)]⟩
  rw [rdV_ne (by decide) (by decide), mw_ne (by decide), rdW_ne (by decide) (by decide)]
