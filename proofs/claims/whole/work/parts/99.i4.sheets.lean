/-- sheets change -/
theorem INV.sh {μ ν : MMem} (h : INV μ) (hc : ∀ a, (1 ≤ a ∧ a ≤ 3) ∨ (5 ≤ a ∧ a ≤ 7) ∨ (25 ≤ a ∧ a ≤ 33) ∨ (37 ≤ a ∧ a ≤ 41) ∨ a = 52 ∨ a = 53 ∨ a = 56 ∨ a = 68 → ν a = μ a) (h0 : ν 0 = μ 0) (h18 : ν 18 = μ 18) (h47 : ∀ j, j ≠ 7 → j ≠ 9 → j ≠ 28 → ν 47 j = μ 47 j) (hs : SHR ν) : INV ν := by
  have et : tT ν = tT μ := tT_c (hc 1 (by decide)) (hc 2 (by decide)) (hc 3 (by decide)) (hc 5 (by decide)) (hc 25 (by decide)) (hc 26 (by decide)) (hc 27 (by decide)) (hc 28 (by decide)) (hc 29 (by decide)) (hc 30 (by decide)) (hc 31 (by decide)) (hc 32 (by decide)) (hc 33 (by decide)) (hc 37 (by decide)) (hc 38 (by decide)) (hc 39 (by decide))
  obtain ⟨i1, i2, i3, i4, i5, i6, i7, i8, i9, i10⟩ := h
  refine ⟨i1.c (hc 1 (by decide)) (hc 6 (by decide)) (hc 25 (by decide)) (hc 26 (by decide)) (hc 40 (by decide)), i2.c (hc 2 (by decide)) (hc 7 (by decide)) (hc 27 (by decide)) (hc 28 (by decide)) (hc 29 (by decide)) (hc 30 (by decide)) (hc 41 (by decide)), i3.c (hc 3 (by decide)) (hc 31 (by decide)) (hc 32 (by decide)) (hc 33 (by decide)), i4.c (hc 6 (by decide)) (hc 7 (by decide)) (hc 40 (by decide)) (hc 41 (by decide)) (hc 52 (by decide)) (hc 53 (by decide)), i5.c (hc 3 (by decide)) (hc 31 (by decide)) (hc 32 (by decide)) (hc 33 (by decide)) (hc 56 (by decide)) (h47 11 (by decide) (by decide) (by decide)) (h47 13 (by decide) (by decide) (by decide)), ?_, i7.c (hc 5 (by decide)) (hc 37 (by decide)) (hc 38 (by decide)), i8.c (hc 5 (by decide)) (hc 37 (by decide)) (hc 38 (by decide)) (hc 39 (by decide)) (hc 68 (by decide)) (h47 25 (by decide) (by decide) (by decide)), hs, ?_⟩
  · rw [et]
    unfold MO at *
    rw [h0, h18]
    exact i6
  · rw [h47 4 (by decide) (by decide) (by decide), h0]
    exact i10
theorem l_sheet {μ : MMem} (h : INV μ) (s f n : Int) : LW 0 80 112 [(0, s), (0, f), (0, n)] μ := by
  have c1 := c_sheet μ s f n
  by_cases hb : (0 ≤ s ∧ s < 4) ∧ (0 ≤ f ∧ f < 3) ∧ n ≤ 60
  case neg =>
    have c2 := d_sheet μ s f n
    rw [if_neg hb, if_neg hb] at c1 c2
    exact l_no h c1 c2
  by_cases hn : n < 0
  · have c2 := d_sheet (m_w μ 0 12 5) s f n
    rw [if_pos hb, if_pos hb, if_pos hn, if_pos hn] at c1 c2
    exact l_find h c1 c2
  · have c2 := d_sheet (rnM μ s f n) s f n
    rw [if_pos hb, if_pos hb, if_neg hn, if_neg hn] at c1 c2
    have hs := hb.1
    have g : ∀ a : Int, a ≠ 9 + s → a ≠ 13 + s → a ≠ 48 → a ≠ 49 → a ≠ 50 → shW (rnM μ s f n) s f n a = μ a := fun a a1 a2 a3 a4 a5 => by
      have e : shW (rnM μ s f n) s f n a = m_w (m_w (rnM μ s f n) 48 s f) 49 s n a := by
        funext b
        unfold shW m_fz
        rw [if_neg (fun q => a5 q.1)]
      rw [e, mw_ne a4, mw_ne a3]
      unfold rnM
      rw [mw_ne a1, mw_ne a1, mw_ne a1, fl_ne a2]
    refine ⟨_, _, _, c1, c2, ?_, g 202 (by omega) (by omega) (by decide) (by decide) (by decide), by
      unfold rnM
      rw [mw_ne (by omega), mw_ne (by omega), mw_ne (by omega), fl_ne (by omega)]⟩
    refine h.sh (fun a ha => g a (by omega) (by omega) (by omega) (by omega) (by omega)) (g 0 (by omega) (by omega) (by decide) (by decide) (by decide)) (g 18 (by omega) (by omega) (by decide) (by decide) (by decide)) (fun j _ _ _ => by rw [g 47 (by omega) (by omega) (by decide) (by decide) (by decide)]) (fun r r0 r1 => ?_)
    have hh := h.2.2.2.2.2.2.2.2.1 r r0 r1
    have e48 : ∀ k : Int, shW (rnM μ s f n) s f n 48 k = if k = s then f else μ 48 k := fun k => by
      unfold shW m_fz
      rw [if_neg (fun q => by omega), mw_ne (by decide), mw_at]
      unfold rnM
      rw [mw_ne (by omega), mw_ne (by omega), mw_ne (by omega), fl_ne (by omega)]
    have e49 : ∀ k : Int, shW (rnM μ s f n) s f n 49 k = if k = s then n else μ 49 k := fun k => by
      unfold shW m_fz
      rw [if_neg (fun q => by omega), mw_at, mw_ne (by decide)]
      unfold rnM
      rw [mw_ne (by omega), mw_ne (by omega), mw_ne (by omega), fl_ne (by omega)]
    have e50 : ∀ k : Int, shW (rnM μ s f n) s f n 50 k = if 60 * s ≤ k ∧ k < 60 * s + n then 0 else μ 50 k := fun k => by
      unfold shW m_fz
      simp only [true_and]
      rw [mw_ne (by decide), mw_ne (by decide)]
      unfold rnM
      rw [mw_ne (by omega), mw_ne (by omega), mw_ne (by omega), fl_ne (by omega)]
    rw [e48, e49]
    by_cases q : r = s
    · subst q
      have e9 : ∀ k : Int, shW (rnM μ r f n) r f n (9 + r) k = if k = 1 then 0 else if k = 3 then n else if k = 2 then f else μ (9 + r) k := fun k => by
        unfold shW m_fz
        rw [if_neg (fun q => by omega), mw_ne (by omega), mw_ne (by omega)]
        unfold rnM
        rw [mw_at, mw_at, mw_at, fl_ne (by omega)]
      have e13 : ∀ k : Int, 0 ≤ k → k < 60 → shW (rnM μ r f n) r f n (13 + r) k = 0 := fun k k0 k1 => by
        unfold shW m_fz
        rw [if_neg (fun q => by omega), mw_ne (by omega), mw_ne (by omega)]
        unfold rnM
        rw [mw_ne (by omega), mw_ne (by omega), mw_ne (by omega), fl_at k0 k1]
      rw [e9, e9, e9]
      simp only [Classical.not_not, Prod.mk.injEq, m_l, m_lp, m_lq, m_ps, m_ws, m_en, List.replicate, if_true, if_false, reduceIte, true_and, and_true, false_and, and_false, true_or, or_true, false_or, or_false, and_self, or_self, not_true_eq_false, not_false_eq_true, ne_eq, Nat.reduceLeDiff, Nat.reduceEqDiff, Nat.reduceAdd, Int.reduceLE, Int.reduceLT, Int.reduceEq, Int.reduceNe, Int.reduceAdd, Int.reduceNeg, Nat.reduceSub, Nat.succ_ne_zero, Nat.not_succ_le_zero, Nat.reduceMul, Int.reduceMul, Int.reduceSub, Int.reduceToNat, Nat.zero_le, Nat.reduceLT]
      refine ⟨by omega, by omega, fun i i0 i1 => ?_⟩
      rw [e50, e13 i i0 (by omega), if_pos (by omega)]
    · rw [if_neg q, if_neg q, g (9 + r) (by omega) (by omega) (by omega) (by omega) (by omega), g (13 + r) (by omega) (by omega) (by omega) (by omega) (by omega)]
      refine ⟨hh.1, hh.2.1, hh.2.2.1, fun i i0 i1 => ?_⟩
      rw [e50, if_neg (by omega)]
      exact hh.2.2.2 i i0 i1
theorem l_lose {μ : MMem} (h : INV μ) (s : Int) : LW 0 81 113 [(0, s)] μ := by
  have c1 := c_lose μ s
  by_cases hs : 0 ≤ s ∧ s < 4
  case neg =>
    have c2 := d_lose μ s
    rw [if_neg hs, if_neg hs] at c1 c2
    exact l_no h c1 c2
  have hh := h.2.2.2.2.2.2.2.2.1 s hs.1 hs.2
  by_cases hl : μ (9 + s) 1 = 0
  · have e48 : ¬ (m_w μ (9 + s) 1 1 48 s < 0) := by rw [mw_ne (by omega)]; omega
    have e49 : m_w μ (9 + s) 1 1 49 s = μ (9 + s) 3 := by rw [mw_ne (by omega)]; exact hh.2.1
    have c2 := d_lose (m_w μ (9 + s) 1 1) s
    rw [if_pos hs, if_pos hs, if_neg e48, if_neg e48, e49] at c2
    rw [if_pos hs, if_pos hs, if_neg (fun q => q hl), if_neg (fun q => q hl)] at c1
    refine ⟨_, _, _, c1, c2, ?_, by rw [mw_ne (by decide), mw_ne (by omega)], by rw [mw_ne (by omega)]⟩
    refine h.sh (fun a ha => by rw [mw_ne (by omega), mw_ne (by omega)]) (by rw [mw_ne (by decide), mw_ne (by omega)]) (by rw [mw_ne (by decide), mw_ne (by omega)]) (fun j _ _ _ => by rw [mw_ne (by decide), mw_ne (by omega)]) (fun r r0 r1 => ?_)
    have hr := h.2.2.2.2.2.2.2.2.1 r r0 r1
    have e13 : m_w (m_w μ (9 + s) 1 1) 48 s (-1) (13 + r) = μ (13 + r) := by rw [mw_ne (by omega), mw_ne (by omega)]
    have e49' : m_w (m_w μ (9 + s) 1 1) 48 s (-1) 49 = μ 49 := by rw [mw_ne (by decide), mw_ne (by omega)]
    have e50' : m_w (m_w μ (9 + s) 1 1) 48 s (-1) 50 = μ 50 := by rw [mw_ne (by decide), mw_ne (by omega)]
    rw [e13, e49', e50']
    by_cases q : r = s
    · subst q
      rw [mw_at, if_pos rfl, mw_ne (by omega), mw_at, mw_at, if_pos rfl, if_neg (by decide)]
      exact ⟨hr.1, hr.2.1, Or.inl ⟨rfl, rfl⟩, hr.2.2.2⟩
    · rw [mw_at, if_neg q, mw_ne (by omega), mw_ne (by omega), mw_ne (by omega)]
      exact hr
  · have e48 : m_w μ 0 12 1 48 s < 0 := by rw [mw_ne (by decide)]; omega
    have c2 := d_lose (m_w μ 0 12 1) s
    rw [if_pos hs, if_pos hs, if_pos e48, if_pos e48] at c2
    rw [if_pos hs, if_pos hs, if_pos hl, if_pos hl] at c1
    exact l_find h c1 c2
theorem fl_lk {μ ν : MMem} (h : SHR μ) {s : Int} (hs : 0 ≤ s ∧ s < 4) (h48 : ν 48 = μ 48) (h49 : ν 49 = μ 49) (f i : Int) : lkS ν s f i = flS μ s f i := by
  have hh := h s hs.1 hs.2
  unfold lkS flS
  rw [h48, h49, hh.2.1]
  by_cases q : μ (9 + s) 1 = 0
  · have e : μ 48 s = μ (9 + s) 2 ∧ 0 ≤ μ (9 + s) 2 := by omega
    rw [if_neg (show ¬ μ 48 s < 0 by omega), if_neg (show ¬ (μ (9 + s) 1 ≠ 0) from fun z => z q), e.1]
    by_cases w : f = μ (9 + s) 2
    · rw [if_neg (show ¬ (μ (9 + s) 2 ≠ f) from fun z => z w.symm), if_neg (show ¬ (f ≠ μ (9 + s) 2) from fun z => z w)]
    · rw [if_pos (show μ (9 + s) 2 ≠ f from fun z => w z.symm), if_pos (show f ≠ μ (9 + s) 2 from w)]
  · rw [if_pos (by omega), if_pos q]
theorem l_lay {μ : MMem} (h : INV μ) (s f i v : Int) : LW 0 82 116 [(0, s), (0, f), (0, i), (0, v)] μ := by
  have i9 := h.2.2.2.2.2.2.2.2.1
  have c1 := c_lay μ s f i v (fun a b => (i9 s a b).1.2)
  by_cases hb : (0 ≤ s ∧ s < 4) ∧ (0 ≤ f ∧ f < 3)
  case neg =>
    have c2 := d_lay μ s f i v (fun a b => by rw [(i9 s a b).2.1]; exact (i9 s a b).1)
    rw [if_neg hb, if_neg hb] at c1 c2
    exact l_no h c1 c2
  have hs := hb.1
  by_cases hl : flS μ s f i = 0
  · rw [if_pos hb, if_pos hb, if_pos hl, if_pos hl] at c1
    have e48 : m_w μ (13 + s) i (narS f v) 48 = μ 48 := mw_ne (by omega)
    have e49 : m_w μ (13 + s) i (narS f v) 49 = μ 49 := mw_ne (by omega)
    have c2 := d_lay (m_w μ (13 + s) i (narS f v)) s f i v (fun a b => by rw [e49, (i9 s a b).2.1]; exact (i9 s a b).1)
    rw [fl_lk i9 hs e48 e49, if_pos hb, if_pos hb, if_pos hl, if_pos hl] at c2
    have hf : (0 ≤ i ∧ i < μ (9 + s) 3) := by
      unfold flS at hl
      by_cases z1 : μ (9 + s) 1 = 0
      · rw [if_neg (fun z => z z1)] at hl
        by_cases z2 : f = μ (9 + s) 2
        · rw [if_neg (fun z => z z2)] at hl
          by_cases z3 : 0 ≤ i ∧ i < μ (9 + s) 3
          · exact z3
          · rw [if_neg z3] at hl; omega
        · rw [if_pos z2] at hl; omega
      · rw [if_pos z1] at hl; omega
    have hz := (i9 s hs.1 hs.2).1
    refine ⟨_, _, _, c1, c2, ?_, by rw [mw_ne (by decide), mw_ne (by omega)], by rw [mw_ne (by omega)]⟩
    refine h.sh (fun a ha => by rw [mw_ne (by omega), mw_ne (by omega)]) (by rw [mw_ne (by decide), mw_ne (by omega)]) (by rw [mw_ne (by decide), mw_ne (by omega)]) (fun j _ _ _ => by rw [mw_ne (by decide), mw_ne (by omega)]) (fun r r0 r1 => ?_)
    have hr := i9 r r0 r1
    have e9 : m_w (m_w μ (13 + s) i (narS f v)) 50 (60 * s + i) (narS f v) (9 + r) = μ (9 + r) := by rw [mw_ne (by omega), mw_ne (by omega)]
    have e48' : m_w (m_w μ (13 + s) i (narS f v)) 50 (60 * s + i) (narS f v) 48 = μ 48 := by rw [mw_ne (by decide), mw_ne (by omega)]
    have e49' : m_w (m_w μ (13 + s) i (narS f v)) 50 (60 * s + i) (narS f v) 49 = μ 49 := by rw [mw_ne (by decide), mw_ne (by omega)]
    rw [e9, e48', e49']
    refine ⟨hr.1, hr.2.1, hr.2.2.1, fun k k0 k1 => ?_⟩
    rw [mw_at, mw_ne (show (13 + r : Int) ≠ 50 by omega), mw_ne (show (50 : Int) ≠ 13 + s by omega)]
    by_cases q : r = s
    · subst q
      rw [mw_at]
      by_cases w : k = i
      · rw [if_pos (by omega), if_pos w]
      · rw [if_neg (by omega), if_neg w]
        exact hr.2.2.2 k k0 k1
    · rw [if_neg (by omega), mw_ne (by omega)]
      exact hr.2.2.2 k k0 k1
  · rw [if_pos hb, if_pos hb, if_neg hl, if_neg hl] at c1
    have e48 : m_w μ 0 12 (flS μ s f i) 48 = μ 48 := mw_ne (by decide)
    have e49 : m_w μ 0 12 (flS μ s f i) 49 = μ 49 := mw_ne (by decide)
    have c2 := d_lay (m_w μ 0 12 (flS μ s f i)) s f i v (fun a b => by rw [e49, (i9 s a b).2.1]; exact (i9 s a b).1)
    rw [fl_lk i9 hs e48 e49, if_pos hb, if_pos hb, if_neg hl, if_neg hl] at c2
    exact l_find h c1 c2
theorem l_get {μ : MMem} (h : INV μ) (s f i : Int) : LW 0 83 117 [(0, s), (0, f), (0, i)] μ := by
  have i9 := h.2.2.2.2.2.2.2.2.1
  have c1 := c_get μ s f i (fun a b => (i9 s a b).1.2)
  by_cases hb : (0 ≤ s ∧ s < 4) ∧ (0 ≤ f ∧ f < 3)
  case neg =>
    have c2 := d_get μ s f i (fun a b => by rw [(i9 s a b).2.1]; exact (i9 s a b).1)
    rw [if_neg hb, if_neg hb] at c1 c2
    exact l_no h c1 c2
  have hs := hb.1
  by_cases hl : flS μ s f i = 0
  · rw [if_pos hb, if_pos hb, if_pos hl, if_pos hl] at c1
    have c2 := d_get μ s f i (fun a b => by rw [(i9 s a b).2.1]; exact (i9 s a b).1)
    rw [fl_lk i9 hs rfl rfl, if_pos hb, if_pos hb, if_pos hl, if_pos hl] at c2
    have hf : (0 ≤ i ∧ i < μ (9 + s) 3) := by
      unfold flS at hl
      by_cases z1 : μ (9 + s) 1 = 0
      · rw [if_neg (fun z => z z1)] at hl
        by_cases z2 : f = μ (9 + s) 2
        · rw [if_neg (fun z => z z2)] at hl
          by_cases z3 : 0 ≤ i ∧ i < μ (9 + s) 3
          · exact z3
          · rw [if_neg z3] at hl; omega
        · rw [if_pos z2] at hl; omega
      · rw [if_pos z1] at hl; omega
    rw [(i9 s hs.1 hs.2).2.2.2 i hf.1 hf.2] at c2
    exact l_no h c1 c2
  · rw [if_pos hb, if_pos hb, if_neg hl, if_neg hl] at c1
    have e48 : m_w μ 0 12 (flS μ s f i) 48 = μ 48 := mw_ne (by decide)
    have e49 : m_w μ 0 12 (flS μ s f i) 49 = μ 49 := mw_ne (by decide)
    have c2 := d_get (m_w μ 0 12 (flS μ s f i)) s f i (fun a b => by rw [e49, (i9 s a b).2.1]; exact (i9 s a b).1)
    rw [fl_lk i9 hs e48 e49, if_pos hb, if_pos hb, if_neg hl, if_neg hl] at c2
    exact l_find h c1 c2
theorem cp_cq {μ ν : MMem} (h : SHR μ) {s t : Int} (hs : 0 ≤ s ∧ s < 4) (ht : 0 ≤ t ∧ t < 4) (h48 : ν 48 = μ 48) (h49 : ν 49 = μ 49) (i j n : Int) : cqS ν s i t j n = cpS μ s i t j n := by
  have a := h s hs.1 hs.2
  have b := h t ht.1 ht.2
  unfold cqS cpS
  rw [h48, h49, a.2.1, b.2.1]
  by_cases q : μ (9 + s) 1 ≠ 0 ∨ μ (9 + t) 1 ≠ 0
  · rw [if_pos (by omega), if_pos q]
  · have e1 : μ 48 s = μ (9 + s) 2 := by omega
    have e2 : μ 48 t = μ (9 + t) 2 := by omega
    rw [if_neg (by omega), if_neg q, e1, e2]
theorem l_copy {μ : MMem} (h : INV μ) (s i t j n : Int) (hbd : (-2147483648 ≤ i ∧ i < 2147483648) ∧ (-2147483648 ≤ j ∧ j < 2147483648) ∧ (-2147483648 ≤ n ∧ n < 2147483648)) : LW 0 84 118 [(0, s), (0, i), (0, t), (0, j), (0, n)] μ := by
  have i9 := h.2.2.2.2.2.2.2.2.1
  have c1 := c_copy μ s i t j n (fun s a b => (i9 s a b).1)
  by_cases hb : (0 ≤ s ∧ s < 4) ∧ (0 ≤ t ∧ t < 4)
  case neg =>
    rw [if_neg hb, if_neg hb] at c1
    exact l_no h c1 (d_copy_bad hb)
  have hs := hb.1
  have ht := hb.2
  have zs := i9 s hs.1 hs.2
  have zt := i9 t ht.1 ht.2
  by_cases hl : cpS μ s i t j n = 0
  · rw [if_pos hb, if_pos hb, if_pos hl, if_pos hl] at c1
    have cc : ∀ a : Int, a ≠ 13 + t → m_cp μ (13 + s) i (13 + t) j n a = μ a := fun a ha => by
      funext b
      unfold m_cp
      rw [if_neg (fun q => ha q.1)]
    have e48 := cc 48 (by omega)
    have e49 := cc 49 (by omega)
    have eq := cp_cq (ν := m_cp μ (13 + s) i (13 + t) j n) i9 hs ht e48 e49 i j n
    obtain ⟨μ2, ⟨f2, r2⟩, c2⟩ := d_copy_ok (μ := m_cp μ (13 + s) i (13 + t) j n) (i := i) (j := j) (n := n) hs ht (by rw [e49, zs.2.1, zt.2.1]; exact ⟨zs.1.2, zt.1.2⟩) (by rw [eq]; exact hl)
    have hf : (0 ≤ i ∧ 0 ≤ n ∧ i + n ≤ μ (9 + s) 3) ∧ (0 ≤ j ∧ 0 ≤ n ∧ j + n ≤ μ (9 + t) 3) := by
      unfold cpS at hl
      by_cases z1 : μ (9 + s) 1 ≠ 0 ∨ μ (9 + t) 1 ≠ 0
      · rw [if_pos z1] at hl; omega
      · rw [if_neg z1] at hl
        by_cases z2 : μ (9 + s) 2 = μ (9 + t) 2
        · rw [if_neg (fun z => z z2)] at hl
          by_cases z3 : (0 ≤ i ∧ 0 ≤ n ∧ i + n ≤ μ (9 + s) 3) ∧ (0 ≤ j ∧ 0 ≤ n ∧ j + n ≤ μ (9 + t) 3)
          · exact z3
          · rw [if_neg z3] at hl; omega
        · rw [if_pos z2] at hl; omega
    have g : ∀ a : Int, a ≠ 50 → a ≠ 51 → a ≠ 13 + t → μ2 a = μ a := fun a a1 a2 a3 => (f2 a a1 a2).trans (cc a a3)
    refine ⟨_, _, _, c1, c2, ?_, g 202 (by decide) (by decide) (by omega), cc 202 (by omega)⟩
    refine h.sh (fun a ha => g a (by omega) (by omega) (by omega)) (g 0 (by decide) (by decide) (by omega)) (g 18 (by decide) (by decide) (by omega)) (fun j _ _ _ => by rw [g 47 (by decide) (by decide) (by omega)]) (fun r r0 r1 => ?_)
    have hr := i9 r r0 r1
    rw [g (9 + r) (by omega) (by omega) (by omega), g 48 (by decide) (by decide) (by omega), g 49 (by decide) (by decide) (by omega), f2 (13 + r) (by omega) (by omega), r2]
    refine ⟨hr.1, hr.2.1, hr.2.2.1, fun k k0 k1 => ?_⟩
    unfold cqR
    rw [cc 50 (by omega)]
    by_cases q : r = t
    · subst q
      unfold m_cp
      by_cases w : j ≤ k ∧ k < j + n
      · rw [if_pos (by omega), if_pos ⟨rfl, w⟩, show 60 * s + i + (60 * r + k - (60 * r + j)) = 60 * s + (i + (k - j)) by omega]
        exact zs.2.2.2 _ (by omega) (by omega)
      · rw [if_neg (by omega), if_neg (fun z => w z.2)]
        exact hr.2.2.2 k k0 k1
    · rw [if_neg (by omega), cc (13 + r) (by omega)]
      exact hr.2.2.2 k k0 k1
  · rw [if_pos hb, if_pos hb, if_neg hl, if_neg hl] at c1
    have e48 : m_w μ 0 12 (cpS μ s i t j n) 48 = μ 48 := mw_ne (by decide)
    have e49 : m_w μ 0 12 (cpS μ s i t j n) 49 = μ 49 := mw_ne (by decide)
    have eq := cp_cq i9 hs ht e48 e49 i j n
    have c2 := fun Q => d_copy_no (μ := m_w μ 0 12 (cpS μ s i t j n)) hs ht hbd (by rw [eq]; exact hl) Q
    rw [eq] at c2
    exact l_find h c1 c2
theorem IN.fi {μ ν T : MMem} (h : IN μ T) (g : ∀ a, a ≠ 8 → (a < 13 ∨ 16 < a) → (a < 42 ∨ 46 < a) → ν a = μ a) : IN ν T := by
  obtain ⟨⟨hT, hC, hE, h3⟩, hH, hB, hX, hD⟩ := h
  refine ⟨⟨hT, ?_, ?_, h3⟩, ?_, ?_, ?_, ?_⟩
  · unfold CT at *
    rw [g 1 (by decide) (by decide) (by decide), g 2 (by decide) (by decide) (by decide), g 25 (by decide) (by decide) (by decide), g 26 (by decide) (by decide) (by decide), g 27 (by decide) (by decide) (by decide), g 28 (by decide) (by decide) (by decide), g 29 (by decide) (by decide) (by decide), g 30 (by decide) (by decide) (by decide)]
    exact hC
  · unfold CE at *
    rw [g 3 (by decide) (by decide) (by decide), g 31 (by decide) (by decide) (by decide), g 32 (by decide) (by decide) (by decide), g 33 (by decide) (by decide) (by decide), g 34 (by decide) (by decide) (by decide), g 35 (by decide) (by decide) (by decide), g 36 (by decide) (by decide) (by decide)]
    exact hE
  · exact hH.c (g 1 (by decide) (by decide) (by decide)) (g 6 (by decide) (by decide) (by decide)) (g 25 (by decide) (by decide) (by decide)) (g 26 (by decide) (by decide) (by decide)) (g 40 (by decide) (by decide) (by decide))
  · exact hB.c (g 2 (by decide) (by decide) (by decide)) (g 7 (by decide) (by decide) (by decide)) (g 27 (by decide) (by decide) (by decide)) (g 28 (by decide) (by decide) (by decide)) (g 29 (by decide) (by decide) (by decide)) (g 30 (by decide) (by decide) (by decide)) (g 41 (by decide) (by decide) (by decide))
  · exact hX.c (g 6 (by decide) (by decide) (by decide)) (g 7 (by decide) (by decide) (by decide)) (g 40 (by decide) (by decide) (by decide)) (g 41 (by decide) (by decide) (by decide)) (g 52 (by decide) (by decide) (by decide)) (g 53 (by decide) (by decide) (by decide))
  · unfold DE at *
    rw [g 47 (by decide) (by decide) (by decide), g 56 (by decide) (by decide) (by decide)]
    exact hD
theorem l_write {μ : MMem} (h : INV μ) (i s : Int) : LW 0 85 190 [(0, i), (0, s)] μ := by
  have i9 := h.2.2.2.2.2.2.2.2.1
  have e00 : tT μ 0 0 = μ 1 3 := rfl
  by_cases hb : (0 ≤ i ∧ i < μ 1 3) ∧ (0 ≤ s ∧ s < 4)
  case neg =>
    obtain ⟨μ2, f2, c2⟩ := d_write_bad h.in (by rw [e00]; exact hb)
    exact ⟨_, _, _, c_write_bad hb, c2, (h.fm f2).1, f2.s, rfl⟩
  have hs := hb.2
  have hi : 0 ≤ i ∧ i < tT μ 0 0 := hb.1
  have hh := i9 s hs.1 hs.2
  by_cases hl : μ (9 + s) 1 = 0
  case neg =>
    have c1 := fun Q => c_write_null hb.1 hs hl Q
    have hin : IN (m_w μ 0 12 1) (tT μ) := by
      obtain ⟨⟨hT, hC, hE, h3⟩, hH, hB, hX, hD⟩ := h.in
      have g : ∀ a : Int, a ≠ 0 → m_w μ 0 12 1 a = μ a := fun a ha => mw_ne ha
      refine ⟨⟨hT, ?_, ?_, h3⟩, ?_, ?_, ?_, ?_⟩
      · unfold CT at *
        rw [g 1 (by decide), g 2 (by decide), g 25 (by decide), g 26 (by decide), g 27 (by decide), g 28 (by decide), g 29 (by decide), g 30 (by decide)]
        exact hC
      · unfold CE at *
        rw [g 3 (by decide), g 31 (by decide), g 32 (by decide), g 33 (by decide), g 34 (by decide), g 35 (by decide), g 36 (by decide)]
        exact hE
      · exact hH.c (g 1 (by decide)) (g 6 (by decide)) (g 25 (by decide)) (g 26 (by decide)) (g 40 (by decide))
      · exact hB.c (g 2 (by decide)) (g 7 (by decide)) (g 27 (by decide)) (g 28 (by decide)) (g 29 (by decide)) (g 30 (by decide)) (g 41 (by decide))
      · exact hX.c (g 6 (by decide)) (g 7 (by decide)) (g 40 (by decide)) (g 41 (by decide)) (g 52 (by decide)) (g 53 (by decide))
      · unfold DE at *
        rw [g 47 (by decide), g 56 (by decide)]
        exact hD
    obtain ⟨μ2, f2, c2⟩ := d_write_null hin hi hs (by rw [mw_ne (by decide)]; omega)
    refine ⟨_, _, _, c1, c2, ?_, ?_, by rw [mw_ne (by decide)]⟩
    · refine (h.same (fun a ha => ?_) ?_ ?_ ?_ ?_ ?_).1
      · rw [mw_ne (by omega), f2.lo (by omega), mw_ne (by omega)]
      · have := h.2.2.2.2.2.1
        unfold MO at *
        rw [mw_ne (show (0 : Int) ≠ 47 by decide), mw_ne (show (18 : Int) ≠ 47 by decide), f2.lo (a := 0) (by decide), f2.lo (a := 18) (by decide), mw_at, if_neg (by decide), mw_ne (by decide)]
        exact this
      · rw [mw_at, if_neg (by decide), f2.2 11 (by decide) (by decide) (by decide), mw_ne (by decide)]
      · rw [mw_at, if_neg (by decide), f2.2 13 (by decide) (by decide) (by decide), mw_ne (by decide)]
      · rw [mw_at, if_neg (by decide), f2.2 25 (by decide) (by decide) (by decide), mw_ne (by decide)]
      · rw [mw_at, if_pos rfl, mw_ne (by decide), f2.lo (a := 0) (by decide), mw_at, if_pos rfl]
    · rw [mw_ne (by decide), f2.s, mw_ne (by decide)]
  obtain ⟨μ1, ⟨f1, r1⟩, c1⟩ := c_write_ok h.ci hs hi hl hh.1
  have g1 : ∀ a : Int, a ≠ 8 → a ≠ 13 + s → (a < 42 ∨ 46 < a) → μ1 a = μ a := f1
  have hin : IN μ1 (tT μ) := h.in.fi (fun a a1 a2 a3 => g1 a a1 (by omega) a3)
  have e48 := g1 48 (by decide) (by omega) (by decide)
  have e49 := g1 49 (by decide) (by omega) (by decide)
  have e50 := g1 50 (by decide) (by omega) (by decide)
  obtain ⟨κ, μ2, ⟨f2, g2, r2⟩, c2⟩ := d_write_ok hin hi hs (by rw [e48]; omega) (by rw [e49, hh.2.1]; exact hh.1.1)
  rw [e49, hh.2.1] at c2 r2
  have c : ∀ a : Int, a ≠ 50 → (a < 47 ∨ (48 ≤ a ∧ a ≤ 50) ∨ a = 52 ∨ a = 53 ∨ a = 56 ∨ a = 68 ∨ 70 < a) → a ≠ 8 → a ≠ 13 + s → (a < 42 ∨ 46 < a) → μ2 a = μ a := fun a a1 a2 a3 a4 a5 => (g2 a a1).trans ((f2.lo a2).trans (g1 a a3 a4 a5))
  refine ⟨_, _, _, c1, c2, ?_, c 202 (by decide) (by decide) (by decide) (by omega) (by decide), g1 202 (by decide) (by omega) (by decide)⟩
  refine h.sh (fun a ha => c a (by omega) (by omega) (by omega) (by omega) (by omega)) (c 0 (by decide) (by decide) (by decide) (by omega) (by decide)) (c 18 (by decide) (by decide) (by decide) (by omega) (by decide)) (fun j j1 j2 j3 => ?_) (fun r r0 r1' => ?_)
  · rw [g2 47 (by decide), f2.2 j j1 j2 j3, g1 47 (by decide) (by omega) (by decide)]
  · have hr := i9 r r0 r1'
    rw [c (9 + r) (by omega) (by omega) (by omega) (by omega) (by omega), c 48 (by decide) (by decide) (by decide) (by omega) (by decide), c 49 (by decide) (by decide) (by decide) (by omega) (by decide)]
    refine ⟨hr.1, hr.2.1, hr.2.2.1, fun k k0 k1 => ?_⟩
    rw [r2, g2 (13 + r) (by omega), f2.lo (a := 13 + r) (by omega)]
    have hw : wrN (μ (9 + s) 3) ≤ μ (9 + s) 3 ∧ wrN (μ (9 + s) 3) ≤ 24 := by
      unfold wrN
      split <;> omega
    unfold wsR
    rw [e48, e50]
    by_cases q : r = s
    · subst q
      rw [r1]
      unfold wrR
      by_cases w : k < wrN (μ (9 + r) 3)
      · have e2 : μ 48 r = μ (9 + r) 2 := by omega
        rw [if_pos (by omega), if_pos ⟨k0, w⟩, e2, show 60 * r + k - 60 * r = k by omega]
      · rw [if_neg (by omega), if_neg (by omega)]
        exact hr.2.2.2 k k0 k1
    · rw [if_neg (by omega), g1 (13 + r) (by omega) (by omega) (by omega)]
      exact hr.2.2.2 k k0 k1
