def dr (T : MMem) : Int := gapN T (sm T 24) (nh T)
theorem dr_in {T : MMem} (hT : TW T) : 0 ≤ dr T ∧ dr T ≤ 120 := by
  have h := gapN_in hT (sm_SI hT 24) (nh T) (Nat.le_refl _)
  have h2 := nh_le hT
  have h3 := hT.1
  unfold dr
  omega
/-- the best plan for a number of a bride's among the first n; c 3 house, 4 year, 5 mother -/
def bpN (T : MMem) (c k : Int) : Nat → Int
  | 0 => -1
  | n + 1 => if c = 5 ∧ (n : Int) = k then bpN T c k n else if bpN T c k n = -1 ∨ dr (m_w T c k n) * 32 + n < bpN T c k n then dr (m_w T c k n) * 32 + n else bpN T c k n
theorem mw_ne {T : MMem} {c k v a : Int} (h : a ≠ c) : m_w T c k v a = T a := by
  funext b
  unfold m_w
  rw [if_neg (fun q => h q.1)]
theorem mw_at {T : MMem} {c k v b : Int} : m_w T c k v c b = if b = k then v else T c b := by
  unfold m_w
  by_cases h : b = k <;> simp [h]
theorem TW.set {T : MMem} (h : TW T) {c k v : Int} (hc : (c = 3 ∧ 0 ≤ v ∧ v ≤ 5) ∨ (c = 4 ∧ 0 ≤ v ∧ v ≤ 23) ∨ (c = 5 ∧ 0 ≤ v ∧ v ≤ 8)) : TW (m_w T c k v) := by
  obtain ⟨h1, h2, h3, h4, h5, h6⟩ := h
  have n0 : (0 : Int) ≠ c := by omega
  have n1 : (1 : Int) ≠ c := by omega
  have n2 : (2 : Int) ≠ c := by omega
  have n6 : (6 : Int) ≠ c := by omega
  have n7 : (7 : Int) ≠ c := by omega
  have n8 : (8 : Int) ≠ c := by omega
  have n9 : (9 : Int) ≠ c := by omega
  unfold TW
  rw [mw_ne n0, mw_ne n1, mw_ne n2, mw_ne n6, mw_ne n7, mw_ne n8, mw_ne n9]
  refine ⟨h1, h2, h3, h4, fun j j0 j1 => ?_, h6⟩
  have := h5 j j0 j1
  rcases hc with ⟨rfl, hc⟩ | ⟨rfl, hc⟩ | ⟨rfl, hc⟩
  · rw [mw_at, mw_ne (by decide), mw_ne (by decide)]; split <;> omega
  · rw [mw_at, mw_ne (by decide), mw_ne (by decide)]; split <;> omega
  · rw [mw_at, mw_ne (by decide), mw_ne (by decide)]; split <;> omega
/-- while plans are tried: the world changes, and one place of a row -/
def FR (μ ν : MMem) (c k : Int) : Prop := (∀ a, a ≠ 8 → a ≠ c → (a < 42 ∨ 46 < a) → ν a = μ a) ∧ ∀ j, j ≠ k → ν c j = μ c j
theorem FR.fb {μ ν ν' : MMem} {c k : Int} (h : FR μ ν c k) (hf : FB ν ν') (hc : 25 ≤ c ∧ c < 42) : FR μ ν' c k := by
  refine ⟨fun a h1 h2 h3 => (hf a h1 h3).trans (h.1 a h1 h2 h3), fun j hj => ?_⟩
  rw [hf c (by omega) (by omega)]
  exact h.2 j hj
theorem FR.w {μ ν : MMem} {c k : Int} (h : FR μ ν c k) (v : Int) : FR μ (m_w ν c k v) c k := by
  refine ⟨fun a h1 h2 h3 => by rw [mw_ne h2]; exact h.1 a h1 h2 h3, fun j hj => ?_⟩
  rw [mw_at, if_neg hj]
  exact h.2 j hj
theorem FR.end {μ ν : MMem} {c k : Int} (h : FR μ ν c k) : FB μ (m_w ν c k (μ c k)) := by
  intro a h1 h2
  by_cases e : a = c
  · subst e
    funext j
    rw [mw_at]
    split
    · rename_i q; rw [q]
    · rename_i q; exact h.2 j q
  · rw [mw_ne e]
    exact h.1 a h1 e h2
theorem CI.fr {μ ν T : MMem} {c k v : Int} (hI : CI μ T) (hf : FR μ ν (24 + c) k) (hc : (c = 3 ∧ 0 ≤ v ∧ v ≤ 5) ∨ (c = 4 ∧ 0 ≤ v ∧ v ≤ 23) ∨ (c = 5 ∧ 0 ≤ v ∧ v ≤ 8)) : CI (m_w ν (24 + c) k v) (m_w T c k v) := by
  obtain ⟨hT, ⟨c1, c2, c3, c4⟩, ⟨e1, e2⟩, h3⟩ := hI
  have n0 : (0 : Int) ≠ c := by omega
  have g : ∀ a : Int, a ≠ 24 + c → a ≠ 8 → a < 42 → m_w ν (24 + c) k v a = μ a := fun a h1 h2 h4 => by rw [mw_ne h1]; exact hf.1 a h2 h1 (Or.inl h4)
  have e2' : ∀ j, 0 ≤ j → j < T 0 2 → μ 31 j = T 7 j ∧ μ 32 j = T 8 j ∧ μ 33 j = T 9 j := by
    rcases e2 with ⟨_, q⟩ | ⟨q, _⟩
    · exact q
    · omega
  refine ⟨hT.set hc, ⟨?_, ?_, ?_, ?_⟩, ⟨?_, Or.inl ⟨rfl, ?_⟩⟩, ?_⟩
  · rw [g 1 (by omega) (by decide) (by decide), mw_ne n0]; exact c1
  · rw [g 2 (by omega) (by decide) (by decide), mw_ne n0]; exact c2
  · rw [g 25 (by omega) (by decide) (by decide), g 26 (by omega) (by decide) (by decide), mw_ne n0, mw_ne (show (1 : Int) ≠ c by omega), mw_ne (show (2 : Int) ≠ c by omega)]; exact c3
  · intro j j0 j1
    rw [mw_ne n0] at j1
    have := c4 j j0 j1
    have f2 := hf.2 j
    rcases hc with ⟨rfl, hc⟩ | ⟨rfl, hc⟩ | ⟨rfl, hc⟩
    · rw [g 28 (by decide) (by decide) (by decide), g 29 (by decide) (by decide) (by decide), g 30 (by decide) (by decide) (by decide), mw_ne (show (4 : Int) ≠ 3 by decide), mw_ne (show (5 : Int) ≠ 3 by decide), mw_ne (show (6 : Int) ≠ 3 by decide)]
      refine ⟨?_, this.2⟩
      show m_w ν 27 k v 27 j = _
      rw [mw_at, mw_at]
      split
      · rfl
      · rename_i q; rw [← this.1]; exact f2 q
    · rw [g 27 (by decide) (by decide) (by decide), g 29 (by decide) (by decide) (by decide), g 30 (by decide) (by decide) (by decide), mw_ne (show (3 : Int) ≠ 4 by decide), mw_ne (show (5 : Int) ≠ 4 by decide), mw_ne (show (6 : Int) ≠ 4 by decide)]
      refine ⟨this.1, ?_, this.2.2⟩
      show m_w ν 28 k v 28 j = _
      rw [mw_at, mw_at]
      split
      · rfl
      · rename_i q; rw [← this.2.1]; exact f2 q
    · rw [g 27 (by decide) (by decide) (by decide), g 28 (by decide) (by decide) (by decide), g 30 (by decide) (by decide) (by decide), mw_ne (show (3 : Int) ≠ 5 by decide), mw_ne (show (4 : Int) ≠ 5 by decide), mw_ne (show (6 : Int) ≠ 5 by decide)]
      refine ⟨this.1, this.2.1, ?_, this.2.2.2⟩
      show m_w ν 29 k v 29 j = _
      rw [mw_at, mw_at]
      split
      · rfl
      · rename_i q; rw [← this.2.2.1]; exact f2 q
  · rw [g 3 (by omega) (by decide) (by decide), mw_ne n0]; exact e1
  · rw [g 31 (by omega) (by decide) (by decide), g 32 (by omega) (by decide) (by decide), g 33 (by omega) (by decide) (by decide), mw_ne n0, mw_ne (show (7 : Int) ≠ c by omega), mw_ne (show (8 : Int) ≠ c by omega), mw_ne (show (9 : Int) ≠ c by omega)]; exact e2'
  · rw [mw_ne n0]; exact h3
