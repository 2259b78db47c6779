/-! What is told (T) and how it goes (σ), as plain functions.
T 0: how many houses (0), brides (1), events (2), which events are gone, as bits (3); T 1 sort, T 2 how high, of a house; T 3 house, T 4 year, T 5 mother, T 6 how high, of a bride; T 7 kind, T 8 year, T 9 house, of an event.
σ 0 how high a house is now; σ 1 what a door is, σ 2 how high, σ 3 how much was sawn off. -/
def TW (T : MMem) : Prop := (0 ≤ T 0 0 ∧ T 0 0 ≤ 6) ∧ (0 ≤ T 0 1 ∧ T 0 1 ≤ 8) ∧ (0 ≤ T 0 2 ∧ T 0 2 ≤ 8) ∧ (∀ j, 0 ≤ j → j < T 0 0 → 0 ≤ T 1 j ∧ T 1 j ≤ 2 ∧ 1 ≤ T 2 j ∧ T 2 j ≤ 20) ∧ (∀ j, 0 ≤ j → j < T 0 1 → 0 ≤ T 3 j ∧ T 3 j ≤ 5 ∧ 0 ≤ T 4 j ∧ T 4 j ≤ 23 ∧ 0 ≤ T 5 j ∧ T 5 j ≤ 8 ∧ 1 ≤ T 6 j ∧ T 6 j ≤ 20) ∧ (∀ j, 0 ≤ j → j < T 0 2 → 0 ≤ T 7 j ∧ T 7 j ≤ 2 ∧ 0 ≤ T 8 j ∧ T 8 j ≤ 23 ∧ 0 ≤ T 9 j ∧ T 9 j ≤ 5)
def hiN (T σ : MMem) (i : Int) : Nat → Int
  | 0 => -1
  | n + 1 => if (σ 1 n = 1 ∧ T 3 n = i) ∧ (hiN T σ i n = -1 ∨ σ 2 (hiN T σ i n) < σ 2 n) then n else hiN T σ i n
def loN (T σ : MMem) (i : Int) : Nat → Int
  | 0 => -1
  | n + 1 => if (σ 1 n = 1 ∧ T 3 n = i) ∧ (loN T σ i n = -1 ∨ σ 2 n < σ 2 (loN T σ i n)) then n else loN T σ i n
def cnN (T σ : MMem) (i : Int) : Nat → Int
  | 0 => 0
  | n + 1 => if σ 1 n = 1 ∧ T 3 n = i then cnN T σ i n + 1 else cnN T σ i n
def nb (T : MMem) : Nat := (T 0 1).toNat
def nh (T : MMem) : Nat := (T 0 0).toNat
def ne (T : MMem) : Nat := (T 0 2).toNat
def hiH (T σ : MMem) (i : Int) : Int := if hiN T σ i (nb T) = -1 then 0 else σ 2 (hiN T σ i (nb T))
def loH (T σ : MMem) (i : Int) : Int := if loN T σ i (nb T) = -1 then 0 else σ 2 (loN T σ i (nb T))
def gap (T σ : MMem) (i : Int) : Int := σ 0 i - hiH T σ i
def gapN (T σ : MMem) : Nat → Int
  | 0 => 0
  | n + 1 => gapN T σ n + gap T σ n
def sawS (T σ : MMem) (i : Int) : MMem := fun c k => if (0 ≤ k ∧ k < T 0 1) ∧ σ 1 k = 1 ∧ T 3 k = i ∧ 1 < σ 2 k then (if c = 2 then σ 2 k - 1 else if c = 3 then σ 3 k + 1 else σ c k) else σ c k
def happ (T σ : MMem) (kind i : Int) : MMem :=
  if kind = 1 then sawS T σ i
  else if kind = 0 then (if hiN T σ i (nb T) = -1 then σ else m_w σ 1 (hiN T σ i (nb T)) 2)
  else (if loN T σ i (nb T) = -1 then σ else m_w σ 1 (loN T σ i (nb T)) 3)
def brou (T σ : MMem) (k : Int) : Int := if T 5 k = 8 then T 6 k else if σ 2 (T 5 k) - 2 < 1 then 1 else σ 2 (T 5 k) - 2
def wid (T σ : MMem) (i b : Int) : Int := if σ 0 i < b then (if T 1 i = 2 then b else if T 1 i = 1 then (if b < T 2 i + 2 then b else T 2 i + 2) else σ 0 i) else σ 0 i
def comeS (T σ : MMem) (k : Int) : MMem :=
  if ¬ (0 ≤ T 3 k ∧ T 3 k < T 0 0) then σ
  else if T 5 k ≠ 8 ∧ ¬ ((0 ≤ T 5 k ∧ T 5 k < T 0 1) ∧ σ 1 (T 5 k) = 1) then m_w σ 1 k 4
  else m_w (m_w (m_w (m_w σ 0 (T 3 k) (wid T σ (T 3 k) (brou T σ k))) 2 k (if wid T σ (T 3 k) (brou T σ k) < brou T σ k then wid T σ (T 3 k) (brou T σ k) else brou T σ k)) 3 k (brou T σ k - (if wid T σ (T 3 k) (brou T σ k) < brou T σ k then wid T σ (T 3 k) (brou T σ k) else brou T σ k))) 1 k 1
def evN (T σ : MMem) (y : Int) : Nat → MMem
  | 0 => σ
  | n + 1 => if T 8 n = y ∧ tb (T 0 3) n = false then happ T (evN T σ y n) (T 7 n) (T 9 n) else evN T σ y n
def brN (T σ : MMem) (y : Int) : Nat → MMem
  | 0 => σ
  | n + 1 => if T 4 n = y then comeS T (brN T σ y n) n else brN T σ y n
def yearS (T σ : MMem) (y : Int) : MMem := brN T (evN T σ y (ne T)) y (nb T)
def sim0 (T : MMem) : MMem := fun c k => if c = 0 then T 2 k else 0
def sim (T : MMem) : Nat → MMem
  | 0 => sim0 T
  | n + 1 => yearS T (sim T n) n
/-- what always holds of σ -/
def SI (T σ : MMem) : Prop := (∀ i, 0 ≤ i → i < T 0 0 → 1 ≤ σ 0 i ∧ σ 0 i ≤ 20 ∧ (T 1 i = 1 → σ 0 i ≤ T 2 i + 2)) ∧ ∀ k, 0 ≤ k → k < T 0 1 → 0 ≤ σ 1 k ∧ σ 1 k ≤ 4 ∧ 0 ≤ σ 2 k ∧ 0 ≤ σ 3 k ∧ σ 2 k + σ 3 k ≤ 20 ∧ (σ 1 k = 1 → 1 ≤ σ 2 k ∧ T 3 k < T 0 0 ∧ σ 2 k ≤ σ 0 (T 3 k))
theorem nb_le {T : MMem} (h : TW T) : (nb T : Int) = T 0 1 := by unfold nb; have := h.2.1; omega
theorem nh_le {T : MMem} (h : TW T) : (nh T : Int) = T 0 0 := by unfold nh; have := h.1; omega
theorem ne_le {T : MMem} (h : TW T) : (ne T : Int) = T 0 2 := by unfold ne; have := h.2.2.1; omega
theorem hiN_in (T σ : MMem) (i : Int) : ∀ n : Nat, hiN T σ i n = -1 ∨ (0 ≤ hiN T σ i n ∧ hiN T σ i n < n ∧ σ 1 (hiN T σ i n) = 1 ∧ T 3 (hiN T σ i n) = i)
  | 0 => Or.inl rfl
  | n + 1 => by
    have ih := hiN_in T σ i n
    rw [hiN]
    split
    · rename_i h
      exact Or.inr ⟨by omega, by omega, h.1.1, h.1.2⟩
    · rcases ih with q | q
      · exact Or.inl q
      · exact Or.inr ⟨q.1, by omega, q.2.2⟩
theorem loN_in (T σ : MMem) (i : Int) : ∀ n : Nat, loN T σ i n = -1 ∨ (0 ≤ loN T σ i n ∧ loN T σ i n < n ∧ σ 1 (loN T σ i n) = 1 ∧ T 3 (loN T σ i n) = i)
  | 0 => Or.inl rfl
  | n + 1 => by
    have ih := loN_in T σ i n
    rw [loN]
    split
    · rename_i h
      exact Or.inr ⟨by omega, by omega, h.1.1, h.1.2⟩
    · rcases ih with q | q
      · exact Or.inl q
      · exact Or.inr ⟨q.1, by omega, q.2.2⟩
theorem happ_SI {T σ : MMem} (hT : TW T) (h : SI T σ) (kind i : Int) : SI T (happ T σ kind i) := by
  have hb := nb_le hT
  unfold happ
  split
  · refine ⟨fun j h0 h1 => ?_, fun k h0 h1 => ?_⟩
    · have := h.1 j h0 h1
      unfold sawS
      grind
    · have := h.2 k h0 h1
      unfold sawS
      grind
  · split
    · split
      · exact h
      · rcases hiN_in T σ i (nb T) with q | q
        · contradiction
        · generalize hiN T σ i (nb T) = x at q
          refine ⟨fun j h0 h1 => ?_, fun k h0 h1 => ?_⟩
          · have := h.1 j h0 h1
            unfold m_w
            grind
          · have := h.2 k h0 h1
            unfold m_w
            grind
    · split
      · exact h
      · rcases loN_in T σ i (nb T) with q | q
        · contradiction
        · generalize loN T σ i (nb T) = x at q
          refine ⟨fun j h0 h1 => ?_, fun k h0 h1 => ?_⟩
          · have := h.1 j h0 h1
            unfold m_w
            grind
          · have := h.2 k h0 h1
            unfold m_w
            grind
theorem comeS_SI {T σ : MMem} (hT : TW T) (h : SI T σ) {k : Int} (hk : 0 ≤ k ∧ k < T 0 1) : SI T (comeS T σ k) := by
  have hTk := hT.2.2.2.2.1 k hk.1 hk.2
  unfold comeS
  split
  · exact h
  · rename_i hh
    have hi : 0 ≤ T 3 k ∧ T 3 k < T 0 0 := by omega
    have hTi := hT.2.2.2.1 _ hi.1 hi.2
    have hSi := h.1 _ hi.1 hi.2
    split
    · refine ⟨fun j h0 h1 => ?_, fun j h0 h1 => ?_⟩
      · have := h.1 j h0 h1
        unfold m_w
        grind
      · have := h.2 j h0 h1
        unfold m_w
        grind
    · rename_i hm
      have hbr : 1 ≤ brou T σ k ∧ brou T σ k ≤ 20 := by
        unfold brou
        by_cases h8 : T 5 k = 8
        · rw [if_pos h8]; omega
        · rw [if_neg h8]
          have hmo : (0 ≤ T 5 k ∧ T 5 k < T 0 1) ∧ σ 1 (T 5 k) = 1 := by
            by_cases q : (0 ≤ T 5 k ∧ T 5 k < T 0 1) ∧ σ 1 (T 5 k) = 1
            · exact q
            · exact absurd ⟨h8, q⟩ hm
          have := h.2 _ hmo.1.1 hmo.1.2
          split <;> omega
      have hw : σ 0 (T 3 k) ≤ wid T σ (T 3 k) (brou T σ k) ∧ wid T σ (T 3 k) (brou T σ k) ≤ 20 ∧ (T 1 (T 3 k) = 1 → wid T σ (T 3 k) (brou T σ k) ≤ T 2 (T 3 k) + 2) := by
        unfold wid
        grind
      generalize wid T σ (T 3 k) (brou T σ k) = w at hw ⊢
      generalize brou T σ k = b at hbr ⊢
      refine ⟨fun j h0 h1 => ?_, fun j h0 h1 => ?_⟩
      · have := h.1 j h0 h1
        unfold m_w
        grind
      · have := h.2 j h0 h1
        unfold m_w
        grind

theorem cnN_in (T σ : MMem) (i : Int) : ∀ n : Nat, 0 ≤ cnN T σ i n ∧ cnN T σ i n ≤ n
  | 0 => by simp [cnN]
  | n + 1 => by
    have ih := cnN_in T σ i n
    rw [cnN]
    push_cast
    split <;> omega
/-- houses without a door, as bits -/
def opN (T σ : MMem) : Nat → Int
  | 0 => 0
  | n + 1 => if hiN T σ n (nb T) = -1 then m_i 4 (opN T σ n) (m_i 5 1 n) else opN T σ n
/-- doors of a sort, as bits -/
def btN (σ : MMem) (w : Int) : Nat → Int
  | 0 => 0
  | n + 1 => if σ 1 n = w then m_i 4 (btN σ w n) (m_i 5 1 n) else btN σ w n
