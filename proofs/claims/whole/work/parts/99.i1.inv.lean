/-- what is told, read off the class's tables -/
def tT (μ : MMem) : MMem := fun a b => if a = 0 then (if b = 0 then μ 1 3 else if b = 1 then μ 2 3 else if b = 2 then μ 3 3 else if b = 3 then 0 else μ 5 3) else if 1 ≤ a ∧ a ≤ 9 then μ (24 + a) b else if 10 ≤ a ∧ a ≤ 12 then μ (27 + a) b else 0
def EV (μ : MMem) : Prop := (0 ≤ μ 3 3 ∧ μ 3 3 ≤ 8) ∧ ∀ j, 0 ≤ j → j < μ 3 3 → mbP (μ 31 j) (μ 32 j) (μ 33 j)
def DEr (μ : MMem) : Prop := μ 47 11 = μ 3 3 ∧ μ 47 13 = 0 ∧ ∀ j, 0 ≤ j → j < μ 3 3 → μ 56 (3 * j) = μ 31 j ∧ μ 56 (3 * j + 1) = μ 32 j ∧ μ 56 (3 * j + 2) = μ 33 j
def SGr (μ : MMem) : Prop := (0 ≤ μ 5 3 ∧ μ 5 3 ≤ 8) ∧ ∀ j, 0 ≤ j → j < μ 5 3 → (0 ≤ μ 37 j ∧ μ 37 j < 24) ∧ (0 ≤ μ 38 j ∧ μ 38 j < 6)
def DSr (μ : MMem) : Prop := μ 47 25 = μ 5 3 ∧ ∀ j, 0 ≤ j → j < μ 5 3 → μ 68 (3 * j) = μ 37 j ∧ μ 68 (3 * j + 1) = μ 38 j ∧ μ 68 (3 * j + 2) = μ 39 j
def SHR (μ : MMem) : Prop := ∀ s, 0 ≤ s → s < 4 → (0 ≤ μ (9 + s) 3 ∧ μ (9 + s) 3 ≤ 60) ∧ μ 49 s = μ (9 + s) 3 ∧ ((μ (9 + s) 1 = 1 ∧ μ 48 s = -1) ∨ (μ (9 + s) 1 = 0 ∧ μ 48 s = μ (9 + s) 2 ∧ 0 ≤ μ (9 + s) 2 ∧ μ (9 + s) 2 < 3)) ∧ ∀ i, 0 ≤ i → i < μ (9 + s) 3 → μ 50 (60 * s + i) = μ (13 + s) i
def INV (μ : MMem) : Prop := XH μ ∧ XB μ ∧ EV μ ∧ XR μ ∧ DEr μ ∧ MO μ (tT μ) ∧ SGr μ ∧ DSr μ ∧ SHR μ ∧ μ 47 4 = μ 0 12
theorem tT_c {μ ν : MMem} (h1 : ν 1 = μ 1) (h2 : ν 2 = μ 2) (h3 : ν 3 = μ 3) (h5 : ν 5 = μ 5) (h25 : ν 25 = μ 25) (h26 : ν 26 = μ 26) (h27 : ν 27 = μ 27) (h28 : ν 28 = μ 28) (h29 : ν 29 = μ 29) (h30 : ν 30 = μ 30) (h31 : ν 31 = μ 31) (h32 : ν 32 = μ 32) (h33 : ν 33 = μ 33) (h37 : ν 37 = μ 37) (h38 : ν 38 = μ 38) (h39 : ν 39 = μ 39) : tT ν = tT μ := by
  funext a b
  unfold tT
  rw [h1, h2, h3, h5]
  by_cases q0 : a = 0
  · rw [if_pos q0, if_pos q0]
  · rw [if_neg q0, if_neg q0]
    by_cases q1 : 1 ≤ a ∧ a ≤ 9
    · rw [if_pos q1, if_pos q1]
      have : a = 1 ∨ a = 2 ∨ a = 3 ∨ a = 4 ∨ a = 5 ∨ a = 6 ∨ a = 7 ∨ a = 8 ∨ a = 9 := by omega
      rcases this with rfl | rfl | rfl | rfl | rfl | rfl | rfl | rfl | rfl
      · exact congrFun h25 b
      · exact congrFun h26 b
      · exact congrFun h27 b
      · exact congrFun h28 b
      · exact congrFun h29 b
      · exact congrFun h30 b
      · exact congrFun h31 b
      · exact congrFun h32 b
      · exact congrFun h33 b
    · rw [if_neg q1, if_neg q1]
      by_cases q2 : 10 ≤ a ∧ a ≤ 12
      · rw [if_pos q2, if_pos q2]
        have : a = 10 ∨ a = 11 ∨ a = 12 := by omega
        rcases this with rfl | rfl | rfl
        · exact congrFun h37 b
        · exact congrFun h38 b
        · exact congrFun h39 b
      · rw [if_neg q2, if_neg q2]
theorem hvS_ok {c s : Int} (hc : c = 0 ∨ c = 1) (h : hvS c s ≠ -1) : (c = 0 → 0 ≤ hvS c s ∧ hvS c s ≤ 2) ∧ (c = 1 → 1 ≤ hvS c s ∧ hvS c s ≤ 20) := by
  unfold hvS at *
  grind
theorem bvS_ok {c s : Int} (hc : c = 0 ∨ c = 1 ∨ c = 2 ∨ c = 3) (h : bvS c s ≠ -1) : (c = 0 → 0 ≤ bvS c s ∧ bvS c s ≤ 5) ∧ (c = 1 → 0 ≤ bvS c s ∧ bvS c s ≤ 23) ∧ (c = 2 → 0 ≤ bvS c s ∧ bvS c s ≤ 8) ∧ (c = 3 → 1 ≤ bvS c s ∧ bvS c s ≤ 20) := by
  rcases hc with rfl | rfl | rfl | rfl
  all_goals unfold bvS at *
  all_goals simp only [Int.reduceEq, if_true, if_false, reduceIte] at *
  all_goals grind
theorem fcF_N {vf : Int → Int → Int} {P : Nat} {s : Int → Int} {n : Nat} (h : fcF vf P s n = -1) : fcN vf P s n = -1 := by
  unfold fcF at h
  by_cases q : fcN vf P s n = -1
  · exact q
  · rw [if_pos q] at h
    exact h
theorem XH.tw {μ : MMem} (h : XH μ) : (0 ≤ μ 1 3 ∧ μ 1 3 ≤ 6) ∧ ∀ j, 0 ≤ j → j < μ 1 3 → 0 ≤ μ 25 j ∧ μ 25 j ≤ 2 ∧ 1 ≤ μ 26 j ∧ μ 26 j ≤ 20 := by
  obtain ⟨x1, x2, x3, x4, x5⟩ := h
  by_cases hp : 0 < fcC hvS 3 (μ 40) (μ 6 2).toNat
  · obtain ⟨p1, p2⟩ := fcC_pos hp
    have hw := x5 (by rw [x3]; exact p1)
    have hok := fcN_ok (fcF_N p1)
    refine ⟨by rw [x4, p2]; omega, fun j j0 j1 => ?_⟩
    have hj : (j : Int) < (((μ 6 2).toNat + 1) / 3 : Nat) := by rw [← p2, ← x4]; exact j1
    have ej : ((j.toNat : Nat) : Int) = j := by omega
    have b1 : μ 25 j = hvS 0 (μ 40 ((3 * j.toNat + 0 : Nat) : Int)) := by
      have := hw j.toNat 0 (by decide) (by omega)
      rw [ej] at this
      exact this
    have b2 : μ 26 j = hvS 1 (μ 40 ((3 * j.toNat + 1 : Nat) : Int)) := by
      have := hw j.toNat 1 (by decide) (by omega)
      rw [ej] at this
      exact this
    have o1 : hvS 0 (μ 40 ((3 * j.toNat + 0 : Nat) : Int)) ≠ -1 := by
      have := hok (3 * j.toNat + 0) (by omega)
      rw [show (3 * j.toNat + 0) % 3 = 0 by omega] at this
      exact this
    have o2 : hvS 1 (μ 40 ((3 * j.toNat + 1 : Nat) : Int)) ≠ -1 := by
      have := hok (3 * j.toNat + 1) (by omega)
      rw [show (3 * j.toNat + 1) % 3 = 1 by omega] at this
      exact this
    have r1 := (hvS_ok (Or.inl rfl) o1).1 rfl
    have r2 := (hvS_ok (Or.inr rfl) o2).2 rfl
    rw [← b1] at r1
    rw [← b2] at r2
    exact ⟨r1.1, r1.2, r2.1, r2.2⟩
  · have : fcC hvS 3 (μ 40) (μ 6 2).toNat = 0 := by
      unfold fcC at *
      split at hp <;> split <;> omega
    refine ⟨by omega, fun j j0 j1 => by omega⟩
theorem XB.tw {μ : MMem} (h : XB μ) : (0 ≤ μ 2 3 ∧ μ 2 3 ≤ 8) ∧ ∀ j, 0 ≤ j → j < μ 2 3 → 0 ≤ μ 27 j ∧ μ 27 j ≤ 5 ∧ 0 ≤ μ 28 j ∧ μ 28 j ≤ 23 ∧ 0 ≤ μ 29 j ∧ μ 29 j ≤ 8 ∧ 1 ≤ μ 30 j ∧ μ 30 j ≤ 20 := by
  obtain ⟨x1, x2, x3, x4, x5⟩ := h
  by_cases hp : 0 < fcC bvS 5 (μ 41) (μ 7 2).toNat
  · obtain ⟨p1, p2⟩ := fcC_pos hp
    have hw := x5 (by rw [x3]; exact p1)
    have hok := fcN_ok (fcF_N p1)
    refine ⟨by rw [x4, p2]; omega, fun j j0 j1 => ?_⟩
    have hj : (j : Int) < (((μ 7 2).toNat + 1) / 5 : Nat) := by rw [← p2, ← x4]; exact j1
    have ej : ((j.toNat : Nat) : Int) = j := by omega
    have b1 : μ 27 j = bvS 0 (μ 41 ((5 * j.toNat + 0 : Nat) : Int)) := by
      have := hw j.toNat 0 (by decide) (by omega)
      rw [ej] at this
      exact this
    have o1 : bvS 0 (μ 41 ((5 * j.toNat + 0 : Nat) : Int)) ≠ -1 := by
      have := hok (5 * j.toNat + 0) (by omega)
      rw [show (5 * j.toNat + 0) % 5 = 0 by omega] at this
      exact this
    have b2 : μ 28 j = bvS 1 (μ 41 ((5 * j.toNat + 1 : Nat) : Int)) := by
      have := hw j.toNat 1 (by decide) (by omega)
      rw [ej] at this
      exact this
    have o2 : bvS 1 (μ 41 ((5 * j.toNat + 1 : Nat) : Int)) ≠ -1 := by
      have := hok (5 * j.toNat + 1) (by omega)
      rw [show (5 * j.toNat + 1) % 5 = 1 by omega] at this
      exact this
    have b3 : μ 29 j = bvS 2 (μ 41 ((5 * j.toNat + 2 : Nat) : Int)) := by
      have := hw j.toNat 2 (by decide) (by omega)
      rw [ej] at this
      exact this
    have o3 : bvS 2 (μ 41 ((5 * j.toNat + 2 : Nat) : Int)) ≠ -1 := by
      have := hok (5 * j.toNat + 2) (by omega)
      rw [show (5 * j.toNat + 2) % 5 = 2 by omega] at this
      exact this
    have b4 : μ 30 j = bvS 3 (μ 41 ((5 * j.toNat + 3 : Nat) : Int)) := by
      have := hw j.toNat 3 (by decide) (by omega)
      rw [ej] at this
      exact this
    have o4 : bvS 3 (μ 41 ((5 * j.toNat + 3 : Nat) : Int)) ≠ -1 := by
      have := hok (5 * j.toNat + 3) (by omega)
      rw [show (5 * j.toNat + 3) % 5 = 3 by omega] at this
      exact this
    have r1 := (bvS_ok (Or.inl rfl) o1).1 rfl
    have r2 := (bvS_ok (Or.inr (Or.inl rfl)) o2).2.1 rfl
    have r3 := (bvS_ok (Or.inr (Or.inr (Or.inl rfl))) o3).2.2.1 rfl
    have r4 := (bvS_ok (Or.inr (Or.inr (Or.inr rfl))) o4).2.2.2 rfl
    rw [← b1] at r1
    rw [← b2] at r2
    rw [← b3] at r3
    rw [← b4] at r4
    exact ⟨r1.1, r1.2, r2.1, r2.2, r3.1, r3.2, r4.1, r4.2⟩
  · have : fcC bvS 5 (μ 41) (μ 7 2).toNat = 0 := by
      unfold fcC at *
      split at hp <;> split <;> omega
    refine ⟨by omega, fun j j0 j1 => by omega⟩
theorem INV.tw {μ : MMem} (h : INV μ) : TW (tT μ) := by
  obtain ⟨h1, h2, h3, -⟩ := h
  have a := h1.tw
  have b := h2.tw
  refine ⟨a.1, b.1, h3.1, fun j j0 j1 => a.2 j j0 j1, fun j j0 j1 => b.2 j j0 j1, fun j j0 j1 => ?_⟩
  have := h3.2 j j0 j1
  unfold mbP at this
  show 0 ≤ μ 31 j ∧ μ 31 j ≤ 2 ∧ 0 ≤ μ 32 j ∧ μ 32 j ≤ 23 ∧ 0 ≤ μ 33 j ∧ μ 33 j ≤ 5
  omega
theorem INV.ci {μ : MMem} (h : INV μ) : CI μ (tT μ) := ⟨h.tw, ⟨rfl, rfl, fun _ _ _ => ⟨rfl, rfl⟩, fun _ _ _ => ⟨rfl, rfl, rfl, rfl⟩⟩, ⟨rfl, Or.inl ⟨rfl, fun _ _ _ => ⟨rfl, rfl, rfl⟩⟩⟩, rfl⟩
theorem INV.sg {μ : MMem} (h : INV μ) : SG μ (tT μ) := ⟨h.2.2.2.2.2.2.1.1, rfl, fun j j0 j1 => ⟨⟨rfl, rfl, rfl⟩, h.2.2.2.2.2.2.1.2 j j0 j1⟩⟩
theorem INV.ds {μ : MMem} (h : INV μ) : DS μ (tT μ) := ⟨h.2.2.2.2.2.2.1.1, h.2.2.2.2.2.2.2.1.1, fun j j0 j1 => ⟨h.2.2.2.2.2.2.2.1.2 j j0 j1, h.2.2.2.2.2.2.1.2 j j0 j1⟩⟩
theorem INV.in {μ : MMem} (h : INV μ) : IN μ (tT μ) := ⟨h.ci, h.1, h.2.1, h.2.2.2.1, h.2.2.2.2.1.1, h.2.2.2.2.1.2.1, h.2.2.2.2.1.2.2⟩
theorem INV.cq {μ : MMem} (h : INV μ) : CQ μ (tT μ) := ⟨h.ci, h.2.2.2.2.2.1, h.sg⟩
/-- each part by the cells that it reads -/
theorem XH.c {μ ν : MMem} (h : XH μ) (h1 : ν 1 = μ 1) (h6 : ν 6 = μ 6) (h25 : ν 25 = μ 25) (h26 : ν 26 = μ 26) (h40 : ν 40 = μ 40) : XH ν := by
  unfold XH RWH at *
  rw [h1, h6, h40]
  obtain ⟨g1, g2, g3, g4, g5⟩ := h
  refine ⟨g1, g2, g3, g4, fun q r c hc hr => ?_⟩
  have : c = 0 ∨ c = 1 := by omega
  rcases this with rfl | rfl
  · exact (congrFun h25 _).trans (g5 q r 0 hc hr)
  · exact (congrFun h26 _).trans (g5 q r 1 hc hr)
theorem XB.c {μ ν : MMem} (h : XB μ) (h2 : ν 2 = μ 2) (h7 : ν 7 = μ 7) (h27 : ν 27 = μ 27) (h28 : ν 28 = μ 28) (h29 : ν 29 = μ 29) (h30 : ν 30 = μ 30) (h41 : ν 41 = μ 41) : XB ν := by
  unfold XB RWB at *
  rw [h2, h7, h41]
  obtain ⟨g1, g2, g3, g4, g5⟩ := h
  refine ⟨g1, g2, g3, g4, fun q r c hc hr => ?_⟩
  have : c = 0 ∨ c = 1 ∨ c = 2 ∨ c = 3 := by omega
  rcases this with rfl | rfl | rfl | rfl
  · exact (congrFun h27 _).trans (g5 q r 0 hc hr)
  · exact (congrFun h28 _).trans (g5 q r 1 hc hr)
  · exact (congrFun h29 _).trans (g5 q r 2 hc hr)
  · exact (congrFun h30 _).trans (g5 q r 3 hc hr)
theorem EV.c {μ ν : MMem} (h : EV μ) (h3 : ν 3 = μ 3) (h31 : ν 31 = μ 31) (h32 : ν 32 = μ 32) (h33 : ν 33 = μ 33) : EV ν := by
  unfold EV at *
  rw [h3, h31, h32, h33]
  exact h
theorem XR.c {μ ν : MMem} (h : XR μ) (h6 : ν 6 = μ 6) (h7 : ν 7 = μ 7) (h40 : ν 40 = μ 40) (h41 : ν 41 = μ 41) (h52 : ν 52 = μ 52) (h53 : ν 53 = μ 53) : XR ν := by
  unfold XR at *
  rw [h6, h7, h40, h41, h52, h53]
  exact h
theorem DEr.c {μ ν : MMem} (h : DEr μ) (h3 : ν 3 = μ 3) (h31 : ν 31 = μ 31) (h32 : ν 32 = μ 32) (h33 : ν 33 = μ 33) (h56 : ν 56 = μ 56) (h11 : ν 47 11 = μ 47 11) (h13 : ν 47 13 = μ 47 13) : DEr ν := by
  unfold DEr at *
  rw [h3, h31, h32, h33, h56, h11, h13]
  exact h
theorem SGr.c {μ ν : MMem} (h : SGr μ) (h5 : ν 5 = μ 5) (h37 : ν 37 = μ 37) (h38 : ν 38 = μ 38) : SGr ν := by
  unfold SGr at *
  rw [h5, h37, h38]
  exact h
theorem DSr.c {μ ν : MMem} (h : DSr μ) (h5 : ν 5 = μ 5) (h37 : ν 37 = μ 37) (h38 : ν 38 = μ 38) (h39 : ν 39 = μ 39) (h68 : ν 68 = μ 68) (h25 : ν 47 25 = μ 47 25) : DSr ν := by
  unfold DSr at *
  rw [h5, h37, h38, h39, h68, h25]
  exact h
theorem SHR.c {μ ν : MMem} (h : SHR μ) (hr : ∀ a, 9 ≤ a → a ≤ 16 → ν a = μ a) (h48 : ν 48 = μ 48) (h49 : ν 49 = μ 49) (h50 : ν 50 = μ 50) : SHR ν := by
  intro s s0 s1
  rw [hr (9 + s) (by omega) (by omega), hr (13 + s) (by omega) (by omega), h48, h49, h50]
  exact h s s0 s1
/-- nothing told changes -/
theorem INV.same {μ ν : MMem} (h : INV μ) (hc : ∀ a, (1 ≤ a ∧ a ≤ 3) ∨ (5 ≤ a ∧ a ≤ 7) ∨ (9 ≤ a ∧ a ≤ 16) ∨ (25 ≤ a ∧ a ≤ 33) ∨ (37 ≤ a ∧ a ≤ 41) ∨ (48 ≤ a ∧ a ≤ 50) ∨ a = 52 ∨ a = 53 ∨ a = 56 ∨ a = 68 → ν a = μ a) (hM : MO ν (tT μ)) (h11 : ν 47 11 = μ 47 11) (h13 : ν 47 13 = μ 47 13) (h25 : ν 47 25 = μ 47 25) (hl : ν 47 4 = ν 0 12) : INV ν ∧ tT ν = tT μ := by
  have et : tT ν = tT μ := tT_c (hc 1 (by decide)) (hc 2 (by decide)) (hc 3 (by decide)) (hc 5 (by decide)) (hc 25 (by decide)) (hc 26 (by decide)) (hc 27 (by decide)) (hc 28 (by decide)) (hc 29 (by decide)) (hc 30 (by decide)) (hc 31 (by decide)) (hc 32 (by decide)) (hc 33 (by decide)) (hc 37 (by decide)) (hc 38 (by decide)) (hc 39 (by decide))
  obtain ⟨i1, i2, i3, i4, i5, i6, i7, i8, i9, i10⟩ := h
  refine ⟨⟨i1.c (hc 1 (by decide)) (hc 6 (by decide)) (hc 25 (by decide)) (hc 26 (by decide)) (hc 40 (by decide)), i2.c (hc 2 (by decide)) (hc 7 (by decide)) (hc 27 (by decide)) (hc 28 (by decide)) (hc 29 (by decide)) (hc 30 (by decide)) (hc 41 (by decide)), i3.c (hc 3 (by decide)) (hc 31 (by decide)) (hc 32 (by decide)) (hc 33 (by decide)), i4.c (hc 6 (by decide)) (hc 7 (by decide)) (hc 40 (by decide)) (hc 41 (by decide)) (hc 52 (by decide)) (hc 53 (by decide)), i5.c (hc 3 (by decide)) (hc 31 (by decide)) (hc 32 (by decide)) (hc 33 (by decide)) (hc 56 (by decide)) h11 h13, ?_, i7.c (hc 5 (by decide)) (hc 37 (by decide)) (hc 38 (by decide)), i8.c (hc 5 (by decide)) (hc 37 (by decide)) (hc 38 (by decide)) (hc 39 (by decide)) (hc 68 (by decide)) h25, i9.c (fun a a1 a2 => hc a (by omega)) (hc 48 (by decide)) (hc 49 (by decide)) (hc 50 (by decide)), hl⟩, et⟩
  rw [et]
  exact hM
theorem INV.gq {μ ν : MMem} (h : INV μ) (g : GQ μ ν (tT μ)) : INV ν ∧ tT ν = tT μ := by
  have hc : ∀ a : Int, a ≠ 0 → a ≠ 4 → a ≠ 8 → a ≠ 18 → a ≠ 19 → (a < 34 ∨ 36 < a) → (a < 42 ∨ 46 < a) → ν a = μ a := g.1.1
  have e47 : ν 47 = μ 47 := hc 47 (by decide) (by decide) (by decide) (by decide) (by decide) (by decide) (by decide)
  refine h.same (fun a ha => hc a (by omega) (by omega) (by omega) (by omega) (by omega) (by omega) (by omega)) g.2 (by rw [e47]) (by rw [e47]) (by rw [e47]) ?_
  rw [e47, g.1.2 12 (by decide)]
  exact h.2.2.2.2.2.2.2.2.2
theorem INV.fm {μ ν : MMem} (h : INV μ) (g : FM μ ν) : INV ν ∧ tT ν = tT μ := by
  refine h.same (fun a ha => g.lo (by omega)) ?_ (g.2 11 (by decide) (by decide) (by decide)) (g.2 13 (by decide) (by decide) (by decide)) (g.2 25 (by decide) (by decide) (by decide)) ?_
  · have := h.2.2.2.2.2.1
    unfold MO at *
    rw [g.lo (a := 0) (by decide), g.lo (a := 18) (by decide)]
    exact this
  · rw [g.2 4 (by decide) (by decide) (by decide), g.lo (a := 0) (by decide)]
    exact h.2.2.2.2.2.2.2.2.2
/-- one call of the law: both sides answer alike, and what holds between calls holds again -/
def LW (t f g : Nat) (as : List MVal) (μ : MMem) : Prop := ∃ (μ1 μ2 : MMem) (v : Int), (∀ Q : MVal → MMem → Prop, Cal f ((9, 0) :: as) μ Q = Q (t, v) μ1) ∧ (∀ Q : MVal → MMem → Prop, Cal g ((10, 47) :: as) μ1 Q = Q (t, v) μ2) ∧ INV μ2 ∧ μ2 202 = μ 202 ∧ μ1 202 = μ 202
theorem GQ.s {μ ν T : MMem} (h : GQ μ ν T) : ν 202 = μ 202 := h.1.1 202 (by decide) (by decide) (by decide) (by decide) (by decide) (by decide) (by decide)
theorem FM.s {μ ν : MMem} (h : FM μ ν) : ν 202 = μ 202 := h.lo (by decide)
theorem l_at {μ : MMem} (h : INV μ) (y i w : Int) : LW 0 50 152 [(0, y), (0, i), (0, w)] μ := by
  obtain ⟨μ1, f1, c1⟩ := c_at μ h.ci y i w
  have g := f1.gq h.2.2.2.2.2.1
  obtain ⟨h1, e1⟩ := h.gq g
  have hin := h1.in
  have hds := h1.ds
  rw [e1] at hin hds
  obtain ⟨μ2, f2, c2⟩ := d_at μ1 hin y i w
  exact ⟨μ1, μ2, _, c1, c2, (h1.fm f2).1, f2.s.trans g.s, g.s⟩
theorem l_door {μ : MMem} (h : INV μ) (y k w : Int) : LW 0 51 154 [(0, y), (0, k), (0, w)] μ := by
  obtain ⟨μ1, f1, c1⟩ := c_door μ h.ci y k w
  have g := f1.gq h.2.2.2.2.2.1
  obtain ⟨h1, e1⟩ := h.gq g
  have hin := h1.in
  have hds := h1.ds
  rw [e1] at hin hds
  obtain ⟨μ2, f2, c2⟩ := d_door μ1 hin y k w
  exact ⟨μ1, μ2, _, c1, c2, (h1.fm f2).1, f2.s.trans g.s, g.s⟩
theorem l_draught {μ : MMem} (h : INV μ) (y : Int) : LW 0 52 156 [(0, y)] μ := by
  obtain ⟨μ1, f1, c1⟩ := c_draught μ h.ci y
  have g := f1.gq h.2.2.2.2.2.1
  obtain ⟨h1, e1⟩ := h.gq g
  have hin := h1.in
  have hds := h1.ds
  rw [e1] at hin hds
  obtain ⟨μ2, f2, c2⟩ := d_draught μ1 hin y
  exact ⟨μ1, μ2, _, c1, c2, (h1.fm f2).1, f2.s.trans g.s, g.s⟩
theorem l_dog {μ : MMem} (h : INV μ) (w : Int) : LW 0 53 158 [(0, w)] μ := by
  obtain ⟨μ1, f1, c1⟩ := c_dog μ h.ci w
  have g := f1.gq h.2.2.2.2.2.1
  obtain ⟨h1, e1⟩ := h.gq g
  have hin := h1.in
  have hds := h1.ds
  rw [e1] at hin hds
  obtain ⟨μ2, f2, c2⟩ := d_dog μ1 hin w
  exact ⟨μ1, μ2, _, c1, c2, (h1.fm f2).1, f2.s.trans g.s, g.s⟩
theorem l_lowest {μ : MMem} (h : INV μ) : LW 0 55 162 [] μ := by
  obtain ⟨μ1, f1, c1⟩ := c_lowest μ h.ci
  have g := f1.gq h.2.2.2.2.2.1
  obtain ⟨h1, e1⟩ := h.gq g
  have hin := h1.in
  have hds := h1.ds
  rw [e1] at hin hds
  obtain ⟨μ2, f2, c2⟩ := d_lowest μ1 hin
  exact ⟨μ1, μ2, _, c1, c2, (h1.fm f2).1, f2.s.trans g.s, g.s⟩
theorem l_left {μ : MMem} (h : INV μ) (w : Int) : LW 0 56 164 [(0, w)] μ := by
  obtain ⟨μ1, f1, c1⟩ := c_left μ h.ci w
  have g := f1.gq h.2.2.2.2.2.1
  obtain ⟨h1, e1⟩ := h.gq g
  have hin := h1.in
  have hds := h1.ds
  rw [e1] at hin hds
  obtain ⟨μ2, f2, c2⟩ := d_left μ1 hin w
  exact ⟨μ1, μ2, _, c1, c2, (h1.fm f2).1, f2.s.trans g.s, g.s⟩
theorem l_wed {μ : MMem} (h : INV μ) (k w : Int) : LW 0 57 167 [(0, k), (0, w)] μ := by
  obtain ⟨μ1, f1, c1⟩ := c_wed μ h.ci k w
  have g := f1.gq h.2.2.2.2.2.1
  obtain ⟨h1, e1⟩ := h.gq g
  have hin := h1.in
  have hds := h1.ds
  rw [e1] at hin hds
  obtain ⟨μ2, f2, c2⟩ := d_wed μ1 hin k w
  exact ⟨μ1, μ2, _, c1, c2, (h1.fm f2).1, f2.s.trans g.s, g.s⟩
theorem l_when {μ : MMem} (h : INV μ) (k w : Int) : LW 0 58 168 [(0, k), (0, w)] μ := by
  obtain ⟨μ1, f1, c1⟩ := c_when μ h.ci k w
  have g := f1.gq h.2.2.2.2.2.1
  obtain ⟨h1, e1⟩ := h.gq g
  have hin := h1.in
  have hds := h1.ds
  rw [e1] at hin hds
  obtain ⟨μ2, f2, c2⟩ := d_when μ1 hin k w
  exact ⟨μ1, μ2, _, c1, c2, (h1.fm f2).1, f2.s.trans g.s, g.s⟩
theorem l_from {μ : MMem} (h : INV μ) (k w : Int) : LW 0 59 169 [(0, k), (0, w)] μ := by
  obtain ⟨μ1, f1, c1⟩ := c_from μ h.ci k w
  have g := f1.gq h.2.2.2.2.2.1
  obtain ⟨h1, e1⟩ := h.gq g
  have hin := h1.in
  have hds := h1.ds
  rw [e1] at hin hds
  obtain ⟨μ2, f2, c2⟩ := d_from μ1 hin k w
  exact ⟨μ1, μ2, _, c1, c2, (h1.fm f2).1, f2.s.trans g.s, g.s⟩
theorem l_spare {μ : MMem} (h : INV μ) (i : Int) : LW 0 60 172 [(0, i)] μ := by
  obtain ⟨μ1, f1, c1⟩ := c_spare μ h.ci h.2.2.2.2.2.1 i
  have g : GQ μ μ1 (tT μ) := f1
  obtain ⟨h1, e1⟩ := h.gq g
  have hin := h1.in
  have hds := h1.ds
  rw [e1] at hin hds
  obtain ⟨μ2, f2, c2⟩ := d_spare μ1 hin i
  exact ⟨μ1, μ2, _, c1, c2, (h1.fm f2).1, f2.s.trans g.s, g.s⟩
theorem l_never {μ : MMem} (h : INV μ) : LW 0 67 177 [] μ := by
  obtain ⟨μ1, f1, c1⟩ := c_never μ h.ci h.sg
  have g := f1.gq h.2.2.2.2.2.1
  obtain ⟨h1, e1⟩ := h.gq g
  have hin := h1.in
  have hds := h1.ds
  rw [e1] at hin hds
  obtain ⟨μ2, f2, c2⟩ := d_never μ1 hin hds
  exact ⟨μ1, μ2, _, c1, c2, (h1.fm f2).1, f2.s.trans g.s, g.s⟩
theorem l_was {μ : MMem} (h : INV μ) (i w : Int) : LW 0 68 181 [(0, i), (0, w)] μ := by
  obtain ⟨μ1, f1, c1⟩ := c_was μ h.ci h.sg i w
  have g := f1.gq h.2.2.2.2.2.1
  obtain ⟨h1, e1⟩ := h.gq g
  have hin := h1.in
  have hds := h1.ds
  rw [e1] at hin hds
  obtain ⟨μ2, f2, c2⟩ := d_was μ1 hin hds i w
  exact ⟨μ1, μ2, _, c1, c2, (h1.fm f2).1, f2.s.trans g.s, g.s⟩
theorem l_ask {μ : MMem} (h : INV μ) (i : Int) : LW 0 69 184 [(0, i)] μ := by
  obtain ⟨μ1, f1, c1⟩ := c_ask μ h.ci h.2.2.2.2.2.1 h.sg i
  have g : GQ μ μ1 (tT μ) := f1
  obtain ⟨h1, e1⟩ := h.gq g
  have hin := h1.in
  have hds := h1.ds
  rw [e1] at hin hds
  obtain ⟨μ2, f2, c2⟩ := d_ask μ1 hin hds i
  exact ⟨μ1, μ2, _, c1, c2, (h1.fm f2).1, f2.s.trans g.s, g.s⟩
theorem l_chance {μ : MMem} (h : INV μ) (c i w : Int) : LW 1 70 186 [(0, c), (0, i), (0, w)] μ := by
  obtain ⟨μ1, f1, c1⟩ := c_chance μ h.ci h.2.2.2.2.2.1 c i w
  have g : GQ μ μ1 (tT μ) := f1
  obtain ⟨h1, e1⟩ := h.gq g
  have hin := h1.in
  have hds := h1.ds
  rw [e1] at hin hds
  obtain ⟨μ2, f2, c2⟩ := d_chance μ1 hin c i w
  exact ⟨μ1, μ2, _, c1, c2, (h1.fm f2).1, f2.s.trans g.s, g.s⟩
theorem l_ages {μ : MMem} (h : INV μ) (s n w : Int) : LW 0 71 189 [(0, s), (0, n), (0, w)] μ := by
  obtain ⟨μ1, f1, c1⟩ := c_ages μ h.ci h.2.2.2.2.2.1 s n w
  have g : GQ μ μ1 (tT μ) := f1
  obtain ⟨h1, e1⟩ := h.gq g
  have hin := h1.in
  have hds := h1.ds
  rw [e1] at hin hds
  obtain ⟨μ2, f2, c2⟩ := d_ages μ1 hin s n w
  exact ⟨μ1, μ2, _, c1, c2, (h1.fm f2).1, f2.s.trans g.s, g.s⟩
theorem l_kin {μ : MMem} (h : INV μ) (k : Int) : LW 0 54 160 [(0, k)] μ := by
  obtain ⟨μ2, f2, c2⟩ := d_kin μ h.in k
  exact ⟨μ, μ2, _, c_kin μ h.ci k, c2, (h.fm f2).1, f2.s, rfl⟩
theorem l_fault {μ : MMem} (h : INV μ) (t : Int) : LW 0 44 130 [(0, t)] μ := by
  obtain ⟨μ2, f2, c2⟩ := d_fault μ h.in t
  exact ⟨μ, μ2, _, c_fault μ t, c2, (h.fm f2).1, f2.s, rfl⟩
theorem l_house {μ : MMem} (h : INV μ) (i w : Int) : LW 0 45 134 [(0, i), (0, w)] μ := by
  obtain ⟨μ2, f2, c2⟩ := d_house μ h.in i w
  exact ⟨μ, μ2, _, c_house μ h.1.tw.1.2 i w, c2, (h.fm f2).1, f2.s, rfl⟩
theorem l_bride {μ : MMem} (h : INV μ) (i w : Int) : LW 0 46 135 [(0, i), (0, w)] μ := by
  obtain ⟨μ2, f2, c2⟩ := d_bride μ h.in i w
  exact ⟨μ, μ2, _, c_bride μ h.2.1.tw.1.2 i w, c2, (h.fm f2).1, f2.s, rfl⟩
theorem l_count {μ : MMem} (h : INV μ) (w : Int) : LW 0 86 191 [(0, w)] μ := by
  obtain ⟨μ1, f1, c1⟩ := c_count μ h.ci w
  have g := f1.gq h.2.2.2.2.2.1
  obtain ⟨h1, e1⟩ := h.gq g
  have hin := h1.in
  rw [e1] at hin
  obtain ⟨μ2, ⟨f2, -⟩, c2⟩ := d_count μ1 hin h1.2.2.2.2.2.2.2.1.1 h1.2.2.2.2.2.2.2.2.2 w
  rw [cnt_fq g.1] at c2
  exact ⟨μ1, μ2, _, c1, c2, (h1.fm f2).1, f2.s.trans g.s, g.s⟩
theorem dig_fq {μ ν T : MMem} (h : FQ μ ν) : digS ν T = digS μ T := by
  have e : cntS ν T = cntS μ T := funext (cnt_fq h)
  unfold digS dg0
  rw [e, h.1 6 (by decide) (by decide) (by decide) (by decide) (by decide) (by decide) (by decide), h.1 7 (by decide) (by decide) (by decide) (by decide) (by decide) (by decide) (by decide)]
theorem l_digest {μ : MMem} (h : INV μ) : LW 1 87 196 [] μ := by
  obtain ⟨μ1, g, c1⟩ := c_digest μ h.cq
  obtain ⟨h1, e1⟩ := h.gq g
  have hin := h1.in
  have hds := h1.ds
  rw [e1] at hin hds
  obtain ⟨μ2, f2, c2⟩ := d_digest μ1 hin hds h1.2.2.2.2.2.2.2.1.1 h1.2.2.2.2.2.2.2.2.2
  rw [dig_fq g.1] at c2
  exact ⟨μ1, μ2, _, c1, c2, (h1.fm f2).1, f2.s.trans g.s, g.s⟩
