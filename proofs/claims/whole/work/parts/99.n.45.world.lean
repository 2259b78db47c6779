/-! the world's cells by their numbers -/
theorem n_objs : ∀ i, i < 71 → 5 ≤ n_kd i → i ∈ [0, 1, 2, 3, 4, 5, 6, 7, 8, 9, 10, 11, 12, 47] := by decide +kernel
set_option maxRecDepth 20000 in
theorem i_X0 : ∀ w ∈ u_ws RX0 TX0 4, w ∈ n_tb ∧ goodWord w = true := by decide +kernel
set_option maxRecDepth 20000 in
theorem i_X1 : ∀ w ∈ u_ws RX1 TX1 4, w ∈ n_tb ∧ goodWord w = true := by decide +kernel
set_option maxRecDepth 20000 in
theorem i_X2 : ∀ w ∈ u_ws RX2 TX2 4, w ∈ n_tb ∧ goodWord w = true := by decide +kernel
set_option maxRecDepth 20000 in
theorem i_X3 : ∀ w ∈ u_ws RX3 TX3 4, w ∈ n_tb ∧ goodWord w = true := by decide +kernel
set_option maxRecDepth 20000 in
theorem i_X5 : ∀ w ∈ u_ws RX5 TX5 10, w ∈ n_tb ∧ goodWord w = true := by decide +kernel
set_option maxRecDepth 20000 in
theorem i_X6 : ∀ w ∈ u_ws RX6 TX6 13, w ∈ n_tb ∧ goodWord w = true := by decide +kernel
set_option maxRecDepth 20000 in
theorem i_X7 : ∀ w ∈ u_ws RX7 TX7 30, w ∈ n_tb ∧ goodWord w = true := by decide +kernel
def n_F (C : String) (T : u_T) (N : Nat) : Prop := (∀ w ∈ u_ws C T N, w ∈ n_tg) ∧ (∃ ty0 : Nat → FieldType, ∀ k, k < N → parseFieldDescriptor (T k).2.2.1 = some (ty0 k)) ∧ ∀ a, a < N → ∀ b, b < N → a ≠ b → (T a).2.1 ≠ (T b).2.1
theorem n_tgm {w : Cond} (h : w ∈ n_tb ∧ goodWord w = true) : w ∈ n_tg := List.mem_filter.mpr h
theorem n_obj {i : Nat} (hi : i < 71) (h5 : 5 ≤ n_kd i) : ∃ C : String, n_cl[n_ci i]? = some (C, n_T (n_kd i), n_N (n_kd i)) ∧ n_F C (n_T (n_kd i)) (n_N (n_kd i)) := by
  have h := n_objs i hi h5
  have F0 : n_F RX0 TX0 4 := ⟨fun w hw => n_tgm (i_X0 w hw), ⟨_, tyX0_ok⟩, nmX0⟩
  have F1 : n_F RX1 TX1 4 := ⟨fun w hw => n_tgm (i_X1 w hw), ⟨_, tyX1_ok⟩, nmX1⟩
  have F2 : n_F RX2 TX2 4 := ⟨fun w hw => n_tgm (i_X2 w hw), ⟨_, tyX2_ok⟩, nmX2⟩
  have F3 : n_F RX3 TX3 4 := ⟨fun w hw => n_tgm (i_X3 w hw), ⟨_, tyX3_ok⟩, nmX3⟩
  have F5 : n_F RX5 TX5 10 := ⟨fun w hw => n_tgm (i_X5 w hw), ⟨_, tyX5_ok⟩, nmX5⟩
  have F6 : n_F RX6 TX6 13 := ⟨fun w hw => n_tgm (i_X6 w hw), ⟨_, tyX6_ok⟩, nmX6⟩
  have F7 : n_F RX7 TX7 30 := ⟨fun w hw => n_tgm (i_X7 w hw), ⟨_, tyX7_ok⟩, nmX7⟩
  simp only [List.mem_cons, List.not_mem_nil, or_false] at h
  rcases h with rfl | rfl | rfl | rfl | rfl | rfl | rfl | rfl | rfl | rfl | rfl | rfl | rfl | rfl
  · exact ⟨RX6, rfl, F6⟩
  · exact ⟨RX3, rfl, F3⟩
  · exact ⟨RX3, rfl, F3⟩
  · exact ⟨RX3, rfl, F3⟩
  · exact ⟨RX3, rfl, F3⟩
  · exact ⟨RX3, rfl, F3⟩
  · exact ⟨RX1, rfl, F1⟩
  · exact ⟨RX0, rfl, F0⟩
  · exact ⟨RX5, rfl, F5⟩
  · exact ⟨RX2, rfl, F2⟩
  · exact ⟨RX2, rfl, F2⟩
  · exact ⟨RX2, rfl, F2⟩
  · exact ⟨RX2, rfl, F2⟩
  · exact ⟨RX7, rfl, F7⟩
/-- final fields: what they hold is of their sort -/
def n_fin1 (i k : Nat) : Bool :=
  let f := n_T (n_kd i) k
  if f.2.2.2 then (if n_dt f.2.2.1 < 2 then decide (n_dt f.2.2.1 = 0) && decide (0 ≤ m_rf i k) && decide (m_rf i k < 100) else decide (n_dt f.2.2.1 ≤ 8) && decide (0 ≤ m_rf i k) && decide (m_rf i k < 71) && decide (n_kd (m_rf i k).toNat = n_dt f.2.2.1))
  else decide (n_dt f.2.2.1 < 2) || (decide (i = 8) && decide (k = 2) && decide (n_dt f.2.2.1 = 7))
theorem n_fins : ∀ i, i < 71 → 5 ≤ n_kd i → ∀ k, k < n_N (n_kd i) → n_fin1 i k = true := by decide +kernel
theorem n_k7 : ∀ i, i < 71 → n_kd i = 7 → 1 ≤ i ∧ i ≤ 5 := by decide +kernel
theorem n_rows : ∀ i, i < 71 → (n_kd i = 3 → ∀ j, j < (m_rl i).toNat → 0 ≤ m_rf i j ∧ m_rf i j < 71 ∧ n_kd (m_rf i j).toNat = 2) ∧ (n_kd i = 4 → ∀ j, j < (m_rl i).toNat → 0 ≤ m_rf i j ∧ m_rf i j < 71 ∧ n_kd (m_rf i j).toNat = 6) := by decide +kernel
theorem n_al : ∀ i, i < 71 → n_kd i = 2 → 0 ≤ m_al i ∧ m_al i < 1000 := by decide +kernel
theorem n_rl (i : Int) : 0 ≤ m_rl i ∧ m_rl i < 1000 := by
  unfold m_rl
  by_cases h1 : i = 17
  · simp [h1]
  · by_cases h2 : i = 20
    · simp [h2]
    · by_cases h3 : i = 21
      · simp [h3]
      · simp [h1, h2, h3]
theorem n_kd_lt : ∀ i, i < 71 → 2 ≤ n_kd i ∧ n_kd i ≤ 10 := by decide +kernel
section SC0
variable {φ : Nat → Nat} {cI cS cA : ClassId} {μ : MMem}
theorem s_ws_at {i : Nat} (hi : i < 71) : (s_ws φ cI cS cA μ)[i]? = some (φ i, s_ce φ cI cS cA μ i) := by
  unfold s_ws
  rw [List.getElem?_map, List.getElem?_range hi]
  rfl
theorem s_ws_D {A : Nat → Prop} (hφ : ∀ i j, i < 71 → j < 71 → φ i = φ j → i = j) (hA : ∀ i, i < 71 → A (φ i)) : va_D A (s_ws φ cI cS cA μ) := by
  have hlt : ∀ (i : Nat) (q : Nat × va_E), (s_ws φ cI cS cA μ)[i]? = some q → i < 71 := fun i q h => by
    have := (List.getElem?_eq_some_iff.mp h).1
    simpa [s_ws] using this
  refine ⟨fun i j x y hx hy hxy => ?_, fun i x hx => ?_⟩
  · have h1 := hlt i x hx
    have h2 := hlt j y hy
    rw [s_ws_at h1] at hx
    rw [s_ws_at h2] at hy
    cases hx; cases hy
    exact hφ i j h1 h2 hxy
  · have h1 := hlt i x hx
    rw [s_ws_at h1] at hx
    cases hx
    exact hA i h1
theorem s_ws_set {μ' : MMem} {i : Nat} {E : va_E} (hi : i < 71) (hE : s_ce φ cI cS cA μ' i = E) (ho : ∀ j, j < 71 → j ≠ i → s_ce φ cI cS cA μ' j = s_ce φ cI cS cA μ j) : (s_ws φ cI cS cA μ).set i (φ i, E) = s_ws φ cI cS cA μ' := by
  apply List.ext_getElem?
  intro j
  by_cases hj : j < 71
  · rw [s_ws_at hj]
    by_cases e : j = i
    · subst e
      rw [List.getElem?_set_self (by simpa [s_ws] using hi), hE]
    · rw [List.getElem?_set_ne (fun q => e q.symm), s_ws_at hj, ho j hj e]
  · rw [List.getElem?_eq_none (by simpa [s_ws] using hj), List.getElem?_eq_none (by simpa [s_ws] using hj)]
theorem m_w_ne {i : Int} {k v : Int} {a : Int} (h : a ≠ i) : m_w μ i k v a = μ a := by
  funext b
  unfold m_w
  rw [if_neg (fun q => h q.1)]
theorem s_ce_ne {j : Nat} {i k v : Int} (h : (j : Int) ≠ i) : s_ce φ cI cS cA (m_w μ i k v) j = s_ce φ cI cS cA μ j := by
  have e := m_w_ne (μ := μ) (k := k) (v := v) h
  unfold s_ce s_fv
  simp only [e]
theorem s_ce2 {i : Nat} (h : n_kd i = 2) : s_ce φ cI cS cA μ i = .inl (cI, (m_al i).toNat, .inl (fun j => Int32.ofInt (μ i j))) := by unfold s_ce; rw [if_pos h]
theorem s_ce3 {i : Nat} (h : n_kd i = 3) : s_ce φ cI cS cA μ i = .inl (cA, (m_rl i).toNat, .inr (.inr (.inr (.inr (fun j => some (φ (m_rf i j).toNat)))))) := by unfold s_ce; rw [if_neg (by omega), if_pos h]
theorem s_ce4 {i : Nat} (h : n_kd i = 4) : s_ce φ cI cS cA μ i = .inl (cS, (m_rl i).toNat, .inr (.inr (.inr (.inr (fun j => some (φ (m_rf i j).toNat)))))) := by unfold s_ce; rw [if_neg (by omega), if_neg (by omega), if_pos h]
theorem s_ce5 {i : Nat} (h : 5 ≤ n_kd i) : s_ce φ cI cS cA μ i = .inr (n_ci i, (List.range (n_N (n_kd i))).map (s_fv φ μ i)) := by unfold s_ce; rw [if_neg (by omega), if_neg (by omega), if_neg (by omega)]
theorem s_clamp {x : Int} (h : s_R32 x) : (Int32.ofInt x).toNatClampNeg = x.toNat := by
  show (Int32.ofInt x).toInt.toNat = x.toNat
  rw [s_toI h]
theorem s_vpin {x : Int} {n : Nat} (h : s_R32 x) (h0 : 0 ≤ x) (h1 : x < n) : vp_in (Int32.ofInt x) n := by
  rw [vp_in_iff, s_toI h]
  exact ⟨h0, h1⟩
end SC0
