/-! the first memory -/
def x_m0 (L : Nat) (xs : Nat → Int32) : MMem := fun a b => if a = 0 then (if b = 9 then 1 else 0) else if a = 6 ∨ a = 7 then (if b = 3 then -1 else 0) else if a = 8 then (if b = 2 then 3 else 0) else if 9 ≤ a ∧ a ≤ 12 then (if b = 1 then 1 else 0) else if a = 48 then (if 0 ≤ b ∧ b < 4 then -1 else 0) else if a = 202 then (if b = -1 then (L : Int) else (xs b.toNat).toInt) else 0
theorem x_m0_z {L : Nat} {xs : Nat → Int32} {a : Int} (h : a ≠ 0 ∧ (a < 6 ∨ 12 < a) ∧ a ≠ 48 ∧ a ≠ 202) (b : Int) : x_m0 L xs a b = 0 := by
  unfold x_m0
  rw [if_neg h.1, if_neg (by omega), if_neg (by omega), if_neg (by omega), if_neg h.2.2.1, if_neg h.2.2.2]
theorem x_m0_0 {L : Nat} {xs : Nat → Int32} (b : Int) : x_m0 L xs 0 b = if b = 9 then 1 else 0 := rfl
theorem x_m0_6 {L : Nat} {xs : Nat → Int32} (b : Int) : x_m0 L xs 6 b = if b = 3 then -1 else 0 := rfl
theorem x_m0_7 {L : Nat} {xs : Nat → Int32} (b : Int) : x_m0 L xs 7 b = if b = 3 then -1 else 0 := rfl
theorem x_m0_8 {L : Nat} {xs : Nat → Int32} (b : Int) : x_m0 L xs 8 b = if b = 2 then 3 else 0 := rfl
theorem x_m0_s {L : Nat} {xs : Nat → Int32} {a : Int} (h : 9 ≤ a ∧ a ≤ 12) (b : Int) : x_m0 L xs a b = if b = 1 then 1 else 0 := by
  unfold x_m0
  rw [if_neg (by omega), if_neg (by omega), if_neg (by omega), if_pos h]
theorem x_m0_48 {L : Nat} {xs : Nat → Int32} (b : Int) : x_m0 L xs 48 b = if 0 ≤ b ∧ b < 4 then -1 else 0 := rfl
theorem x_m0_202 {L : Nat} {xs : Nat → Int32} (b : Int) : x_m0 L xs 202 b = if b = -1 then (L : Int) else (xs b.toNat).toInt := rfl
theorem x_r32 (x : Int32) : -2147483648 ≤ x.toInt ∧ x.toInt < 2147483648 := ⟨Int32.le_toInt x, Int32.toInt_lt x⟩
theorem x_m0_b {L : Nat} {xs : Nat → Int32} (hL : L ≤ 3072) (a b : Int) : s_R32 (x_m0 L xs a b) := by
  have h := x_r32 (xs b.toNat)
  unfold s_R32 x_m0
  repeat' split
  all_goals omega
theorem x_mo {L : Nat} {xs : Nat → Int32} (hL : L ≤ 3072) : s_mo L xs (x_m0 L xs) := by
  refine ⟨x_m0_b hL, by rw [x_m0_8, if_pos rfl]; decide, by rw [x_m0_202, if_pos rfl], fun j hj => ?_⟩
  rw [x_m0_202, if_neg (by omega)]
  rfl
theorem x_scr {L : Nat} {xs : Nat → Int32} (hL : L ≤ 3072) : SCR (x_m0 L xs) := by
  refine ⟨?_, fun k => x_m0_b hL 202 k⟩
  rw [x_m0_202, if_pos rfl]
  omega
theorem x_f0 (vf : Int → Int → Int) (P : Nat) (s : Int → Int) : fcF vf P s 0 = -1 := by simp [fcF, fcN]
theorem x_c03 (vf : Int → Int → Int) (s : Int → Int) : fcC vf 3 s 0 = 0 := by simp [fcC, x_f0]
theorem x_c05 (vf : Int → Int → Int) (s : Int → Int) : fcC vf 5 s 0 = 0 := by simp [fcC, x_f0]
theorem x_inv {L : Nat} {xs : Nat → Int32} : INV (x_m0 L xs) := by
  have z : ∀ a : Int, a ≠ 0 ∧ (a < 6 ∨ 12 < a) ∧ a ≠ 48 ∧ a ≠ 202 → ∀ b, x_m0 L xs a b = 0 := fun a h b => x_m0_z h b
  have s0 : ∀ b : Int, x_m0 L xs 6 b = if b = 3 then -1 else 0 := x_m0_6
  have s1 : ∀ b : Int, x_m0 L xs 7 b = if b = 3 then -1 else 0 := x_m0_7
  have e62 : x_m0 L xs 6 2 = 0 := by rw [x_m0_6, if_neg (by decide)]
  have e72 : x_m0 L xs 7 2 = 0 := by rw [x_m0_7, if_neg (by decide)]
  have e33 : x_m0 L xs 3 3 = 0 := z 3 (by decide) 3
  have e53 : x_m0 L xs 5 3 = 0 := z 5 (by decide) 3
  have e09 : x_m0 L xs 0 9 = 1 := by rw [x_m0_0, if_pos rfl]
  refine ⟨⟨⟨by rw [e62]; decide, by rw [e62]; decide⟩, fun i i0 i1 => by rw [e62] at i1; omega, ?_, ?_, fun _ => ?_⟩, ⟨⟨by rw [e72]; decide, by rw [e72]; decide⟩, fun i i0 i1 => by rw [e72] at i1; omega, ?_, ?_, fun _ => ?_⟩, ⟨⟨by rw [e33]; decide, by rw [e33]; decide⟩, fun i i0 i1 => by rw [e33] at i1; omega⟩, ⟨(z 53 (by decide) 0).trans e62.symm, (z 53 (by decide) 1).trans e72.symm, fun i i0 i1 => by rw [e62] at i1; omega, fun i i0 i1 => by rw [e72] at i1; omega⟩, ⟨(z 47 (by decide) 11).trans e33.symm, z 47 (by decide) 13, fun i i0 i1 => by rw [e33] at i1; omega⟩, ⟨Or.inr e09, fun q => ?_⟩, ⟨⟨by rw [e53]; decide, by rw [e53]; decide⟩, fun i i0 i1 => by rw [e53] at i1; omega⟩, ⟨(z 47 (by decide) 25).trans e53.symm, fun i i0 i1 => by rw [e53] at i1; omega⟩, fun s s0 s1 => ?_, (z 47 (by decide) 4).trans (show x_m0 L xs 0 12 = 0 by rw [x_m0_0, if_neg (by decide)]).symm⟩
  · rw [e62, Int.toNat_zero, x_f0, x_m0_6, if_pos rfl]
  · rw [e62, Int.toNat_zero, x_c03, x_m0_z (by decide)]
  · rw [e62]; intro r c _ h; exact absurd h (by simp)
  · rw [e72, Int.toNat_zero, x_f0, x_m0_7, if_pos rfl]
  · rw [e72, Int.toNat_zero, x_c05, x_m0_z (by decide)]
  · rw [e72]; intro r c _ h; exact absurd h (by simp)
  · rw [e09] at q
    exact absurd q (by decide)
  · have h3 : x_m0 L xs (9 + s) 3 = 0 := by rw [x_m0_s (by omega)]; rfl
    have h1 : x_m0 L xs (9 + s) 1 = 1 := by rw [x_m0_s (by omega)]; rfl
    rw [h3, h1]
    refine ⟨by decide, by rw [x_m0_z (by omega)], Or.inl ⟨rfl, by rw [x_m0_48, if_pos ⟨s0, s1⟩]⟩, fun i i0 i1 => by omega⟩
/-! a cell of the first world -/
section XC
variable {φ : Nat → Nat} {cI cS cA : ClassId} {μ : MMem} {D : va_G} {cl : List vw_C} {H : Heap}
theorem x_arr {c : ClassId} {n : Nat} {f h : Nat → Value} (e : ∀ j, j < n → f j = h j) : arrV c n f = arrV c n h := by
  unfold arrV
  have : (fun j : Fin n => f j.val) = (fun j : Fin n => h j.val) := funext fun j => e j.val j.isLt
  rw [this]
theorem x_ci {i n a : Nat} {f : Nat → Int32} (hk : n_kd i = 2) (hn : (m_al i).toNat = n) (ha : φ i = a) (hf : ∀ j : Nat, j < n → f j = Int32.ofInt (μ i j)) (h : va_at D cl (a, .inl (cI, n, .inl f)) H) : va_at D cl (φ i, s_ce φ cI cS cA μ i) H := by
  subst ha
  subst hn
  have h0 : H[φ i]? = some (vp_cell cI ((m_al i).toNat, .inl f)) := h
  unfold s_ce
  rw [if_pos hk]
  show H[φ i]? = some (vp_cell cI ((m_al i).toNat, .inl (fun j => Int32.ofInt (μ i j))))
  rw [h0, vp_cell_i, vp_cell_i, x_arr (fun j hj => by rw [hf j hj])]
theorem x_cq {i n a : Nat} {f : Nat → Option Nat} (h2 : n_kd i = 3) (hn : (m_rl i).toNat = n) (ha : φ i = a) (hf : ∀ j : Nat, j < n → f j = some (φ (m_rf i j).toNat)) (h : va_at D cl (a, .inl (cA, n, .inr (.inr (.inr (.inr f))))) H) : va_at D cl (φ i, s_ce φ cI cS cA μ i) H := by
  subst ha
  subst hn
  have h0 : H[φ i]? = some (vp_cell cA ((m_rl i).toNat, .inr (.inr (.inr (.inr f))))) := h
  unfold s_ce
  rw [if_neg (by omega), if_pos h2]
  show H[φ i]? = some (vp_cell cA ((m_rl i).toNat, .inr (.inr (.inr (.inr (fun j => some (φ (m_rf i j).toNat)))))))
  rw [h0, vp_cell_q, vp_cell_q, x_arr (fun j hj => by rw [hf j hj])]
theorem x_cs {i n a : Nat} {f : Nat → Option Nat} (h2 : n_kd i = 4) (hn : (m_rl i).toNat = n) (ha : φ i = a) (hf : ∀ j : Nat, j < n → f j = some (φ (m_rf i j).toNat)) (h : va_at D cl (a, .inl (cS, n, .inr (.inr (.inr (.inr f))))) H) : va_at D cl (φ i, s_ce φ cI cS cA μ i) H := by
  subst ha
  subst hn
  have h0 : H[φ i]? = some (vp_cell cS ((m_rl i).toNat, .inr (.inr (.inr (.inr f))))) := h
  unfold s_ce
  rw [if_neg (by omega), if_neg (by omega), if_pos h2]
  show H[φ i]? = some (vp_cell cS ((m_rl i).toNat, .inr (.inr (.inr (.inr (fun j => some (φ (m_rf i j).toNat)))))))
  rw [h0, vp_cell_q, vp_cell_q, x_arr (fun j hj => by rw [hf j hj])]
theorem x_co {i ci N a : Nat} {fs : List Value} (h2 : 5 ≤ n_kd i) (hc : n_ci i = ci) (hN : n_N (n_kd i) = N) (ha : φ i = a) (hf : (List.range N).map (s_fv φ μ i) = fs) (h : va_at D cl (a, .inr (ci, fs)) H) : va_at D cl (φ i, s_ce φ cI cS cA μ i) H := by
  subst ha
  subst hc
  subst hN
  subst hf
  unfold s_ce
  rw [if_neg (by omega), if_neg (by omega), if_neg (by omega)]
  exact h
theorem x_fi {i k : Nat} {v : Int} {w : Int32} (h1 : n_dt (n_T (n_kd i) k).2.2.1 < 2) (h2 : (if (n_T (n_kd i) k).2.2.2 then m_rf i k else μ i k) = v) (h3 : Int32.ofInt v = w) : s_fv φ μ i k = .int w := by
  unfold s_fv
  rw [if_pos h1, h2, h3]
theorem x_fr {i k t : Nat} (h1 : ¬ n_dt (n_T (n_kd i) k).2.2.1 < 2) (h2 : (if (n_T (n_kd i) k).2.2.2 then m_rf i k else μ i k) = (t : Int)) : s_fv φ μ i k = .ref (φ t) := by
  unfold s_fv
  rw [if_neg h1, h2]
  rfl
theorem x_lay (h : ∀ i, i < 71 → va_at D cl (φ i, s_ce φ cI cS cA μ i) H) : va_P D cl (s_ws φ cI cS cA μ) H := by
  intro k x hx
  unfold s_ws at hx
  rw [List.getElem?_map] at hx
  by_cases hk : k < 71
  · rw [List.getElem?_range hk] at hx
    cases hx
    exact h k hk
  · have hn : (List.range 71)[k]? = none := List.getElem?_eq_none (by rw [List.length_range]; omega)
    rw [hn] at hx
    cases hx
theorem x_inj {A : Nat → Prop} {ws : va_W} {n : Nat} (hD : va_D A ws) (e : ws.map (·.1) = (List.range n).map φ) : (∀ i j, i < n → j < n → φ i = φ j → i = j) ∧ ∀ i, i < n → A (φ i) := by
  have key : ∀ i, i < n → ∃ q, ws[i]? = some q ∧ q.1 = φ i := by
    intro i hi
    have h1 : (ws.map (·.1))[i]? = some (φ i) := by rw [e, List.getElem?_map, List.getElem?_range hi]; rfl
    rw [List.getElem?_map] at h1
    obtain ⟨q, hq, he⟩ := Option.map_eq_some_iff.mp h1
    exact ⟨q, hq, he⟩
  refine ⟨fun i j hi hj hij => ?_, fun i hi => ?_⟩
  · obtain ⟨q, hq, eq⟩ := key i hi
    obtain ⟨r, hr, er⟩ := key j hj
    exact hD.1 i j q r hq hr (by rw [eq, er, hij])
  · obtain ⟨q, hq, eq⟩ := key i hi
    rw [← eq]
    exact hD.2 i q hq
end XC
theorem x_all71 {P : Nat → Prop} (h0 : P 0) (h1 : P 1) (h2 : P 2) (h3 : P 3) (h4 : P 4) (h5 : P 5) (h6 : P 6) (h7 : P 7) (h8 : P 8) (h9 : P 9) (h10 : P 10) (h11 : P 11) (h12 : P 12) (h13 : P 13) (h14 : P 14) (h15 : P 15) (h16 : P 16) (h17 : P 17) (h18 : P 18) (h19 : P 19) (h20 : P 20) (h21 : P 21) (h22 : P 22) (h23 : P 23) (h24 : P 24) (h25 : P 25) (h26 : P 26) (h27 : P 27) (h28 : P 28) (h29 : P 29) (h30 : P 30) (h31 : P 31) (h32 : P 32) (h33 : P 33) (h34 : P 34) (h35 : P 35) (h36 : P 36) (h37 : P 37) (h38 : P 38) (h39 : P 39) (h40 : P 40) (h41 : P 41) (h42 : P 42) (h43 : P 43) (h44 : P 44) (h45 : P 45) (h46 : P 46) (h47 : P 47) (h48 : P 48) (h49 : P 49) (h50 : P 50) (h51 : P 51) (h52 : P 52) (h53 : P 53) (h54 : P 54) (h55 : P 55) (h56 : P 56) (h57 : P 57) (h58 : P 58) (h59 : P 59) (h60 : P 60) (h61 : P 61) (h62 : P 62) (h63 : P 63) (h64 : P 64) (h65 : P 65) (h66 : P 66) (h67 : P 67) (h68 : P 68) (h69 : P 69) (h70 : P 70) : ∀ k, k < 71 → P k
  | 0, _ => h0
  | 1, _ => h1
  | 2, _ => h2
  | 3, _ => h3
  | 4, _ => h4
  | 5, _ => h5
  | 6, _ => h6
  | 7, _ => h7
  | 8, _ => h8
  | 9, _ => h9
  | 10, _ => h10
  | 11, _ => h11
  | 12, _ => h12
  | 13, _ => h13
  | 14, _ => h14
  | 15, _ => h15
  | 16, _ => h16
  | 17, _ => h17
  | 18, _ => h18
  | 19, _ => h19
  | 20, _ => h20
  | 21, _ => h21
  | 22, _ => h22
  | 23, _ => h23
  | 24, _ => h24
  | 25, _ => h25
  | 26, _ => h26
  | 27, _ => h27
  | 28, _ => h28
  | 29, _ => h29
  | 30, _ => h30
  | 31, _ => h31
  | 32, _ => h32
  | 33, _ => h33
  | 34, _ => h34
  | 35, _ => h35
  | 36, _ => h36
  | 37, _ => h37
  | 38, _ => h38
  | 39, _ => h39
  | 40, _ => h40
  | 41, _ => h41
  | 42, _ => h42
  | 43, _ => h43
  | 44, _ => h44
  | 45, _ => h45
  | 46, _ => h46
  | 47, _ => h47
  | 48, _ => h48
  | 49, _ => h49
  | 50, _ => h50
  | 51, _ => h51
  | 52, _ => h52
  | 53, _ => h53
  | 54, _ => h54
  | 55, _ => h55
  | 56, _ => h56
  | 57, _ => h57
  | 58, _ => h58
  | 59, _ => h59
  | 60, _ => h60
  | 61, _ => h61
  | 62, _ => h62
  | 63, _ => h63
  | 64, _ => h64
  | 65, _ => h65
  | 66, _ => h66
  | 67, _ => h67
  | 68, _ => h68
  | 69, _ => h69
  | 70, _ => h70
  | k + 71, h => absurd h (by omega)
theorem fv_0_0 {φ : Nat → Nat} {L : Nat} {xs : Nat → Int32} : s_fv φ (x_m0 L xs) 0 0 = .ref (φ 1) := x_fr (by decide +kernel) ((if_pos (by decide +kernel)).trans (by decide +kernel))
theorem fv_0_1 {φ : Nat → Nat} {L : Nat} {xs : Nat → Int32} : s_fv φ (x_m0 L xs) 0 1 = .ref (φ 2) := x_fr (by decide +kernel) ((if_pos (by decide +kernel)).trans (by decide +kernel))
theorem fv_0_2 {φ : Nat → Nat} {L : Nat} {xs : Nat → Int32} : s_fv φ (x_m0 L xs) 0 2 = .ref (φ 3) := x_fr (by decide +kernel) ((if_pos (by decide +kernel)).trans (by decide +kernel))
theorem fv_0_3 {φ : Nat → Nat} {L : Nat} {xs : Nat → Int32} : s_fv φ (x_m0 L xs) 0 3 = .ref (φ 4) := x_fr (by decide +kernel) ((if_pos (by decide +kernel)).trans (by decide +kernel))
theorem fv_0_4 {φ : Nat → Nat} {L : Nat} {xs : Nat → Int32} : s_fv φ (x_m0 L xs) 0 4 = .ref (φ 5) := x_fr (by decide +kernel) ((if_pos (by decide +kernel)).trans (by decide +kernel))
theorem fv_0_5 {φ : Nat → Nat} {L : Nat} {xs : Nat → Int32} : s_fv φ (x_m0 L xs) 0 5 = .ref (φ 6) := x_fr (by decide +kernel) ((if_pos (by decide +kernel)).trans (by decide +kernel))
theorem fv_0_6 {φ : Nat → Nat} {L : Nat} {xs : Nat → Int32} : s_fv φ (x_m0 L xs) 0 6 = .ref (φ 7) := x_fr (by decide +kernel) ((if_pos (by decide +kernel)).trans (by decide +kernel))
theorem fv_0_7 {φ : Nat → Nat} {L : Nat} {xs : Nat → Int32} : s_fv φ (x_m0 L xs) 0 7 = .ref (φ 8) := x_fr (by decide +kernel) ((if_pos (by decide +kernel)).trans (by decide +kernel))
theorem fv_0_8 {φ : Nat → Nat} {L : Nat} {xs : Nat → Int32} : s_fv φ (x_m0 L xs) 0 8 = .ref (φ 18) := x_fr (by decide +kernel) ((if_pos (by decide +kernel)).trans (by decide +kernel))
theorem fv_0_9 {φ : Nat → Nat} {L : Nat} {xs : Nat → Int32} : s_fv φ (x_m0 L xs) 0 9 = .int 1 := x_fi (v := 1) (by decide +kernel) ((if_neg (by decide +kernel)).trans rfl) (by decide)
theorem fv_0_10 {φ : Nat → Nat} {L : Nat} {xs : Nat → Int32} : s_fv φ (x_m0 L xs) 0 10 = .ref (φ 19) := x_fr (by decide +kernel) ((if_pos (by decide +kernel)).trans (by decide +kernel))
theorem fv_0_11 {φ : Nat → Nat} {L : Nat} {xs : Nat → Int32} : s_fv φ (x_m0 L xs) 0 11 = .ref (φ 17) := x_fr (by decide +kernel) ((if_pos (by decide +kernel)).trans (by decide +kernel))
theorem fv_0_12 {φ : Nat → Nat} {L : Nat} {xs : Nat → Int32} : s_fv φ (x_m0 L xs) 0 12 = .int 0 := x_fi (v := 0) (by decide +kernel) ((if_neg (by decide +kernel)).trans rfl) (by decide)
theorem fv_1_0 {φ : Nat → Nat} {L : Nat} {xs : Nat → Int32} : s_fv φ (x_m0 L xs) 1 0 = .ref (φ 20) := x_fr (by decide +kernel) ((if_pos (by decide +kernel)).trans (by decide +kernel))
theorem fv_1_1 {φ : Nat → Nat} {L : Nat} {xs : Nat → Int32} : s_fv φ (x_m0 L xs) 1 1 = .int 2 := x_fi (v := 2) (by decide +kernel) ((if_pos (by decide +kernel)).trans (by decide +kernel)) (by decide)
theorem fv_1_2 {φ : Nat → Nat} {L : Nat} {xs : Nat → Int32} : s_fv φ (x_m0 L xs) 1 2 = .int 6 := x_fi (v := 6) (by decide +kernel) ((if_pos (by decide +kernel)).trans (by decide +kernel)) (by decide)
theorem fv_1_3 {φ : Nat → Nat} {L : Nat} {xs : Nat → Int32} : s_fv φ (x_m0 L xs) 1 3 = .int 0 := x_fi (v := 0) (by decide +kernel) ((if_neg (by decide +kernel)).trans rfl) (by decide)
theorem fv_2_0 {φ : Nat → Nat} {L : Nat} {xs : Nat → Int32} : s_fv φ (x_m0 L xs) 2 0 = .ref (φ 21) := x_fr (by decide +kernel) ((if_pos (by decide +kernel)).trans (by decide +kernel))
theorem fv_2_1 {φ : Nat → Nat} {L : Nat} {xs : Nat → Int32} : s_fv φ (x_m0 L xs) 2 1 = .int 4 := x_fi (v := 4) (by decide +kernel) ((if_pos (by decide +kernel)).trans (by decide +kernel)) (by decide)
theorem fv_2_2 {φ : Nat → Nat} {L : Nat} {xs : Nat → Int32} : s_fv φ (x_m0 L xs) 2 2 = .int 8 := x_fi (v := 8) (by decide +kernel) ((if_pos (by decide +kernel)).trans (by decide +kernel)) (by decide)
theorem fv_2_3 {φ : Nat → Nat} {L : Nat} {xs : Nat → Int32} : s_fv φ (x_m0 L xs) 2 3 = .int 0 := x_fi (v := 0) (by decide +kernel) ((if_neg (by decide +kernel)).trans rfl) (by decide)
theorem fv_3_0 {φ : Nat → Nat} {L : Nat} {xs : Nat → Int32} : s_fv φ (x_m0 L xs) 3 0 = .ref (φ 22) := x_fr (by decide +kernel) ((if_pos (by decide +kernel)).trans (by decide +kernel))
theorem fv_3_1 {φ : Nat → Nat} {L : Nat} {xs : Nat → Int32} : s_fv φ (x_m0 L xs) 3 1 = .int 3 := x_fi (v := 3) (by decide +kernel) ((if_pos (by decide +kernel)).trans (by decide +kernel)) (by decide)
theorem fv_3_2 {φ : Nat → Nat} {L : Nat} {xs : Nat → Int32} : s_fv φ (x_m0 L xs) 3 2 = .int 8 := x_fi (v := 8) (by decide +kernel) ((if_pos (by decide +kernel)).trans (by decide +kernel)) (by decide)
theorem fv_3_3 {φ : Nat → Nat} {L : Nat} {xs : Nat → Int32} : s_fv φ (x_m0 L xs) 3 3 = .int 0 := x_fi (v := 0) (by decide +kernel) ((if_neg (by decide +kernel)).trans rfl) (by decide)
theorem fv_4_0 {φ : Nat → Nat} {L : Nat} {xs : Nat → Int32} : s_fv φ (x_m0 L xs) 4 0 = .ref (φ 23) := x_fr (by decide +kernel) ((if_pos (by decide +kernel)).trans (by decide +kernel))
theorem fv_4_1 {φ : Nat → Nat} {L : Nat} {xs : Nat → Int32} : s_fv φ (x_m0 L xs) 4 1 = .int 3 := x_fi (v := 3) (by decide +kernel) ((if_pos (by decide +kernel)).trans (by decide +kernel)) (by decide)
theorem fv_4_2 {φ : Nat → Nat} {L : Nat} {xs : Nat → Int32} : s_fv φ (x_m0 L xs) 4 2 = .int 8 := x_fi (v := 8) (by decide +kernel) ((if_pos (by decide +kernel)).trans (by decide +kernel)) (by decide)
theorem fv_4_3 {φ : Nat → Nat} {L : Nat} {xs : Nat → Int32} : s_fv φ (x_m0 L xs) 4 3 = .int 0 := x_fi (v := 0) (by decide +kernel) ((if_neg (by decide +kernel)).trans rfl) (by decide)
theorem fv_5_0 {φ : Nat → Nat} {L : Nat} {xs : Nat → Int32} : s_fv φ (x_m0 L xs) 5 0 = .ref (φ 24) := x_fr (by decide +kernel) ((if_pos (by decide +kernel)).trans (by decide +kernel))
theorem fv_5_1 {φ : Nat → Nat} {L : Nat} {xs : Nat → Int32} : s_fv φ (x_m0 L xs) 5 1 = .int 3 := x_fi (v := 3) (by decide +kernel) ((if_pos (by decide +kernel)).trans (by decide +kernel)) (by decide)
theorem fv_5_2 {φ : Nat → Nat} {L : Nat} {xs : Nat → Int32} : s_fv φ (x_m0 L xs) 5 2 = .int 8 := x_fi (v := 8) (by decide +kernel) ((if_pos (by decide +kernel)).trans (by decide +kernel)) (by decide)
theorem fv_5_3 {φ : Nat → Nat} {L : Nat} {xs : Nat → Int32} : s_fv φ (x_m0 L xs) 5 3 = .int 0 := x_fi (v := 0) (by decide +kernel) ((if_neg (by decide +kernel)).trans rfl) (by decide)
theorem fv_6_0 {φ : Nat → Nat} {L : Nat} {xs : Nat → Int32} : s_fv φ (x_m0 L xs) 6 0 = .ref (φ 40) := x_fr (by decide +kernel) ((if_pos (by decide +kernel)).trans (by decide +kernel))
theorem fv_6_1 {φ : Nat → Nat} {L : Nat} {xs : Nat → Int32} : s_fv φ (x_m0 L xs) 6 1 = .ref (φ 1) := x_fr (by decide +kernel) ((if_pos (by decide +kernel)).trans (by decide +kernel))
theorem fv_6_2 {φ : Nat → Nat} {L : Nat} {xs : Nat → Int32} : s_fv φ (x_m0 L xs) 6 2 = .int 0 := x_fi (v := 0) (by decide +kernel) ((if_neg (by decide +kernel)).trans rfl) (by decide)
theorem fv_6_3 {φ : Nat → Nat} {L : Nat} {xs : Nat → Int32} : s_fv φ (x_m0 L xs) 6 3 = .int (-1) := x_fi (v := (-1)) (by decide +kernel) ((if_neg (by decide +kernel)).trans rfl) (by decide)
theorem fv_7_0 {φ : Nat → Nat} {L : Nat} {xs : Nat → Int32} : s_fv φ (x_m0 L xs) 7 0 = .ref (φ 41) := x_fr (by decide +kernel) ((if_pos (by decide +kernel)).trans (by decide +kernel))
theorem fv_7_1 {φ : Nat → Nat} {L : Nat} {xs : Nat → Int32} : s_fv φ (x_m0 L xs) 7 1 = .ref (φ 2) := x_fr (by decide +kernel) ((if_pos (by decide +kernel)).trans (by decide +kernel))
theorem fv_7_2 {φ : Nat → Nat} {L : Nat} {xs : Nat → Int32} : s_fv φ (x_m0 L xs) 7 2 = .int 0 := x_fi (v := 0) (by decide +kernel) ((if_neg (by decide +kernel)).trans rfl) (by decide)
theorem fv_7_3 {φ : Nat → Nat} {L : Nat} {xs : Nat → Int32} : s_fv φ (x_m0 L xs) 7 3 = .int (-1) := x_fi (v := (-1)) (by decide +kernel) ((if_neg (by decide +kernel)).trans rfl) (by decide)
theorem fv_8_0 {φ : Nat → Nat} {L : Nat} {xs : Nat → Int32} : s_fv φ (x_m0 L xs) 8 0 = .ref (φ 1) := x_fr (by decide +kernel) ((if_pos (by decide +kernel)).trans (by decide +kernel))
theorem fv_8_1 {φ : Nat → Nat} {L : Nat} {xs : Nat → Int32} : s_fv φ (x_m0 L xs) 8 1 = .ref (φ 2) := x_fr (by decide +kernel) ((if_pos (by decide +kernel)).trans (by decide +kernel))
theorem fv_8_2 {φ : Nat → Nat} {L : Nat} {xs : Nat → Int32} : s_fv φ (x_m0 L xs) 8 2 = .ref (φ 3) := x_fr (by decide +kernel) ((if_neg (by decide +kernel)).trans rfl)
theorem fv_8_3 {φ : Nat → Nat} {L : Nat} {xs : Nat → Int32} : s_fv φ (x_m0 L xs) 8 3 = .int 0 := x_fi (v := 0) (by decide +kernel) ((if_neg (by decide +kernel)).trans rfl) (by decide)
theorem fv_8_4 {φ : Nat → Nat} {L : Nat} {xs : Nat → Int32} : s_fv φ (x_m0 L xs) 8 4 = .int 0 := x_fi (v := 0) (by decide +kernel) ((if_neg (by decide +kernel)).trans rfl) (by decide)
theorem fv_8_5 {φ : Nat → Nat} {L : Nat} {xs : Nat → Int32} : s_fv φ (x_m0 L xs) 8 5 = .ref (φ 42) := x_fr (by decide +kernel) ((if_pos (by decide +kernel)).trans (by decide +kernel))
theorem fv_8_6 {φ : Nat → Nat} {L : Nat} {xs : Nat → Int32} : s_fv φ (x_m0 L xs) 8 6 = .ref (φ 43) := x_fr (by decide +kernel) ((if_pos (by decide +kernel)).trans (by decide +kernel))
theorem fv_8_7 {φ : Nat → Nat} {L : Nat} {xs : Nat → Int32} : s_fv φ (x_m0 L xs) 8 7 = .ref (φ 44) := x_fr (by decide +kernel) ((if_pos (by decide +kernel)).trans (by decide +kernel))
theorem fv_8_8 {φ : Nat → Nat} {L : Nat} {xs : Nat → Int32} : s_fv φ (x_m0 L xs) 8 8 = .ref (φ 45) := x_fr (by decide +kernel) ((if_pos (by decide +kernel)).trans (by decide +kernel))
theorem fv_8_9 {φ : Nat → Nat} {L : Nat} {xs : Nat → Int32} : s_fv φ (x_m0 L xs) 8 9 = .ref (φ 46) := x_fr (by decide +kernel) ((if_pos (by decide +kernel)).trans (by decide +kernel))
theorem fv_9_0 {φ : Nat → Nat} {L : Nat} {xs : Nat → Int32} : s_fv φ (x_m0 L xs) 9 0 = .ref (φ 13) := x_fr (by decide +kernel) ((if_pos (by decide +kernel)).trans (by decide +kernel))
theorem fv_9_1 {φ : Nat → Nat} {L : Nat} {xs : Nat → Int32} : s_fv φ (x_m0 L xs) 9 1 = .int 1 := x_fi (v := 1) (by decide +kernel) ((if_neg (by decide +kernel)).trans rfl) (by decide)
theorem fv_9_2 {φ : Nat → Nat} {L : Nat} {xs : Nat → Int32} : s_fv φ (x_m0 L xs) 9 2 = .int 0 := x_fi (v := 0) (by decide +kernel) ((if_neg (by decide +kernel)).trans rfl) (by decide)
theorem fv_9_3 {φ : Nat → Nat} {L : Nat} {xs : Nat → Int32} : s_fv φ (x_m0 L xs) 9 3 = .int 0 := x_fi (v := 0) (by decide +kernel) ((if_neg (by decide +kernel)).trans rfl) (by decide)
theorem fv_10_0 {φ : Nat → Nat} {L : Nat} {xs : Nat → Int32} : s_fv φ (x_m0 L xs) 10 0 = .ref (φ 14) := x_fr (by decide +kernel) ((if_pos (by decide +kernel)).trans (by decide +kernel))
theorem fv_10_1 {φ : Nat → Nat} {L : Nat} {xs : Nat → Int32} : s_fv φ (x_m0 L xs) 10 1 = .int 1 := x_fi (v := 1) (by decide +kernel) ((if_neg (by decide +kernel)).trans rfl) (by decide)
theorem fv_10_2 {φ : Nat → Nat} {L : Nat} {xs : Nat → Int32} : s_fv φ (x_m0 L xs) 10 2 = .int 0 := x_fi (v := 0) (by decide +kernel) ((if_neg (by decide +kernel)).trans rfl) (by decide)
theorem fv_10_3 {φ : Nat → Nat} {L : Nat} {xs : Nat → Int32} : s_fv φ (x_m0 L xs) 10 3 = .int 0 := x_fi (v := 0) (by decide +kernel) ((if_neg (by decide +kernel)).trans rfl) (by decide)
theorem fv_11_0 {φ : Nat → Nat} {L : Nat} {xs : Nat → Int32} : s_fv φ (x_m0 L xs) 11 0 = .ref (φ 15) := x_fr (by decide +kernel) ((if_pos (by decide +kernel)).trans (by decide +kernel))
theorem fv_11_1 {φ : Nat → Nat} {L : Nat} {xs : Nat → Int32} : s_fv φ (x_m0 L xs) 11 1 = .int 1 := x_fi (v := 1) (by decide +kernel) ((if_neg (by decide +kernel)).trans rfl) (by decide)
theorem fv_11_2 {φ : Nat → Nat} {L : Nat} {xs : Nat → Int32} : s_fv φ (x_m0 L xs) 11 2 = .int 0 := x_fi (v := 0) (by decide +kernel) ((if_neg (by decide +kernel)).trans rfl) (by decide)
theorem fv_11_3 {φ : Nat → Nat} {L : Nat} {xs : Nat → Int32} : s_fv φ (x_m0 L xs) 11 3 = .int 0 := x_fi (v := 0) (by decide +kernel) ((if_neg (by decide +kernel)).trans rfl) (by decide)
theorem fv_12_0 {φ : Nat → Nat} {L : Nat} {xs : Nat → Int32} : s_fv φ (x_m0 L xs) 12 0 = .ref (φ 16) := x_fr (by decide +kernel) ((if_pos (by decide +kernel)).trans (by decide +kernel))
theorem fv_12_1 {φ : Nat → Nat} {L : Nat} {xs : Nat → Int32} : s_fv φ (x_m0 L xs) 12 1 = .int 1 := x_fi (v := 1) (by decide +kernel) ((if_neg (by decide +kernel)).trans rfl) (by decide)
theorem fv_12_2 {φ : Nat → Nat} {L : Nat} {xs : Nat → Int32} : s_fv φ (x_m0 L xs) 12 2 = .int 0 := x_fi (v := 0) (by decide +kernel) ((if_neg (by decide +kernel)).trans rfl) (by decide)
theorem fv_12_3 {φ : Nat → Nat} {L : Nat} {xs : Nat → Int32} : s_fv φ (x_m0 L xs) 12 3 = .int 0 := x_fi (v := 0) (by decide +kernel) ((if_neg (by decide +kernel)).trans rfl) (by decide)
theorem fv_47_0 {φ : Nat → Nat} {L : Nat} {xs : Nat → Int32} : s_fv φ (x_m0 L xs) 47 0 = .ref (φ 48) := x_fr (by decide +kernel) ((if_pos (by decide +kernel)).trans (by decide +kernel))
theorem fv_47_1 {φ : Nat → Nat} {L : Nat} {xs : Nat → Int32} : s_fv φ (x_m0 L xs) 47 1 = .ref (φ 49) := x_fr (by decide +kernel) ((if_pos (by decide +kernel)).trans (by decide +kernel))
theorem fv_47_2 {φ : Nat → Nat} {L : Nat} {xs : Nat → Int32} : s_fv φ (x_m0 L xs) 47 2 = .ref (φ 50) := x_fr (by decide +kernel) ((if_pos (by decide +kernel)).trans (by decide +kernel))
theorem fv_47_3 {φ : Nat → Nat} {L : Nat} {xs : Nat → Int32} : s_fv φ (x_m0 L xs) 47 3 = .ref (φ 51) := x_fr (by decide +kernel) ((if_pos (by decide +kernel)).trans (by decide +kernel))
theorem fv_47_4 {φ : Nat → Nat} {L : Nat} {xs : Nat → Int32} : s_fv φ (x_m0 L xs) 47 4 = .int 0 := x_fi (v := 0) (by decide +kernel) ((if_neg (by decide +kernel)).trans rfl) (by decide)
theorem fv_47_5 {φ : Nat → Nat} {L : Nat} {xs : Nat → Int32} : s_fv φ (x_m0 L xs) 47 5 = .ref (φ 52) := x_fr (by decide +kernel) ((if_pos (by decide +kernel)).trans (by decide +kernel))
theorem fv_47_6 {φ : Nat → Nat} {L : Nat} {xs : Nat → Int32} : s_fv φ (x_m0 L xs) 47 6 = .ref (φ 53) := x_fr (by decide +kernel) ((if_pos (by decide +kernel)).trans (by decide +kernel))
theorem fv_47_7 {φ : Nat → Nat} {L : Nat} {xs : Nat → Int32} : s_fv φ (x_m0 L xs) 47 7 = .int 0 := x_fi (v := 0) (by decide +kernel) ((if_neg (by decide +kernel)).trans rfl) (by decide)
theorem fv_47_8 {φ : Nat → Nat} {L : Nat} {xs : Nat → Int32} : s_fv φ (x_m0 L xs) 47 8 = .ref (φ 54) := x_fr (by decide +kernel) ((if_pos (by decide +kernel)).trans (by decide +kernel))
theorem fv_47_9 {φ : Nat → Nat} {L : Nat} {xs : Nat → Int32} : s_fv φ (x_m0 L xs) 47 9 = .int 0 := x_fi (v := 0) (by decide +kernel) ((if_neg (by decide +kernel)).trans rfl) (by decide)
theorem fv_47_10 {φ : Nat → Nat} {L : Nat} {xs : Nat → Int32} : s_fv φ (x_m0 L xs) 47 10 = .ref (φ 55) := x_fr (by decide +kernel) ((if_pos (by decide +kernel)).trans (by decide +kernel))
theorem fv_47_11 {φ : Nat → Nat} {L : Nat} {xs : Nat → Int32} : s_fv φ (x_m0 L xs) 47 11 = .int 0 := x_fi (v := 0) (by decide +kernel) ((if_neg (by decide +kernel)).trans rfl) (by decide)
theorem fv_47_12 {φ : Nat → Nat} {L : Nat} {xs : Nat → Int32} : s_fv φ (x_m0 L xs) 47 12 = .ref (φ 56) := x_fr (by decide +kernel) ((if_pos (by decide +kernel)).trans (by decide +kernel))
theorem fv_47_13 {φ : Nat → Nat} {L : Nat} {xs : Nat → Int32} : s_fv φ (x_m0 L xs) 47 13 = .int 0 := x_fi (v := 0) (by decide +kernel) ((if_neg (by decide +kernel)).trans rfl) (by decide)
theorem fv_47_14 {φ : Nat → Nat} {L : Nat} {xs : Nat → Int32} : s_fv φ (x_m0 L xs) 47 14 = .ref (φ 57) := x_fr (by decide +kernel) ((if_pos (by decide +kernel)).trans (by decide +kernel))
theorem fv_47_15 {φ : Nat → Nat} {L : Nat} {xs : Nat → Int32} : s_fv φ (x_m0 L xs) 47 15 = .ref (φ 58) := x_fr (by decide +kernel) ((if_pos (by decide +kernel)).trans (by decide +kernel))
theorem fv_47_16 {φ : Nat → Nat} {L : Nat} {xs : Nat → Int32} : s_fv φ (x_m0 L xs) 47 16 = .ref (φ 59) := x_fr (by decide +kernel) ((if_pos (by decide +kernel)).trans (by decide +kernel))
theorem fv_47_17 {φ : Nat → Nat} {L : Nat} {xs : Nat → Int32} : s_fv φ (x_m0 L xs) 47 17 = .ref (φ 60) := x_fr (by decide +kernel) ((if_pos (by decide +kernel)).trans (by decide +kernel))
theorem fv_47_18 {φ : Nat → Nat} {L : Nat} {xs : Nat → Int32} : s_fv φ (x_m0 L xs) 47 18 = .ref (φ 61) := x_fr (by decide +kernel) ((if_pos (by decide +kernel)).trans (by decide +kernel))
theorem fv_47_19 {φ : Nat → Nat} {L : Nat} {xs : Nat → Int32} : s_fv φ (x_m0 L xs) 47 19 = .ref (φ 62) := x_fr (by decide +kernel) ((if_pos (by decide +kernel)).trans (by decide +kernel))
theorem fv_47_20 {φ : Nat → Nat} {L : Nat} {xs : Nat → Int32} : s_fv φ (x_m0 L xs) 47 20 = .ref (φ 63) := x_fr (by decide +kernel) ((if_pos (by decide +kernel)).trans (by decide +kernel))
theorem fv_47_21 {φ : Nat → Nat} {L : Nat} {xs : Nat → Int32} : s_fv φ (x_m0 L xs) 47 21 = .ref (φ 64) := x_fr (by decide +kernel) ((if_pos (by decide +kernel)).trans (by decide +kernel))
theorem fv_47_22 {φ : Nat → Nat} {L : Nat} {xs : Nat → Int32} : s_fv φ (x_m0 L xs) 47 22 = .ref (φ 65) := x_fr (by decide +kernel) ((if_pos (by decide +kernel)).trans (by decide +kernel))
theorem fv_47_23 {φ : Nat → Nat} {L : Nat} {xs : Nat → Int32} : s_fv φ (x_m0 L xs) 47 23 = .ref (φ 66) := x_fr (by decide +kernel) ((if_pos (by decide +kernel)).trans (by decide +kernel))
theorem fv_47_24 {φ : Nat → Nat} {L : Nat} {xs : Nat → Int32} : s_fv φ (x_m0 L xs) 47 24 = .ref (φ 67) := x_fr (by decide +kernel) ((if_pos (by decide +kernel)).trans (by decide +kernel))
theorem fv_47_25 {φ : Nat → Nat} {L : Nat} {xs : Nat → Int32} : s_fv φ (x_m0 L xs) 47 25 = .int 0 := x_fi (v := 0) (by decide +kernel) ((if_neg (by decide +kernel)).trans rfl) (by decide)
theorem fv_47_26 {φ : Nat → Nat} {L : Nat} {xs : Nat → Int32} : s_fv φ (x_m0 L xs) 47 26 = .ref (φ 68) := x_fr (by decide +kernel) ((if_pos (by decide +kernel)).trans (by decide +kernel))
theorem fv_47_27 {φ : Nat → Nat} {L : Nat} {xs : Nat → Int32} : s_fv φ (x_m0 L xs) 47 27 = .ref (φ 69) := x_fr (by decide +kernel) ((if_pos (by decide +kernel)).trans (by decide +kernel))
theorem fv_47_28 {φ : Nat → Nat} {L : Nat} {xs : Nat → Int32} : s_fv φ (x_m0 L xs) 47 28 = .int 0 := x_fi (v := 0) (by decide +kernel) ((if_neg (by decide +kernel)).trans rfl) (by decide)
theorem fv_47_29 {φ : Nat → Nat} {L : Nat} {xs : Nat → Int32} : s_fv φ (x_m0 L xs) 47 29 = .ref (φ 70) := x_fr (by decide +kernel) ((if_pos (by decide +kernel)).trans (by decide +kernel))
