section XW
variable {φ : Nat → Nat} {D : va_G} {cI cS cA : ClassId} {H : Heap} {L : Nat} {xs : Nat → Int32}
theorem cw_0 {q0 c4_3q0 c4_3q3 c4_3q6 c4_3q9 c4_3q12 c4_3q15 c4_3q17 c4_3q19 c4_3q27 c4_3q25 c4_3q26 : Nat} (p0 : φ 0 = q0) (p1 : φ 1 = c4_3q0) (p2 : φ 2 = c4_3q3) (p3 : φ 3 = c4_3q6) (p4 : φ 4 = c4_3q9) (p5 : φ 5 = c4_3q12) (p6 : φ 6 = c4_3q15) (p7 : φ 7 = c4_3q17) (p8 : φ 8 = c4_3q19) (p17 : φ 17 = c4_3q27) (p18 : φ 18 = c4_3q25) (p19 : φ 19 = c4_3q26) (h : va_at D n_cl (q0, .inr (5, [.ref c4_3q0, .ref c4_3q3, .ref c4_3q6, .ref c4_3q9, .ref c4_3q12, .ref c4_3q15, .ref c4_3q17, .ref c4_3q19, .ref c4_3q25, .int 1, .ref c4_3q26, .ref c4_3q27, .int 0])) H) : va_at D n_cl (φ 0, s_ce φ cI cS cA (x_m0 L xs) 0) H := by
  exact x_co (N := 13) (by decide +kernel) (by decide +kernel) (by decide +kernel) p0 (by show [s_fv φ (x_m0 L xs) 0 0, s_fv φ (x_m0 L xs) 0 1, s_fv φ (x_m0 L xs) 0 2, s_fv φ (x_m0 L xs) 0 3, s_fv φ (x_m0 L xs) 0 4, s_fv φ (x_m0 L xs) 0 5, s_fv φ (x_m0 L xs) 0 6, s_fv φ (x_m0 L xs) 0 7, s_fv φ (x_m0 L xs) 0 8, s_fv φ (x_m0 L xs) 0 9, s_fv φ (x_m0 L xs) 0 10, s_fv φ (x_m0 L xs) 0 11, s_fv φ (x_m0 L xs) 0 12] = _; rw [fv_0_0, fv_0_1, fv_0_2, fv_0_3, fv_0_4, fv_0_5, fv_0_6, fv_0_7, fv_0_8, fv_0_9, fv_0_10, fv_0_11, fv_0_12, p1, p2, p3, p4, p5, p6, p7, p8, p17, p18, p19]) h
theorem cw_1 {c4_3q0 c4_3c12_8q0 : Nat} (p1 : φ 1 = c4_3q0) (p20 : φ 20 = c4_3c12_8q0) (h : va_at D n_cl (c4_3q0, .inr (3, [.ref c4_3c12_8q0, .int 2, .int 6, .int 0])) H) : va_at D n_cl (φ 1, s_ce φ cI cS cA (x_m0 L xs) 1) H := by
  exact x_co (N := 4) (by decide +kernel) (by decide +kernel) (by decide +kernel) p1 (by show [s_fv φ (x_m0 L xs) 1 0, s_fv φ (x_m0 L xs) 1 1, s_fv φ (x_m0 L xs) 1 2, s_fv φ (x_m0 L xs) 1 3] = _; rw [fv_1_0, fv_1_1, fv_1_2, fv_1_3, p20]) h
theorem cw_2 {c4_3q3 c4_3c26_15q0 : Nat} (p2 : φ 2 = c4_3q3) (p21 : φ 21 = c4_3c26_15q0) (h : va_at D n_cl (c4_3q3, .inr (3, [.ref c4_3c26_15q0, .int 4, .int 8, .int 0])) H) : va_at D n_cl (φ 2, s_ce φ cI cS cA (x_m0 L xs) 2) H := by
  exact x_co (N := 4) (by decide +kernel) (by decide +kernel) (by decide +kernel) p2 (by show [s_fv φ (x_m0 L xs) 2 0, s_fv φ (x_m0 L xs) 2 1, s_fv φ (x_m0 L xs) 2 2, s_fv φ (x_m0 L xs) 2 3] = _; rw [fv_2_0, fv_2_1, fv_2_2, fv_2_3, p21]) h
theorem cw_3 {c4_3q6 c4_3c40_22q0 : Nat} (p3 : φ 3 = c4_3q6) (p22 : φ 22 = c4_3c40_22q0) (h : va_at D n_cl (c4_3q6, .inr (3, [.ref c4_3c40_22q0, .int 3, .int 8, .int 0])) H) : va_at D n_cl (φ 3, s_ce φ cI cS cA (x_m0 L xs) 3) H := by
  exact x_co (N := 4) (by decide +kernel) (by decide +kernel) (by decide +kernel) p3 (by show [s_fv φ (x_m0 L xs) 3 0, s_fv φ (x_m0 L xs) 3 1, s_fv φ (x_m0 L xs) 3 2, s_fv φ (x_m0 L xs) 3 3] = _; rw [fv_3_0, fv_3_1, fv_3_2, fv_3_3, p22]) h
theorem cw_4 {c4_3q9 c4_3c54_29q0 : Nat} (p4 : φ 4 = c4_3q9) (p23 : φ 23 = c4_3c54_29q0) (h : va_at D n_cl (c4_3q9, .inr (3, [.ref c4_3c54_29q0, .int 3, .int 8, .int 0])) H) : va_at D n_cl (φ 4, s_ce φ cI cS cA (x_m0 L xs) 4) H := by
  exact x_co (N := 4) (by decide +kernel) (by decide +kernel) (by decide +kernel) p4 (by show [s_fv φ (x_m0 L xs) 4 0, s_fv φ (x_m0 L xs) 4 1, s_fv φ (x_m0 L xs) 4 2, s_fv φ (x_m0 L xs) 4 3] = _; rw [fv_4_0, fv_4_1, fv_4_2, fv_4_3, p23]) h
theorem cw_5 {c4_3q12 c4_3c68_36q0 : Nat} (p5 : φ 5 = c4_3q12) (p24 : φ 24 = c4_3c68_36q0) (h : va_at D n_cl (c4_3q12, .inr (3, [.ref c4_3c68_36q0, .int 3, .int 8, .int 0])) H) : va_at D n_cl (φ 5, s_ce φ cI cS cA (x_m0 L xs) 5) H := by
  exact x_co (N := 4) (by decide +kernel) (by decide +kernel) (by decide +kernel) p5 (by show [s_fv φ (x_m0 L xs) 5 0, s_fv φ (x_m0 L xs) 5 1, s_fv φ (x_m0 L xs) 5 2, s_fv φ (x_m0 L xs) 5 3] = _; rw [fv_5_0, fv_5_1, fv_5_2, fv_5_3, p24]) h
theorem cw_6 {c4_3q0 c4_3q15 c4_3c83_43c4_4q0 : Nat} (p1 : φ 1 = c4_3q0) (p6 : φ 6 = c4_3q15) (p40 : φ 40 = c4_3c83_43c4_4q0) (h : va_at D n_cl (c4_3q15, .inr (1, [.ref c4_3c83_43c4_4q0, .ref c4_3q0, .int 0, .int (-1)])) H) : va_at D n_cl (φ 6, s_ce φ cI cS cA (x_m0 L xs) 6) H := by
  exact x_co (N := 4) (by decide +kernel) (by decide +kernel) (by decide +kernel) p6 (by show [s_fv φ (x_m0 L xs) 6 0, s_fv φ (x_m0 L xs) 6 1, s_fv φ (x_m0 L xs) 6 2, s_fv φ (x_m0 L xs) 6 3] = _; rw [fv_6_0, fv_6_1, fv_6_2, fv_6_3, p1, p40]) h
theorem cw_7 {c4_3q3 c4_3q17 c4_3c98_50c4_4q0 : Nat} (p2 : φ 2 = c4_3q3) (p7 : φ 7 = c4_3q17) (p41 : φ 41 = c4_3c98_50c4_4q0) (h : va_at D n_cl (c4_3q17, .inr (0, [.ref c4_3c98_50c4_4q0, .ref c4_3q3, .int 0, .int (-1)])) H) : va_at D n_cl (φ 7, s_ce φ cI cS cA (x_m0 L xs) 7) H := by
  exact x_co (N := 4) (by decide +kernel) (by decide +kernel) (by decide +kernel) p7 (by show [s_fv φ (x_m0 L xs) 7 0, s_fv φ (x_m0 L xs) 7 1, s_fv φ (x_m0 L xs) 7 2, s_fv φ (x_m0 L xs) 7 3] = _; rw [fv_7_0, fv_7_1, fv_7_2, fv_7_3, p2, p41]) h
theorem cw_8 {c4_3q0 c4_3q3 c4_3q6 c4_3q19 c4_3c121_61q0 c4_3c121_61q1 c4_3c121_61q2 c4_3c121_61q3 c4_3c121_61q4 : Nat} (p1 : φ 1 = c4_3q0) (p2 : φ 2 = c4_3q3) (p3 : φ 3 = c4_3q6) (p8 : φ 8 = c4_3q19) (p42 : φ 42 = c4_3c121_61q0) (p43 : φ 43 = c4_3c121_61q1) (p44 : φ 44 = c4_3c121_61q2) (p45 : φ 45 = c4_3c121_61q3) (p46 : φ 46 = c4_3c121_61q4) (h : va_at D n_cl (c4_3q19, .inr (4, [.ref c4_3q0, .ref c4_3q3, .ref c4_3q6, .int 0, .int 0, .ref c4_3c121_61q0, .ref c4_3c121_61q1, .ref c4_3c121_61q2, .ref c4_3c121_61q3, .ref c4_3c121_61q4])) H) : va_at D n_cl (φ 8, s_ce φ cI cS cA (x_m0 L xs) 8) H := by
  exact x_co (N := 10) (by decide +kernel) (by decide +kernel) (by decide +kernel) p8 (by show [s_fv φ (x_m0 L xs) 8 0, s_fv φ (x_m0 L xs) 8 1, s_fv φ (x_m0 L xs) 8 2, s_fv φ (x_m0 L xs) 8 3, s_fv φ (x_m0 L xs) 8 4, s_fv φ (x_m0 L xs) 8 5, s_fv φ (x_m0 L xs) 8 6, s_fv φ (x_m0 L xs) 8 7, s_fv φ (x_m0 L xs) 8 8, s_fv φ (x_m0 L xs) 8 9] = _; rw [fv_8_0, fv_8_1, fv_8_2, fv_8_3, fv_8_4, fv_8_5, fv_8_6, fv_8_7, fv_8_8, fv_8_9, p1, p2, p3, p42, p43, p44, p45, p46]) h
theorem cw_9 {c4_3q28 c4_3c179_91q0 : Nat} (p9 : φ 9 = c4_3q28) (p13 : φ 13 = c4_3c179_91q0) (h : va_at D n_cl (c4_3q28, .inr (2, [.ref c4_3c179_91q0, .int 1, .int 0, .int 0])) H) : va_at D n_cl (φ 9, s_ce φ cI cS cA (x_m0 L xs) 9) H := by
  exact x_co (N := 4) (by decide +kernel) (by decide +kernel) (by decide +kernel) p9 (by show [s_fv φ (x_m0 L xs) 9 0, s_fv φ (x_m0 L xs) 9 1, s_fv φ (x_m0 L xs) 9 2, s_fv φ (x_m0 L xs) 9 3] = _; rw [fv_9_0, fv_9_1, fv_9_2, fv_9_3, p13]) h
theorem cw_10 {c4_3q30 c4_3c179_103q0 : Nat} (p10 : φ 10 = c4_3q30) (p14 : φ 14 = c4_3c179_103q0) (h : va_at D n_cl (c4_3q30, .inr (2, [.ref c4_3c179_103q0, .int 1, .int 0, .int 0])) H) : va_at D n_cl (φ 10, s_ce φ cI cS cA (x_m0 L xs) 10) H := by
  exact x_co (N := 4) (by decide +kernel) (by decide +kernel) (by decide +kernel) p10 (by show [s_fv φ (x_m0 L xs) 10 0, s_fv φ (x_m0 L xs) 10 1, s_fv φ (x_m0 L xs) 10 2, s_fv φ (x_m0 L xs) 10 3] = _; rw [fv_10_0, fv_10_1, fv_10_2, fv_10_3, p14]) h
theorem cw_11 {c4_3q32 c4_3c179_115q0 : Nat} (p11 : φ 11 = c4_3q32) (p15 : φ 15 = c4_3c179_115q0) (h : va_at D n_cl (c4_3q32, .inr (2, [.ref c4_3c179_115q0, .int 1, .int 0, .int 0])) H) : va_at D n_cl (φ 11, s_ce φ cI cS cA (x_m0 L xs) 11) H := by
  exact x_co (N := 4) (by decide +kernel) (by decide +kernel) (by decide +kernel) p11 (by show [s_fv φ (x_m0 L xs) 11 0, s_fv φ (x_m0 L xs) 11 1, s_fv φ (x_m0 L xs) 11 2, s_fv φ (x_m0 L xs) 11 3] = _; rw [fv_11_0, fv_11_1, fv_11_2, fv_11_3, p15]) h
theorem cw_12 {c4_3q34 c4_3c179_127q0 : Nat} (p12 : φ 12 = c4_3q34) (p16 : φ 16 = c4_3c179_127q0) (h : va_at D n_cl (c4_3q34, .inr (2, [.ref c4_3c179_127q0, .int 1, .int 0, .int 0])) H) : va_at D n_cl (φ 12, s_ce φ cI cS cA (x_m0 L xs) 12) H := by
  exact x_co (N := 4) (by decide +kernel) (by decide +kernel) (by decide +kernel) p12 (by show [s_fv φ (x_m0 L xs) 12 0, s_fv φ (x_m0 L xs) 12 1, s_fv φ (x_m0 L xs) 12 2, s_fv φ (x_m0 L xs) 12 3] = _; rw [fv_12_0, fv_12_1, fv_12_2, fv_12_3, p16]) h
theorem cw_13 {c4_3c179_91q0 : Nat} (p13 : φ 13 = c4_3c179_91q0) (h : va_at D n_cl (c4_3c179_91q0, .inl (cI, 60, .inl (fun _ => 0))) H) : va_at D n_cl (φ 13, s_ce φ cI cS cA (x_m0 L xs) 13) H := by
  exact x_ci (n := 60) (by decide +kernel) (by decide +kernel) p13 (fun j _ => x_z32 (x_m0_z (by decide) _)) h
theorem cw_14 {c4_3c179_103q0 : Nat} (p14 : φ 14 = c4_3c179_103q0) (h : va_at D n_cl (c4_3c179_103q0, .inl (cI, 60, .inl (fun _ => 0))) H) : va_at D n_cl (φ 14, s_ce φ cI cS cA (x_m0 L xs) 14) H := by
  exact x_ci (n := 60) (by decide +kernel) (by decide +kernel) p14 (fun j _ => x_z32 (x_m0_z (by decide) _)) h
theorem cw_15 {c4_3c179_115q0 : Nat} (p15 : φ 15 = c4_3c179_115q0) (h : va_at D n_cl (c4_3c179_115q0, .inl (cI, 60, .inl (fun _ => 0))) H) : va_at D n_cl (φ 15, s_ce φ cI cS cA (x_m0 L xs) 15) H := by
  exact x_ci (n := 60) (by decide +kernel) (by decide +kernel) p15 (fun j _ => x_z32 (x_m0_z (by decide) _)) h
theorem cw_16 {c4_3c179_127q0 : Nat} (p16 : φ 16 = c4_3c179_127q0) (h : va_at D n_cl (c4_3c179_127q0, .inl (cI, 60, .inl (fun _ => 0))) H) : va_at D n_cl (φ 16, s_ce φ cI cS cA (x_m0 L xs) 16) H := by
  exact x_ci (n := 60) (by decide +kernel) (by decide +kernel) p16 (fun j _ => x_z32 (x_m0_z (by decide) _)) h
theorem cw_17 {c4_3q28 c4_3q30 c4_3q32 c4_3q34 c4_3q27 : Nat} (p9 : φ 9 = c4_3q28) (p10 : φ 10 = c4_3q30) (p11 : φ 11 = c4_3q32) (p12 : φ 12 = c4_3q34) (p17 : φ 17 = c4_3q27) (h : va_at D n_cl (c4_3q27, .inl (cS, 4, .inr (.inr (.inr (.inr (va_up (va_up (va_up (va_up (fun _ => none) 0 (some c4_3q28)) 1 (some c4_3q30)) 2 (some c4_3q32)) 3 (some c4_3q34))))))) H) : va_at D n_cl (φ 17, s_ce φ cI cS cA (x_m0 L xs) 17) H := by
  exact x_cs (n := 4) (by decide +kernel) (by decide +kernel) p17 (fun j hj => by
    rcases (show j = 0 ∨ j = 1 ∨ j = 2 ∨ j = 3 by omega) with rfl | rfl | rfl | rfl
    · rw [show (m_rf ((17 : Nat) : Int) ((0 : Nat) : Int)).toNat = 9 from by decide +kernel, p9]; rfl
    · rw [show (m_rf ((17 : Nat) : Int) ((1 : Nat) : Int)).toNat = 10 from by decide +kernel, p10]; rfl
    · rw [show (m_rf ((17 : Nat) : Int) ((2 : Nat) : Int)).toNat = 11 from by decide +kernel, p11]; rfl
    · rw [show (m_rf ((17 : Nat) : Int) ((3 : Nat) : Int)).toNat = 12 from by decide +kernel, p12]; rfl) h
theorem cw_18 {c4_3q25 : Nat} (p18 : φ 18 = c4_3q25) (h : va_at D n_cl (c4_3q25, .inl (cI, 256, .inl (fun _ => 0))) H) : va_at D n_cl (φ 18, s_ce φ cI cS cA (x_m0 L xs) 18) H := by
  exact x_ci (n := 256) (by decide +kernel) (by decide +kernel) p18 (fun j _ => x_z32 (x_m0_z (by decide) _)) h
theorem cw_19 {c4_3q26 : Nat} (p19 : φ 19 = c4_3q26) (h : va_at D n_cl (c4_3q26, .inl (cI, 504, .inl (fun _ => 0))) H) : va_at D n_cl (φ 19, s_ce φ cI cS cA (x_m0 L xs) 19) H := by
  exact x_ci (n := 504) (by decide +kernel) (by decide +kernel) p19 (fun j _ => x_z32 (x_m0_z (by decide) _)) h
theorem cw_20 {c4_3c12_8q0 : Nat} {c4_3c12_8r : Nat → Nat} (p20 : φ 20 = c4_3c12_8q0) (p25 : φ 25 = (c4_3c12_8r 0)) (p26 : φ 26 = (c4_3c12_8r 1)) (h : va_at D n_cl (c4_3c12_8q0, .inl (cA, 2, .inr (.inr (.inr (.inr (fun i => if i < 2 then some (c4_3c12_8r i) else none)))))) H) : va_at D n_cl (φ 20, s_ce φ cI cS cA (x_m0 L xs) 20) H := by
  exact x_cq (n := 2) (by decide +kernel) (by decide +kernel) p20 (fun j hj => by
    rcases (show j = 0 ∨ j = 1 by omega) with rfl | rfl
    · rw [show (m_rf ((20 : Nat) : Int) ((0 : Nat) : Int)).toNat = 25 from by decide +kernel, p25]; rfl
    · rw [show (m_rf ((20 : Nat) : Int) ((1 : Nat) : Int)).toNat = 26 from by decide +kernel, p26]; rfl) h
theorem cw_21 {c4_3c26_15q0 : Nat} {c4_3c26_15r : Nat → Nat} (p21 : φ 21 = c4_3c26_15q0) (p27 : φ 27 = (c4_3c26_15r 0)) (p28 : φ 28 = (c4_3c26_15r 1)) (p29 : φ 29 = (c4_3c26_15r 2)) (p30 : φ 30 = (c4_3c26_15r 3)) (h : va_at D n_cl (c4_3c26_15q0, .inl (cA, 4, .inr (.inr (.inr (.inr (fun i => if i < 4 then some (c4_3c26_15r i) else none)))))) H) : va_at D n_cl (φ 21, s_ce φ cI cS cA (x_m0 L xs) 21) H := by
  exact x_cq (n := 4) (by decide +kernel) (by decide +kernel) p21 (fun j hj => by
    rcases (show j = 0 ∨ j = 1 ∨ j = 2 ∨ j = 3 by omega) with rfl | rfl | rfl | rfl
    · rw [show (m_rf ((21 : Nat) : Int) ((0 : Nat) : Int)).toNat = 27 from by decide +kernel, p27]; rfl
    · rw [show (m_rf ((21 : Nat) : Int) ((1 : Nat) : Int)).toNat = 28 from by decide +kernel, p28]; rfl
    · rw [show (m_rf ((21 : Nat) : Int) ((2 : Nat) : Int)).toNat = 29 from by decide +kernel, p29]; rfl
    · rw [show (m_rf ((21 : Nat) : Int) ((3 : Nat) : Int)).toNat = 30 from by decide +kernel, p30]; rfl) h
theorem cw_22 {c4_3c40_22q0 : Nat} {c4_3c40_22r : Nat → Nat} (p22 : φ 22 = c4_3c40_22q0) (p31 : φ 31 = (c4_3c40_22r 0)) (p32 : φ 32 = (c4_3c40_22r 1)) (p33 : φ 33 = (c4_3c40_22r 2)) (h : va_at D n_cl (c4_3c40_22q0, .inl (cA, 3, .inr (.inr (.inr (.inr (fun i => if i < 3 then some (c4_3c40_22r i) else none)))))) H) : va_at D n_cl (φ 22, s_ce φ cI cS cA (x_m0 L xs) 22) H := by
  exact x_cq (n := 3) (by decide +kernel) (by decide +kernel) p22 (fun j hj => by
    rcases (show j = 0 ∨ j = 1 ∨ j = 2 by omega) with rfl | rfl | rfl
    · rw [show (m_rf ((22 : Nat) : Int) ((0 : Nat) : Int)).toNat = 31 from by decide +kernel, p31]; rfl
    · rw [show (m_rf ((22 : Nat) : Int) ((1 : Nat) : Int)).toNat = 32 from by decide +kernel, p32]; rfl
    · rw [show (m_rf ((22 : Nat) : Int) ((2 : Nat) : Int)).toNat = 33 from by decide +kernel, p33]; rfl) h
theorem cw_23 {c4_3c54_29q0 : Nat} {c4_3c54_29r : Nat → Nat} (p23 : φ 23 = c4_3c54_29q0) (p34 : φ 34 = (c4_3c54_29r 0)) (p35 : φ 35 = (c4_3c54_29r 1)) (p36 : φ 36 = (c4_3c54_29r 2)) (h : va_at D n_cl (c4_3c54_29q0, .inl (cA, 3, .inr (.inr (.inr (.inr (fun i => if i < 3 then some (c4_3c54_29r i) else none)))))) H) : va_at D n_cl (φ 23, s_ce φ cI cS cA (x_m0 L xs) 23) H := by
  exact x_cq (n := 3) (by decide +kernel) (by decide +kernel) p23 (fun j hj => by
    rcases (show j = 0 ∨ j = 1 ∨ j = 2 by omega) with rfl | rfl | rfl
    · rw [show (m_rf ((23 : Nat) : Int) ((0 : Nat) : Int)).toNat = 34 from by decide +kernel, p34]; rfl
    · rw [show (m_rf ((23 : Nat) : Int) ((1 : Nat) : Int)).toNat = 35 from by decide +kernel, p35]; rfl
    · rw [show (m_rf ((23 : Nat) : Int) ((2 : Nat) : Int)).toNat = 36 from by decide +kernel, p36]; rfl) h
theorem cw_24 {c4_3c68_36q0 : Nat} {c4_3c68_36r : Nat → Nat} (p24 : φ 24 = c4_3c68_36q0) (p37 : φ 37 = (c4_3c68_36r 0)) (p38 : φ 38 = (c4_3c68_36r 1)) (p39 : φ 39 = (c4_3c68_36r 2)) (h : va_at D n_cl (c4_3c68_36q0, .inl (cA, 3, .inr (.inr (.inr (.inr (fun i => if i < 3 then some (c4_3c68_36r i) else none)))))) H) : va_at D n_cl (φ 24, s_ce φ cI cS cA (x_m0 L xs) 24) H := by
  exact x_cq (n := 3) (by decide +kernel) (by decide +kernel) p24 (fun j hj => by
    rcases (show j = 0 ∨ j = 1 ∨ j = 2 by omega) with rfl | rfl | rfl
    · rw [show (m_rf ((24 : Nat) : Int) ((0 : Nat) : Int)).toNat = 37 from by decide +kernel, p37]; rfl
    · rw [show (m_rf ((24 : Nat) : Int) ((1 : Nat) : Int)).toNat = 38 from by decide +kernel, p38]; rfl
    · rw [show (m_rf ((24 : Nat) : Int) ((2 : Nat) : Int)).toNat = 39 from by decide +kernel, p39]; rfl) h
theorem cw_25  {c4_3c12_8r : Nat → Nat} (p25 : φ 25 = (c4_3c12_8r 0)) (h : va_at D n_cl ((c4_3c12_8r 0), .inl (cI, 6, .inl (fun _ => 0))) H) : va_at D n_cl (φ 25, s_ce φ cI cS cA (x_m0 L xs) 25) H := by
  exact x_ci (n := 6) (by decide +kernel) (by decide +kernel) p25 (fun j _ => x_z32 (x_m0_z (by decide) _)) h
theorem cw_26  {c4_3c12_8r : Nat → Nat} (p26 : φ 26 = (c4_3c12_8r 1)) (h : va_at D n_cl ((c4_3c12_8r 1), .inl (cI, 6, .inl (fun _ => 0))) H) : va_at D n_cl (φ 26, s_ce φ cI cS cA (x_m0 L xs) 26) H := by
  exact x_ci (n := 6) (by decide +kernel) (by decide +kernel) p26 (fun j _ => x_z32 (x_m0_z (by decide) _)) h
theorem cw_27  {c4_3c26_15r : Nat → Nat} (p27 : φ 27 = (c4_3c26_15r 0)) (h : va_at D n_cl ((c4_3c26_15r 0), .inl (cI, 8, .inl (fun _ => 0))) H) : va_at D n_cl (φ 27, s_ce φ cI cS cA (x_m0 L xs) 27) H := by
  exact x_ci (n := 8) (by decide +kernel) (by decide +kernel) p27 (fun j _ => x_z32 (x_m0_z (by decide) _)) h
theorem cw_28  {c4_3c26_15r : Nat → Nat} (p28 : φ 28 = (c4_3c26_15r 1)) (h : va_at D n_cl ((c4_3c26_15r 1), .inl (cI, 8, .inl (fun _ => 0))) H) : va_at D n_cl (φ 28, s_ce φ cI cS cA (x_m0 L xs) 28) H := by
  exact x_ci (n := 8) (by decide +kernel) (by decide +kernel) p28 (fun j _ => x_z32 (x_m0_z (by decide) _)) h
theorem cw_29  {c4_3c26_15r : Nat → Nat} (p29 : φ 29 = (c4_3c26_15r 2)) (h : va_at D n_cl ((c4_3c26_15r 2), .inl (cI, 8, .inl (fun _ => 0))) H) : va_at D n_cl (φ 29, s_ce φ cI cS cA (x_m0 L xs) 29) H := by
  exact x_ci (n := 8) (by decide +kernel) (by decide +kernel) p29 (fun j _ => x_z32 (x_m0_z (by decide) _)) h
theorem cw_30  {c4_3c26_15r : Nat → Nat} (p30 : φ 30 = (c4_3c26_15r 3)) (h : va_at D n_cl ((c4_3c26_15r 3), .inl (cI, 8, .inl (fun _ => 0))) H) : va_at D n_cl (φ 30, s_ce φ cI cS cA (x_m0 L xs) 30) H := by
  exact x_ci (n := 8) (by decide +kernel) (by decide +kernel) p30 (fun j _ => x_z32 (x_m0_z (by decide) _)) h
theorem cw_31  {c4_3c40_22r : Nat → Nat} (p31 : φ 31 = (c4_3c40_22r 0)) (h : va_at D n_cl ((c4_3c40_22r 0), .inl (cI, 8, .inl (fun _ => 0))) H) : va_at D n_cl (φ 31, s_ce φ cI cS cA (x_m0 L xs) 31) H := by
  exact x_ci (n := 8) (by decide +kernel) (by decide +kernel) p31 (fun j _ => x_z32 (x_m0_z (by decide) _)) h
theorem cw_32  {c4_3c40_22r : Nat → Nat} (p32 : φ 32 = (c4_3c40_22r 1)) (h : va_at D n_cl ((c4_3c40_22r 1), .inl (cI, 8, .inl (fun _ => 0))) H) : va_at D n_cl (φ 32, s_ce φ cI cS cA (x_m0 L xs) 32) H := by
  exact x_ci (n := 8) (by decide +kernel) (by decide +kernel) p32 (fun j _ => x_z32 (x_m0_z (by decide) _)) h
theorem cw_33  {c4_3c40_22r : Nat → Nat} (p33 : φ 33 = (c4_3c40_22r 2)) (h : va_at D n_cl ((c4_3c40_22r 2), .inl (cI, 8, .inl (fun _ => 0))) H) : va_at D n_cl (φ 33, s_ce φ cI cS cA (x_m0 L xs) 33) H := by
  exact x_ci (n := 8) (by decide +kernel) (by decide +kernel) p33 (fun j _ => x_z32 (x_m0_z (by decide) _)) h
theorem cw_34  {c4_3c54_29r : Nat → Nat} (p34 : φ 34 = (c4_3c54_29r 0)) (h : va_at D n_cl ((c4_3c54_29r 0), .inl (cI, 8, .inl (fun _ => 0))) H) : va_at D n_cl (φ 34, s_ce φ cI cS cA (x_m0 L xs) 34) H := by
  exact x_ci (n := 8) (by decide +kernel) (by decide +kernel) p34 (fun j _ => x_z32 (x_m0_z (by decide) _)) h
theorem cw_35  {c4_3c54_29r : Nat → Nat} (p35 : φ 35 = (c4_3c54_29r 1)) (h : va_at D n_cl ((c4_3c54_29r 1), .inl (cI, 8, .inl (fun _ => 0))) H) : va_at D n_cl (φ 35, s_ce φ cI cS cA (x_m0 L xs) 35) H := by
  exact x_ci (n := 8) (by decide +kernel) (by decide +kernel) p35 (fun j _ => x_z32 (x_m0_z (by decide) _)) h
theorem cw_36  {c4_3c54_29r : Nat → Nat} (p36 : φ 36 = (c4_3c54_29r 2)) (h : va_at D n_cl ((c4_3c54_29r 2), .inl (cI, 8, .inl (fun _ => 0))) H) : va_at D n_cl (φ 36, s_ce φ cI cS cA (x_m0 L xs) 36) H := by
  exact x_ci (n := 8) (by decide +kernel) (by decide +kernel) p36 (fun j _ => x_z32 (x_m0_z (by decide) _)) h
theorem cw_37  {c4_3c68_36r : Nat → Nat} (p37 : φ 37 = (c4_3c68_36r 0)) (h : va_at D n_cl ((c4_3c68_36r 0), .inl (cI, 8, .inl (fun _ => 0))) H) : va_at D n_cl (φ 37, s_ce φ cI cS cA (x_m0 L xs) 37) H := by
  exact x_ci (n := 8) (by decide +kernel) (by decide +kernel) p37 (fun j _ => x_z32 (x_m0_z (by decide) _)) h
theorem cw_38  {c4_3c68_36r : Nat → Nat} (p38 : φ 38 = (c4_3c68_36r 1)) (h : va_at D n_cl ((c4_3c68_36r 1), .inl (cI, 8, .inl (fun _ => 0))) H) : va_at D n_cl (φ 38, s_ce φ cI cS cA (x_m0 L xs) 38) H := by
  exact x_ci (n := 8) (by decide +kernel) (by decide +kernel) p38 (fun j _ => x_z32 (x_m0_z (by decide) _)) h
theorem cw_39  {c4_3c68_36r : Nat → Nat} (p39 : φ 39 = (c4_3c68_36r 2)) (h : va_at D n_cl ((c4_3c68_36r 2), .inl (cI, 8, .inl (fun _ => 0))) H) : va_at D n_cl (φ 39, s_ce φ cI cS cA (x_m0 L xs) 39) H := by
  exact x_ci (n := 8) (by decide +kernel) (by decide +kernel) p39 (fun j _ => x_z32 (x_m0_z (by decide) _)) h
theorem cw_40 {c4_3c83_43c4_4q0 : Nat} (p40 : φ 40 = c4_3c83_43c4_4q0) (h : va_at D n_cl (c4_3c83_43c4_4q0, .inl (cI, 17, .inl (fun _ => 0))) H) : va_at D n_cl (φ 40, s_ce φ cI cS cA (x_m0 L xs) 40) H := by
  exact x_ci (n := 17) (by decide +kernel) (by decide +kernel) p40 (fun j _ => x_z32 (x_m0_z (by decide) _)) h
theorem cw_41 {c4_3c98_50c4_4q0 : Nat} (p41 : φ 41 = c4_3c98_50c4_4q0) (h : va_at D n_cl (c4_3c98_50c4_4q0, .inl (cI, 39, .inl (fun _ => 0))) H) : va_at D n_cl (φ 41, s_ce φ cI cS cA (x_m0 L xs) 41) H := by
  exact x_ci (n := 39) (by decide +kernel) (by decide +kernel) p41 (fun j _ => x_z32 (x_m0_z (by decide) _)) h
theorem cw_42 {c4_3c121_61q0 : Nat} (p42 : φ 42 = c4_3c121_61q0) (h : va_at D n_cl (c4_3c121_61q0, .inl (cI, 6, .inl (fun _ => 0))) H) : va_at D n_cl (φ 42, s_ce φ cI cS cA (x_m0 L xs) 42) H := by
  exact x_ci (n := 6) (by decide +kernel) (by decide +kernel) p42 (fun j _ => x_z32 (x_m0_z (by decide) _)) h
theorem cw_43 {c4_3c121_61q1 : Nat} (p43 : φ 43 = c4_3c121_61q1) (h : va_at D n_cl (c4_3c121_61q1, .inl (cI, 8, .inl (fun _ => 0))) H) : va_at D n_cl (φ 43, s_ce φ cI cS cA (x_m0 L xs) 43) H := by
  exact x_ci (n := 8) (by decide +kernel) (by decide +kernel) p43 (fun j _ => x_z32 (x_m0_z (by decide) _)) h
theorem cw_44 {c4_3c121_61q2 : Nat} (p44 : φ 44 = c4_3c121_61q2) (h : va_at D n_cl (c4_3c121_61q2, .inl (cI, 8, .inl (fun _ => 0))) H) : va_at D n_cl (φ 44, s_ce φ cI cS cA (x_m0 L xs) 44) H := by
  exact x_ci (n := 8) (by decide +kernel) (by decide +kernel) p44 (fun j _ => x_z32 (x_m0_z (by decide) _)) h
theorem cw_45 {c4_3c121_61q3 : Nat} (p45 : φ 45 = c4_3c121_61q3) (h : va_at D n_cl (c4_3c121_61q3, .inl (cI, 8, .inl (fun _ => 0))) H) : va_at D n_cl (φ 45, s_ce φ cI cS cA (x_m0 L xs) 45) H := by
  exact x_ci (n := 8) (by decide +kernel) (by decide +kernel) p45 (fun j _ => x_z32 (x_m0_z (by decide) _)) h
theorem cw_46 {c4_3c121_61q4 : Nat} (p46 : φ 46 = c4_3c121_61q4) (h : va_at D n_cl (c4_3c121_61q4, .inl (cI, 8, .inl (fun _ => 0))) H) : va_at D n_cl (φ 46, s_ce φ cI cS cA (x_m0 L xs) 46) H := by
  exact x_ci (n := 8) (by decide +kernel) (by decide +kernel) p46 (fun j _ => x_z32 (x_m0_z (by decide) _)) h
theorem cw_47 {q37 c12_7q0 c12_7q1 c12_7q2 c12_7q3 c12_7q4 c12_7q5 c12_7q6 c12_7q7 c12_7q8 c12_7q9 c12_7q10 c12_7q11 c12_7q12 c12_7q13 c12_7q14 c12_7q15 c12_7q16 c12_7q17 c12_7q18 c12_7q19 c12_7q20 c12_7q21 c12_7q22 : Nat} (p47 : φ 47 = q37) (p48 : φ 48 = c12_7q0) (p49 : φ 49 = c12_7q1) (p50 : φ 50 = c12_7q2) (p51 : φ 51 = c12_7q3) (p52 : φ 52 = c12_7q4) (p53 : φ 53 = c12_7q5) (p54 : φ 54 = c12_7q6) (p55 : φ 55 = c12_7q7) (p56 : φ 56 = c12_7q8) (p57 : φ 57 = c12_7q9) (p58 : φ 58 = c12_7q10) (p59 : φ 59 = c12_7q11) (p60 : φ 60 = c12_7q12) (p61 : φ 61 = c12_7q13) (p62 : φ 62 = c12_7q14) (p63 : φ 63 = c12_7q15) (p64 : φ 64 = c12_7q16) (p65 : φ 65 = c12_7q17) (p66 : φ 66 = c12_7q18) (p67 : φ 67 = c12_7q19) (p68 : φ 68 = c12_7q20) (p69 : φ 69 = c12_7q21) (p70 : φ 70 = c12_7q22) (h : va_at D n_cl (q37, .inr (6, [.ref c12_7q0, .ref c12_7q1, .ref c12_7q2, .ref c12_7q3, .int 0, .ref c12_7q4, .ref c12_7q5, .int 0, .ref c12_7q6, .int 0, .ref c12_7q7, .int 0, .ref c12_7q8, .int 0, .ref c12_7q9, .ref c12_7q10, .ref c12_7q11, .ref c12_7q12, .ref c12_7q13, .ref c12_7q14, .ref c12_7q15, .ref c12_7q16, .ref c12_7q17, .ref c12_7q18, .ref c12_7q19, .int 0, .ref c12_7q20, .ref c12_7q21, .int 0, .ref c12_7q22])) H) : va_at D n_cl (φ 47, s_ce φ cI cS cA (x_m0 L xs) 47) H := by
  exact x_co (N := 30) (by decide +kernel) (by decide +kernel) (by decide +kernel) p47 (by show [s_fv φ (x_m0 L xs) 47 0, s_fv φ (x_m0 L xs) 47 1, s_fv φ (x_m0 L xs) 47 2, s_fv φ (x_m0 L xs) 47 3, s_fv φ (x_m0 L xs) 47 4, s_fv φ (x_m0 L xs) 47 5, s_fv φ (x_m0 L xs) 47 6, s_fv φ (x_m0 L xs) 47 7, s_fv φ (x_m0 L xs) 47 8, s_fv φ (x_m0 L xs) 47 9, s_fv φ (x_m0 L xs) 47 10, s_fv φ (x_m0 L xs) 47 11, s_fv φ (x_m0 L xs) 47 12, s_fv φ (x_m0 L xs) 47 13, s_fv φ (x_m0 L xs) 47 14, s_fv φ (x_m0 L xs) 47 15, s_fv φ (x_m0 L xs) 47 16, s_fv φ (x_m0 L xs) 47 17, s_fv φ (x_m0 L xs) 47 18, s_fv φ (x_m0 L xs) 47 19, s_fv φ (x_m0 L xs) 47 20, s_fv φ (x_m0 L xs) 47 21, s_fv φ (x_m0 L xs) 47 22, s_fv φ (x_m0 L xs) 47 23, s_fv φ (x_m0 L xs) 47 24, s_fv φ (x_m0 L xs) 47 25, s_fv φ (x_m0 L xs) 47 26, s_fv φ (x_m0 L xs) 47 27, s_fv φ (x_m0 L xs) 47 28, s_fv φ (x_m0 L xs) 47 29] = _; rw [fv_47_0, fv_47_1, fv_47_2, fv_47_3, fv_47_4, fv_47_5, fv_47_6, fv_47_7, fv_47_8, fv_47_9, fv_47_10, fv_47_11, fv_47_12, fv_47_13, fv_47_14, fv_47_15, fv_47_16, fv_47_17, fv_47_18, fv_47_19, fv_47_20, fv_47_21, fv_47_22, fv_47_23, fv_47_24, fv_47_25, fv_47_26, fv_47_27, fv_47_28, fv_47_29, p48, p49, p50, p51, p52, p53, p54, p55, p56, p57, p58, p59, p60, p61, p62, p63, p64, p65, p66, p67, p68, p69, p70]) h
theorem cw_48 {c12_7q0 : Nat} (p48 : φ 48 = c12_7q0) (h : va_at D n_cl (c12_7q0, .inl (cI, 4, .inl (upd (upd (upd (upd (fun _ => 0) 0 (-1)) 1 (-1)) 2 (-1)) 3 (-1)))) H) : va_at D n_cl (φ 48, s_ce φ cI cS cA (x_m0 L xs) 48) H := by
  exact x_ci (n := 4) (by decide +kernel) (by decide +kernel) p48 (fun j hj => by rw [show ((48 : Nat) : Int) = 48 from rfl, x_m0_48, if_pos ⟨by omega, by omega⟩]; rcases (show j = 0 ∨ j = 1 ∨ j = 2 ∨ j = 3 by omega) with rfl | rfl | rfl | rfl <;> decide) h
theorem cw_49 {c12_7q1 : Nat} (p49 : φ 49 = c12_7q1) (h : va_at D n_cl (c12_7q1, .inl (cI, 4, .inl (fun _ => 0))) H) : va_at D n_cl (φ 49, s_ce φ cI cS cA (x_m0 L xs) 49) H := by
  exact x_ci (n := 4) (by decide +kernel) (by decide +kernel) p49 (fun j _ => x_z32 (x_m0_z (by decide) _)) h
theorem cw_50 {c12_7q2 : Nat} (p50 : φ 50 = c12_7q2) (h : va_at D n_cl (c12_7q2, .inl (cI, 240, .inl (fun _ => 0))) H) : va_at D n_cl (φ 50, s_ce φ cI cS cA (x_m0 L xs) 50) H := by
  exact x_ci (n := 240) (by decide +kernel) (by decide +kernel) p50 (fun j _ => x_z32 (x_m0_z (by decide) _)) h
theorem cw_51 {c12_7q3 : Nat} (p51 : φ 51 = c12_7q3) (h : va_at D n_cl (c12_7q3, .inl (cI, 60, .inl (fun _ => 0))) H) : va_at D n_cl (φ 51, s_ce φ cI cS cA (x_m0 L xs) 51) H := by
  exact x_ci (n := 60) (by decide +kernel) (by decide +kernel) p51 (fun j _ => x_z32 (x_m0_z (by decide) _)) h
theorem cw_52 {c12_7q4 : Nat} (p52 : φ 52 = c12_7q4) (h : va_at D n_cl (c12_7q4, .inl (cI, 80, .inl (fun _ => 0))) H) : va_at D n_cl (φ 52, s_ce φ cI cS cA (x_m0 L xs) 52) H := by
  exact x_ci (n := 80) (by decide +kernel) (by decide +kernel) p52 (fun j _ => x_z32 (x_m0_z (by decide) _)) h
theorem cw_53 {c12_7q5 : Nat} (p53 : φ 53 = c12_7q5) (h : va_at D n_cl (c12_7q5, .inl (cI, 2, .inl (fun _ => 0))) H) : va_at D n_cl (φ 53, s_ce φ cI cS cA (x_m0 L xs) 53) H := by
  exact x_ci (n := 2) (by decide +kernel) (by decide +kernel) p53 (fun j _ => x_z32 (x_m0_z (by decide) _)) h
theorem cw_54 {c12_7q6 : Nat} (p54 : φ 54 = c12_7q6) (h : va_at D n_cl (c12_7q6, .inl (cI, 12, .inl (fun _ => 0))) H) : va_at D n_cl (φ 54, s_ce φ cI cS cA (x_m0 L xs) 54) H := by
  exact x_ci (n := 12) (by decide +kernel) (by decide +kernel) p54 (fun j _ => x_z32 (x_m0_z (by decide) _)) h
theorem cw_55 {c12_7q7 : Nat} (p55 : φ 55 = c12_7q7) (h : va_at D n_cl (c12_7q7, .inl (cI, 32, .inl (fun _ => 0))) H) : va_at D n_cl (φ 55, s_ce φ cI cS cA (x_m0 L xs) 55) H := by
  exact x_ci (n := 32) (by decide +kernel) (by decide +kernel) p55 (fun j _ => x_z32 (x_m0_z (by decide) _)) h
theorem cw_56 {c12_7q8 : Nat} (p56 : φ 56 = c12_7q8) (h : va_at D n_cl (c12_7q8, .inl (cI, 24, .inl (fun _ => 0))) H) : va_at D n_cl (φ 56, s_ce φ cI cS cA (x_m0 L xs) 56) H := by
  exact x_ci (n := 24) (by decide +kernel) (by decide +kernel) p56 (fun j _ => x_z32 (x_m0_z (by decide) _)) h
theorem cw_57 {c12_7q9 : Nat} (p57 : φ 57 = c12_7q9) (h : va_at D n_cl (c12_7q9, .inl (cI, 6, .inl (fun _ => 0))) H) : va_at D n_cl (φ 57, s_ce φ cI cS cA (x_m0 L xs) 57) H := by
  exact x_ci (n := 6) (by decide +kernel) (by decide +kernel) p57 (fun j _ => x_z32 (x_m0_z (by decide) _)) h
theorem cw_58 {c12_7q10 : Nat} (p58 : φ 58 = c12_7q10) (h : va_at D n_cl (c12_7q10, .inl (cI, 8, .inl (fun _ => 0))) H) : va_at D n_cl (φ 58, s_ce φ cI cS cA (x_m0 L xs) 58) H := by
  exact x_ci (n := 8) (by decide +kernel) (by decide +kernel) p58 (fun j _ => x_z32 (x_m0_z (by decide) _)) h
theorem cw_59 {c12_7q11 : Nat} (p59 : φ 59 = c12_7q11) (h : va_at D n_cl (c12_7q11, .inl (cI, 8, .inl (fun _ => 0))) H) : va_at D n_cl (φ 59, s_ce φ cI cS cA (x_m0 L xs) 59) H := by
  exact x_ci (n := 8) (by decide +kernel) (by decide +kernel) p59 (fun j _ => x_z32 (x_m0_z (by decide) _)) h
theorem cw_60 {c12_7q12 : Nat} (p60 : φ 60 = c12_7q12) (h : va_at D n_cl (c12_7q12, .inl (cI, 8, .inl (fun _ => 0))) H) : va_at D n_cl (φ 60, s_ce φ cI cS cA (x_m0 L xs) 60) H := by
  exact x_ci (n := 8) (by decide +kernel) (by decide +kernel) p60 (fun j _ => x_z32 (x_m0_z (by decide) _)) h
theorem cw_61 {c12_7q13 : Nat} (p61 : φ 61 = c12_7q13) (h : va_at D n_cl (c12_7q13, .inl (cI, 192, .inl (fun _ => 0))) H) : va_at D n_cl (φ 61, s_ce φ cI cS cA (x_m0 L xs) 61) H := by
  exact x_ci (n := 192) (by decide +kernel) (by decide +kernel) p61 (fun j _ => x_z32 (x_m0_z (by decide) _)) h
theorem cw_62 {c12_7q14 : Nat} (p62 : φ 62 = c12_7q14) (h : va_at D n_cl (c12_7q14, .inl (cI, 192, .inl (fun _ => 0))) H) : va_at D n_cl (φ 62, s_ce φ cI cS cA (x_m0 L xs) 62) H := by
  exact x_ci (n := 192) (by decide +kernel) (by decide +kernel) p62 (fun j _ => x_z32 (x_m0_z (by decide) _)) h
theorem cw_63 {c12_7q15 : Nat} (p63 : φ 63 = c12_7q15) (h : va_at D n_cl (c12_7q15, .inl (cI, 192, .inl (fun _ => 0))) H) : va_at D n_cl (φ 63, s_ce φ cI cS cA (x_m0 L xs) 63) H := by
  exact x_ci (n := 192) (by decide +kernel) (by decide +kernel) p63 (fun j _ => x_z32 (x_m0_z (by decide) _)) h
theorem cw_64 {c12_7q16 : Nat} (p64 : φ 64 = c12_7q16) (h : va_at D n_cl (c12_7q16, .inl (cI, 192, .inl (fun _ => 0))) H) : va_at D n_cl (φ 64, s_ce φ cI cS cA (x_m0 L xs) 64) H := by
  exact x_ci (n := 192) (by decide +kernel) (by decide +kernel) p64 (fun j _ => x_z32 (x_m0_z (by decide) _)) h
theorem cw_65 {c12_7q17 : Nat} (p65 : φ 65 = c12_7q17) (h : va_at D n_cl (c12_7q17, .inl (cI, 192, .inl (fun _ => 0))) H) : va_at D n_cl (φ 65, s_ce φ cI cS cA (x_m0 L xs) 65) H := by
  exact x_ci (n := 192) (by decide +kernel) (by decide +kernel) p65 (fun j _ => x_z32 (x_m0_z (by decide) _)) h
theorem cw_66 {c12_7q18 : Nat} (p66 : φ 66 = c12_7q18) (h : va_at D n_cl (c12_7q18, .inl (cI, 192, .inl (fun _ => 0))) H) : va_at D n_cl (φ 66, s_ce φ cI cS cA (x_m0 L xs) 66) H := by
  exact x_ci (n := 192) (by decide +kernel) (by decide +kernel) p66 (fun j _ => x_z32 (x_m0_z (by decide) _)) h
theorem cw_67 {c12_7q19 : Nat} (p67 : φ 67 = c12_7q19) (h : va_at D n_cl (c12_7q19, .inl (cI, 192, .inl (fun _ => 0))) H) : va_at D n_cl (φ 67, s_ce φ cI cS cA (x_m0 L xs) 67) H := by
  exact x_ci (n := 192) (by decide +kernel) (by decide +kernel) p67 (fun j _ => x_z32 (x_m0_z (by decide) _)) h
theorem cw_68 {c12_7q20 : Nat} (p68 : φ 68 = c12_7q20) (h : va_at D n_cl (c12_7q20, .inl (cI, 24, .inl (fun _ => 0))) H) : va_at D n_cl (φ 68, s_ce φ cI cS cA (x_m0 L xs) 68) H := by
  exact x_ci (n := 24) (by decide +kernel) (by decide +kernel) p68 (fun j _ => x_z32 (x_m0_z (by decide) _)) h
theorem cw_69 {c12_7q21 : Nat} (p69 : φ 69 = c12_7q21) (h : va_at D n_cl (c12_7q21, .inl (cI, 504, .inl (fun _ => 0))) H) : va_at D n_cl (φ 69, s_ce φ cI cS cA (x_m0 L xs) 69) H := by
  exact x_ci (n := 504) (by decide +kernel) (by decide +kernel) p69 (fun j _ => x_z32 (x_m0_z (by decide) _)) h
theorem cw_70 {c12_7q22 : Nat} (p70 : φ 70 = c12_7q22) (h : va_at D n_cl (c12_7q22, .inl (cI, 24, .inl (fun _ => 0))) H) : va_at D n_cl (φ 70, s_ce φ cI cS cA (x_m0 L xs) 70) H := by
  exact x_ci (n := 24) (by decide +kernel) (by decide +kernel) p70 (fun j _ => x_z32 (x_m0_z (by decide) _)) h
end XW
