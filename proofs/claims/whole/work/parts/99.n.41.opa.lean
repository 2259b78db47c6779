theorem s_vI (φ : Nat → Nat) (a : Int32) : s_v φ (0, a.toInt) = .int a := by simp [s_v]
theorem s_vJ (φ : Nat → Nat) (a : Int64) : s_v φ (1, a.toInt) = .long a := by simp [s_v]
theorem s_v0 (φ : Nat → Nat) (x : Int) : s_v φ (0, x) = .int (Int32.ofInt x) := rfl
theorem s_v1 (φ : Nat → Nat) (x : Int) : s_v φ (1, x) = .long (Int64.ofInt x) := rfl
theorem s_vr (φ : Nat → Nat) {t : Nat} {x : Int} (h : 2 ≤ t) (hx : 0 ≤ x) : s_v φ (t, x) = .ref (φ x.toNat) := by
  unfold s_v
  rw [if_neg (by show ¬ t = 0; omega), if_neg (by show ¬ t = 1; omega), if_neg (by show ¬ x < 0; omega)]
theorem s_vn (φ : Nat → Nat) {t : Nat} {x : Int} (h : 2 ≤ t) (hx : x < 0) : s_v φ (t, x) = .null := by
  unfold s_v
  rw [if_neg (by show ¬ t = 0; omega), if_neg (by show ¬ t = 1; omega), if_pos hx]
theorem s_ok0 {x : Int} (h : s_R32 x) : s_ok (0, x) := by simp [s_ok, h]
theorem s_ok1 {x : Int} (h : s_R64 x) : s_ok (1, x) := by simp [s_ok, h]
theorem s_okI (a : Int32) : s_ok (0, a.toInt) := by
  have h1 := Int32.le_toInt a
  have h2 := Int32.toInt_lt a
  exact s_ok0 ⟨by simpa using h1, by simpa using h2⟩
theorem s_okJ (a : Int64) : s_ok (1, a.toInt) := by
  have h1 := Int64.le_toInt a
  have h2 := Int64.toInt_lt a
  exact s_ok1 ⟨by simpa using h1, by simpa using h2⟩
theorem s_toI {x : Int} (h : s_R32 x) : (Int32.ofInt x).toInt = x := by
  rw [Int32.toInt_ofInt]; exact wr_id h.1 h.2
theorem s_toJ {x : Int} (h : s_R64 x) : (Int64.ofInt x).toInt = x := by
  rw [Int64.toInt_ofInt]; exact wl_id h.1 h.2
theorem n_in {p : Nat} {w : Cond} (h : n_at p w = true) : w ∈ n_tg := by
  unfold n_at at h
  simp only [Bool.and_eq_true, decide_eq_true_eq] at h
  exact List.mem_filter.mpr ⟨List.mem_of_getElem? h.1, h.2⟩
theorem k_chk_d {m pc : Nat} {i : MIns} (h : k_chk m pc i = true) : decode (n_c m) pc = .ok (k_enc m pc i) ∧ k_sd m i = true := by
  unfold k_chk at h
  simp only [Bool.and_eq_true, decide_eq_true_eq] at h
  exact h
section SA
variable {p : Program} {l : Launch} {e : Env} {R : Room} {s : State} {m : MethodId} {args : Array Value} {below : List Frame} {meth : Method} {c : Code} {H : Heap} {locs : List Loc} {cells slots : Nat} {Q : State → Prop}
variable {φ : Nat → Nat} {k pc n : Nat} {z : Int} {ex : List Nat} {ls st : List MVal} {μ : MMem} {lsA : Array Slot}
/-- loads of a local of one of three sorts -/
theorem s_load (hx : p.tables.exec = Jvm.exec) (hb : c.code = n_c k) (hL : s_L φ lsA (m_mx k) ls) (h0 : (m_l ls n).1 = 0) (hd : decode (n_c k) pc = .ok (k_enc k pc (2, n, z, ex)))
    (kk : W p l e R s m args below meth c H locs cells slots Q (F0 m (pc + (k_enc k pc (2, n, z, ex)).2) lsA (s_v φ (m_l ls n) :: st.map (s_v φ)))) : W p l e R s m args below meth c H locs cells slots Q (F0 m pc lsA (st.map (s_v φ))) := by
  have hl := (hL.2.2 n (by rw [h0]; decide)).2
  have hv : s_v φ (m_l ls n) = .int (Int32.ofInt (m_l ls n).2) := by
    unfold s_v; rw [if_pos h0]
  rw [hv] at hl kk
  by_cases h4 : n < 4
  · have he : k_enc k pc (2, n, z, ex) = (.iload_n (Fin.ofNat 4 n), 1) := if_pos h4
    rw [he] at hd kk
    exact lv_iload_n hx hb hd (by simp [Fin.ofNat]; omega) hl kk
  · have he : k_enc k pc (2, n, z, ex) = (.iload n, 2) := if_neg h4
    rw [he] at hd kk
    exact lv_iload hx hb hd hl kk
theorem s_loadl (hx : p.tables.exec = Jvm.exec) (hb : c.code = n_c k) (hL : s_L φ lsA (m_mx k) ls) (h0 : (m_l ls n).1 = 1) (hd : decode (n_c k) pc = .ok (k_enc k pc (3, n, z, ex)))
    (kk : W p l e R s m args below meth c H locs cells slots Q (F0 m (pc + (k_enc k pc (3, n, z, ex)).2) lsA (s_v φ (m_l ls n) :: st.map (s_v φ)))) : W p l e R s m args below meth c H locs cells slots Q (F0 m pc lsA (st.map (s_v φ))) := by
  have hl := (hL.2.2 n (by rw [h0]; decide)).2
  have hv : s_v φ (m_l ls n) = .long (Int64.ofInt (m_l ls n).2) := by
    unfold s_v; rw [if_neg (by rw [h0]; decide), if_pos h0]
  rw [hv] at hl kk
  by_cases h4 : n < 4
  · have he : k_enc k pc (3, n, z, ex) = (.lload_n (Fin.ofNat 4 n), 1) := if_pos h4
    rw [he] at hd kk
    exact lv_lload_n hx hb hd (by simp [Fin.ofNat]; omega) hl kk
  · have he : k_enc k pc (3, n, z, ex) = (.lload n, 2) := if_neg h4
    rw [he] at hd kk
    exact lv_lload hx hb hd hl kk
theorem s_loada (hx : p.tables.exec = Jvm.exec) (hb : c.code = n_c k) (hL : s_L φ lsA (m_mx k) ls) (h0 : 2 ≤ (m_l ls n).1 ∧ (m_l ls n).1 ≤ 13) (hd : decode (n_c k) pc = .ok (k_enc k pc (4, n, z, ex)))
    (kk : W p l e R s m args below meth c H locs cells slots Q (F0 m (pc + (k_enc k pc (4, n, z, ex)).2) lsA (s_v φ (m_l ls n) :: st.map (s_v φ)))) : W p l e R s m args below meth c H locs cells slots Q (F0 m pc lsA (st.map (s_v φ))) := by
  have hl := (hL.2.2 n (by omega)).2
  by_cases hneg : (m_l ls n).2 < 0
  · have hv : s_v φ (m_l ls n) = .null := s_vn φ h0.1 hneg
    rw [hv] at hl kk
    by_cases h4 : n < 4
    · have he : k_enc k pc (4, n, z, ex) = (.aload_n (Fin.ofNat 4 n), 1) := if_pos h4
      rw [he] at hd kk
      exact lv_aload_nN hx hb hd (by simp [Fin.ofNat]; omega) hl kk
    · have he : k_enc k pc (4, n, z, ex) = (.aload n, 2) := if_neg h4
      rw [he] at hd kk
      exact lv_aloadN hx hb hd hl kk
  · have hv : s_v φ (m_l ls n) = .ref (φ (m_l ls n).2.toNat) := s_vr φ h0.1 (by omega)
    rw [hv] at hl kk
    by_cases h4 : n < 4
    · have he : k_enc k pc (4, n, z, ex) = (.aload_n (Fin.ofNat 4 n), 1) := if_pos h4
      rw [he] at hd kk
      exact lv_aload_n hx hb hd (by simp [Fin.ofNat]; omega) hl kk
    · have he : k_enc k pc (4, n, z, ex) = (.aload n, 2) := if_neg h4
      rw [he] at hd kk
      exact lv_aload hx hb hd hl kk
theorem s_sti {x : Int} (hx : p.tables.exec = Jvm.exec) (hb : c.code = n_c k) (hL : s_L φ lsA (m_mx k) ls) (hv : s_ok (0, x)) (hn : n < m_mx k) (hd : decode (n_c k) pc = .ok (k_enc k pc (5, n, z, ex)))
    (kk : ∀ lsB, s_L φ lsB (m_mx k) (m_lp ls n (0, x)) → W p l e R s m args below meth c H locs cells slots Q (F0 m (pc + (k_enc k pc (5, n, z, ex)).2) lsB (st.map (s_v φ)))) : W p l e R s m args below meth c H locs cells slots Q (F0 m pc lsA (s_v φ (0, x) :: st.map (s_v φ))) := by
  rw [s_v0]
  by_cases h4 : n < 4
  · have he : k_enc k pc (5, n, z, ex) = (.istore_n (Fin.ofNat 4 n), 1) := if_pos h4
    rw [he] at hd kk
    exact lv_istore_n hx hb hd (by simp [Fin.ofNat]; omega) hL.has hn rfl (fun lsB hB => kk lsB (hL.put hv (fun q => by cases q) hB hn))
  · have he : k_enc k pc (5, n, z, ex) = (.istore n, 2) := if_neg h4
    rw [he] at hd kk
    exact lv_istore hx hb hd hL.has hn rfl (fun lsB hB => kk lsB (hL.put hv (fun q => by cases q) hB hn))
theorem s_stl {x : Int} (hx : p.tables.exec = Jvm.exec) (hb : c.code = n_c k) (hL : s_L φ lsA (m_mx k) ls) (hv : s_ok (1, x)) (hn : n + 1 < m_mx k) (hd : decode (n_c k) pc = .ok (k_enc k pc (6, n, z, ex)))
    (kk : ∀ lsB, s_L φ lsB (m_mx k) (m_lq ls n (1, x)) → W p l e R s m args below meth c H locs cells slots Q (F0 m (pc + (k_enc k pc (6, n, z, ex)).2) lsB (st.map (s_v φ)))) : W p l e R s m args below meth c H locs cells slots Q (F0 m pc lsA (s_v φ (1, x) :: st.map (s_v φ))) := by
  rw [s_v1]
  by_cases h4 : n < 4
  · have he : k_enc k pc (6, n, z, ex) = (.lstore_n (Fin.ofNat 4 n), 1) := if_pos h4
    rw [he] at hd kk
    exact lv_lstore_n hx hb hd (by simp [Fin.ofNat]; omega) hL.has hn rfl (fun lsB hB => kk lsB (hL.put2 hv hB hn))
  · have he : k_enc k pc (6, n, z, ex) = (.lstore n, 2) := if_neg h4
    rw [he] at hd kk
    exact lv_lstore hx hb hd hL.has hn rfl (fun lsB hB => kk lsB (hL.put2 hv hB hn))
theorem s_sta {t : Nat} {x : Int} (hx : p.tables.exec = Jvm.exec) (hb : c.code = n_c k) (hL : s_L φ lsA (m_mx k) ls) (hv : s_ok (t, x)) (ht : 2 ≤ t ∧ t ≤ 13) (hn : n < m_mx k) (hd : decode (n_c k) pc = .ok (k_enc k pc (7, n, z, ex)))
    (kk : ∀ lsB, s_L φ lsB (m_mx k) (m_lp ls n (t, x)) → W p l e R s m args below meth c H locs cells slots Q (F0 m (pc + (k_enc k pc (7, n, z, ex)).2) lsB (st.map (s_v φ)))) : W p l e R s m args below meth c H locs cells slots Q (F0 m pc lsA (s_v φ (t, x) :: st.map (s_v φ))) := by
  have h1 : (t, x).1 ≠ 1 := by show t ≠ 1; omega
  by_cases hneg : x < 0
  · have hv2 := s_vn φ ht.1 hneg
    have hp := fun lsB hB => hL.put (lsB := lsB) (n := n) hv h1 hB hn
    rw [hv2] at hp ⊢
    by_cases h4 : n < 4
    · have he : k_enc k pc (7, n, z, ex) = (.astore_n (Fin.ofNat 4 n), 1) := if_pos h4
      rw [he] at hd kk
      exact lv_astore_nN hx hb hd (by simp [Fin.ofNat]; omega) hL.has hn rfl (fun lsB hB => kk lsB (hp lsB hB))
    · have he : k_enc k pc (7, n, z, ex) = (.astore n, 2) := if_neg h4
      rw [he] at hd kk
      exact lv_astoreN hx hb hd hL.has hn rfl (fun lsB hB => kk lsB (hp lsB hB))
  · have hv2 := s_vr φ (t := t) (x := x) ht.1 (by omega)
    have hp := fun lsB hB => hL.put (lsB := lsB) (n := n) hv h1 hB hn
    rw [hv2] at hp ⊢
    by_cases h4 : n < 4
    · have he : k_enc k pc (7, n, z, ex) = (.astore_n (Fin.ofNat 4 n), 1) := if_pos h4
      rw [he] at hd kk
      exact lv_astore_n hx hb hd (by simp [Fin.ofNat]; omega) hL.has hn rfl (fun lsB hB => kk lsB (hp lsB hB))
    · have he : k_enc k pc (7, n, z, ex) = (.astore n, 2) := if_neg h4
      rw [he] at hd kk
      exact lv_astore hx hb hd hL.has hn rfl (fun lsB hB => kk lsB (hp lsB hB))
end SA
