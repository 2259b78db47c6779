section SC2
variable {p : Program} {l : Launch} {e : Env} {R : Room} {s : State} {m : MethodId} {args : Array Value} {below : List Frame} {meth : Method} {c : Code} {H : Heap} {locs : List Loc} {cells slots : Nat} {Q : State → Prop}
variable {φ : Nat → Nat} {D : va_G} {cI cS cA : ClassId} {L : Nat} {xs : Nat → Int32} {A : Nat → Prop}
variable {k pc n op : Nat} {z : Int} {ex : List Nat} {ls st : List MVal} {μ : MMem} {lsA : Array Slot} {o : MOut}
def s_kc (p : Program) (l : Launch) (e : Env) (R : Room) (s : State) (m : MethodId) (args : Array Value) (below : List Frame) (meth : Method) (c : Code) (cells slots : Nat) (Q : State → Prop) (φ : Nat → Nat) (D : va_G) (cI cS cA : ClassId) (L : Nat) (xs : Nat → Int32) (A : Nat → Prop) (lsA : Array Slot) (k pc : Nat) (i : MIns) (ls : List MVal) (o : MOut) : Prop :=
  ∀ (st' : List MVal) (μ' : MMem) (H' : Heap) (locs' : List Loc), o = (0, 0, [], ls, st', μ') → (∀ v ∈ st', s_ok v) → va_P D n_cl (s_ws φ cI cS cA μ') H' → s_mo L xs μ' → va_S A s.heap H' locs' → W p l e R s m args below meth c H' locs' cells slots Q (F0 m (pc + (k_enc k pc i).2) lsA (st'.map (s_v φ)))
theorem s_putf {t u vt idx pl : Nat} {id v : Int} (hx : p.tables.exec = Jvm.exec) (hb : c.code = n_c k) (hown : s.vm.findClass (n_own k) = some m.cls) (hts : ∀ w ∈ n_tg, w.before args s = true) (hK : va_K D n_cl (n_tys cI cS cA) s)
    (hφ : ∀ i j, i < 71 → j < 71 → φ i = φ j → i = j) (hA : ∀ i, i < 71 → A (φ i)) (hP : va_P D n_cl (s_ws φ cI cS cA μ) H) (hM : s_mo L xs μ) (hS : va_S A s.heap H locs)
    (hv : s_ok (t, id)) (hu : s_ok (u, v)) (h0 : 0 ≤ id) (hc : (u = vt ∧ vt ≠ 1) ∨ (u = 0 ∧ vt = 1 ∧ (v = 0 ∨ v = 1))) (hc2 : u = 0 ∨ 0 ≤ v) (hf : n_fld k z t pl idx = true) (hfin : (n_T t z.toNat).2.2.2 = false) (hvt : vt = n_dt (n_T t z.toNat).2.2.1) (hd : decode (n_c k) pc = .ok (.putfield idx, 3))
    (kk : ∀ (H' : Heap) (locs' : List Loc), va_P D n_cl (s_ws φ cI cS cA (m_w μ id z v)) H' → s_mo L xs (m_w μ id z v) → va_S A s.heap H' locs' → W p l e R s m args below meth c H' locs' cells slots Q (F0 m (pc + 3) lsA (st.map (s_v φ)))) :
    W p l e R s m args below meth c H locs cells slots Q (F0 m pc lsA (s_v φ (u, v) :: s_v φ (t, id) :: st.map (s_v φ))) := by
  obtain ⟨hz0, hzN, ht5, ht10, hlink⟩ := n_fld_d hf
  obtain ⟨hi, hkd, hid⟩ := s_okr hv ⟨by omega, ht10⟩ h0
  obtain ⟨C, hC, hF, ⟨ty0, hty⟩, hnm⟩ := n_obj hi (by omega)
  rw [s_vr φ (t := t) (by omega) h0]
  have hz : z.toNat < n_N (n_kd id.toNat) := by rw [hkd]; omega
  have hzz : (z.toNat : Int) = z := by omega
  have hfs := n_fins id.toNat hi (by omega) z.toNat hz
  unfold n_fin1 at hfs
  rw [hkd] at hfs
  simp only [hfin, Bool.false_eq_true, if_false, Bool.or_eq_true, Bool.and_eq_true, decide_eq_true_eq] at hfs
  have hpd : parseFieldDescriptor (n_T t z.toNat).2.2.1 = some (ty0 z.toNat) := by have := hty z.toNat hz; rw [hkd] at this; exact this
  have hR : s_R32 v := by
    rcases hfs with h | ⟨⟨h8, h2⟩, h7⟩
    · have hu0 : u = 0 := by omega
      exact hu.1 hu0
    · have hu7 : u = 7 := by omega
      subst hu7
      rcases hu.2.2.1 (by show 2 ≤ 7; omega) (by show 7 ≤ 10; omega) with q | q
      · have q1 : v < 0 := q
        omega
      · have q1 : v < 71 := q.1
        exact ⟨by omega, by omega⟩
  have hM' : s_mo L xs (m_w μ id z v) := by
    refine s_mo_w hM (by omega) hR (fun e8 e2 => ?_)
    rcases hfs with h | ⟨⟨h8, h2⟩, h7⟩
    · exfalso
      subst e8; subst e2
      have ht8 : t = 8 := by rw [← hkd]; rfl
      subst ht8
      exact absurd h (by decide)
    · have hu7 : u = 7 := by omega
      subst hu7
      rcases hu.2.2.1 (by show 2 ≤ 7; omega) (by show 7 ≤ 10; omega) with q | q
      · have q1 : v < 0 := q
        omega
      · have q1 : v < 71 := q.1
        have := n_k7 v.toNat (by omega) q.2
        omega
  have hnew : s_v φ (u, v) = s_fv φ (m_w μ id z v) id.toNat z.toNat := by
    have hmw : m_w μ id z v id z = v := by unfold m_w; rw [if_pos ⟨rfl, rfl⟩]
    unfold s_fv
    rw [hkd, hfin]
    simp only [Bool.false_eq_true, if_false]
    rw [hid, hzz, hmw, ← hvt]
    rcases hfs with h | ⟨⟨h8, h2⟩, h7⟩
    · have hu0 : u = 0 := by omega
      rw [if_pos (by omega), hu0]
      rfl
    · rw [if_neg (by omega)]
      exact s_vr φ (by omega) (by omega)
  have hnf : narrow (ty0 z.toNat) (s_v φ (u, v)) = s_v φ (u, v) ∧ fits (ty0 z.toNat) (s_v φ (u, v)) = true := by
    rcases hfs with h | ⟨⟨h8, h2⟩, h7⟩
    · have hu0 : u = 0 := by omega
      subst hu0
      rw [s_v0]
      by_cases hI : (n_T t z.toNat).2.2.1 = "I"
      · rw [hI] at hpd
        have e1 : ty0 z.toNat = .int := by
          have : parseFieldDescriptor "I" = some .int := by decide +kernel
          exact Option.some.inj (hpd.symm.trans this)
        rw [e1]
        exact ⟨rfl, rfl⟩
      · have hZ : (n_T t z.toNat).2.2.1 = "Z" := by
          unfold n_dt at h
          rw [if_neg hI] at h
          by_cases q : (n_T t z.toNat).2.2.1 = "Z"
          · exact q
          · rw [if_neg q] at h
            repeat (first | omega | (split at h))
        rw [hZ] at hpd
        have e1 : ty0 z.toNat = .boolean := by
          have : parseFieldDescriptor "Z" = some .boolean := by decide +kernel
          exact Option.some.inj (hpd.symm.trans this)
        have hv1 : vt = 1 := by rw [hvt, hZ]; rfl
        have h01 : v = 0 ∨ v = 1 := by
          rcases hc with q | q
          · omega
          · exact q.2.2
        rw [e1]
        rcases h01 with rfl | rfl
        · exact ⟨by decide +kernel, by decide +kernel⟩
        · exact ⟨by decide +kernel, by decide +kernel⟩
    · have hu7 : u = 7 := by omega
      subst hu7
      rw [s_vr φ (by omega) (by omega)]
      have e8 : t = 8 := by rw [← hkd, h8]; rfl
      subst e8
      rw [h2] at hpd
      have e1 : ty0 z.toNat = .object "BrideDoors$Table" := by
        have : parseFieldDescriptor (n_T 8 2).2.2.1 = some (.object "BrideDoors$Table") := by decide +kernel
        rw [h2]
        exact Option.some.inj (hpd.symm.trans this)
      rw [e1]
      exact ⟨rfl, rfl⟩
  have he : (s_ws φ cI cS cA μ)[id.toNat]? = some (φ id.toNat, .inr (n_ci id.toNat, (List.range (n_N (n_kd id.toNat))).map (s_fv φ μ id.toNat))) := by rw [s_ws_at hi, s_ce5 (by omega)]
  refine va_put (own := n_own k) (ref := (n_T t z.toNat).1) (ty := ty0 z.toNat) (v := s_v φ (u, v)) hx hb hts hF ty0 hty hnm hown hK hP (s_ws_D hφ hA) hS id.toNat he hC z.toNat hz (by rw [hkd]; exact hts _ hlink) (fun _ h => by rw [hkd] at h ⊢; exact h) (by rw [hkd]; exact hfin) (by rw [hkd]; exact hpd) hnf.1 hnf.2 (by rw [List.length_map, List.length_range]; exact hz) hd (fun H1 locs1 hP1 _ hS1 => kk H1 locs1 ?_ hM' hS1)
  have hset := s_ws_set (φ := φ) (cI := cI) (cS := cS) (cA := cA) (μ := μ) (μ' := m_w μ id z v) (i := id.toNat) (E := .inr (n_ci id.toNat, ((List.range (n_N (n_kd id.toNat))).map (s_fv φ μ id.toNat)).set z.toNat (s_v φ (u, v)))) hi ?_ (fun j _ hj => s_ce_ne (by omega))
  · rw [hset] at hP1
    exact hP1
  · rw [s_ce5 (by omega)]
    congr 2
    apply List.ext_getElem?
    intro j
    by_cases hj : j < n_N (n_kd id.toNat)
    · by_cases ej : j = z.toNat
      · rw [ej, List.getElem?_set_self (by rw [List.length_map, List.length_range]; exact hz), List.getElem?_map, List.getElem?_range hz, hnew]
        rfl
      · rw [List.getElem?_set_ne (fun q => ej q.symm), List.getElem?_map, List.getElem?_map, List.getElem?_range hj]
        show some _ = some _
        congr 1
        have e2 : m_w μ id z v (id.toNat : Int) (j : Int) = μ (id.toNat : Int) (j : Int) := by
          unfold m_w
          rw [if_neg (fun q => ej (by omega))]
        unfold s_fv
        rw [e2]
    · rw [List.getElem?_eq_none (by rw [List.length_map, List.length_range]; omega), List.getElem?_eq_none (by rw [List.length_set, List.length_map, List.length_range]; omega)]
theorem s_ials {id j : Int} (hx : p.tables.exec = Jvm.exec) (hb : c.code = n_c k) (hK : va_K D n_cl (n_tys cI cS cA) s) (hP : va_P D n_cl (s_ws φ cI cS cA μ) H) (hv : s_ok (2, id)) (hj : s_R32 j) (h0 : 0 ≤ id) (h1 : 0 ≤ j) (h2 : j < m_al id) (hd : decode (n_c k) pc = .ok (.iaload, 1))
    (kk : W p l e R s m args below meth c H locs cells slots Q (F0 m (pc + 1) lsA (s_v φ (0, μ id j) :: st.map (s_v φ)))) : W p l e R s m args below meth c H locs cells slots Q (F0 m pc lsA (s_v φ (0, j) :: s_v φ (2, id) :: st.map (s_v φ))) := by
  obtain ⟨hi, hkd, hid⟩ := s_okr hv ⟨by omega, by omega⟩ h0
  rw [s_vr φ (t := 2) (by omega) h0, s_v0]
  have hal := n_al id.toNat hi hkd
  rw [hid] at hal
  refine va_iald (t0 := 0) (q0 := id.toNat) hx hb hK hP (by rw [s_ws_at hi, s_ce2 hkd]) rfl (s_vpin hj h1 (by rw [hid]; omega)) hd ?_
  rw [s_clamp hj, hid, show ((j.toNat : Nat) : Int) = j by omega]
  exact kk
theorem s_iass {id j v : Int} (hx : p.tables.exec = Jvm.exec) (hb : c.code = n_c k) (hK : va_K D n_cl (n_tys cI cS cA) s) (hφ : ∀ i j, i < 71 → j < 71 → φ i = φ j → i = j) (hA : ∀ i, i < 71 → A (φ i)) (hP : va_P D n_cl (s_ws φ cI cS cA μ) H) (hM : s_mo L xs μ) (hS : va_S A s.heap H locs) (hv : s_ok (2, id)) (hj : s_R32 j) (hr : s_R32 v) (h0 : 0 ≤ id) (h1 : 0 ≤ j) (h2 : j < m_al id) (hd : decode (n_c k) pc = .ok (.iastore, 1))
    (kk : ∀ (H' : Heap) (locs' : List Loc), va_P D n_cl (s_ws φ cI cS cA (m_w μ id j v)) H' → s_mo L xs (m_w μ id j v) → va_S A s.heap H' locs' → W p l e R s m args below meth c H' locs' cells slots Q (F0 m (pc + 1) lsA (st.map (s_v φ)))) : W p l e R s m args below meth c H locs cells slots Q (F0 m pc lsA (s_v φ (0, v) :: s_v φ (0, j) :: s_v φ (2, id) :: st.map (s_v φ))) := by
  obtain ⟨hi, hkd, hid⟩ := s_okr hv ⟨by omega, by omega⟩ h0
  rw [s_vr φ (t := 2) (by omega) h0, s_v0, s_v0]
  have hal := n_al id.toNat hi hkd
  rw [hid] at hal
  have hn8 : id ≠ 8 := by
    intro q
    rw [q] at hkd
    exact absurd hkd (by decide)
  refine va_iast (t0 := 0) (q0 := id.toNat) hx hb hK hP (s_ws_D hφ hA) hS (by rw [s_ws_at hi, s_ce2 hkd]) rfl (s_vpin hj h1 (by rw [hid]; omega)) hd (fun H1 locs1 hP1 _ hS1 => kk H1 locs1 ?_ (s_mo_w hM (by omega) hr (fun q => absurd q hn8)) hS1)
  have hset := s_ws_set (φ := φ) (cI := cI) (cS := cS) (cA := cA) (μ := μ) (μ' := m_w μ id j v) (i := id.toNat) (E := .inl (cI, (m_al id.toNat).toNat, .inl (upd (fun q : Nat => Int32.ofInt (μ id.toNat q)) (Int32.ofInt j).toNatClampNeg (Int32.ofInt v)))) hi ?_ (fun a _ ha => s_ce_ne (by omega))
  · rw [hset] at hP1
    exact hP1
  · rw [s_ce2 hkd, s_clamp hj]
    have hfun : (fun q : Nat => Int32.ofInt (m_w μ id j v id.toNat q)) = upd (fun q : Nat => Int32.ofInt (μ id.toNat q)) j.toNat (Int32.ofInt v) := by
      funext q
      unfold upd m_w
      by_cases e : q = j.toNat
      · rw [if_pos ⟨hid, by omega⟩, if_pos e]
      · rw [if_neg (fun w => e (by omega)), if_neg e]
    rw [hfun]
end SC2
