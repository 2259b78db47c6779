section SC3
variable {p : Program} {l : Launch} {e : Env} {R : Room} {s : State} {m : MethodId} {args : Array Value} {below : List Frame} {meth : Method} {c : Code} {H : Heap} {locs : List Loc} {cells slots : Nat} {Q : State → Prop}
variable {φ : Nat → Nat} {D : va_G} {cI cS cA : ClassId} {L : Nat} {xs : Nat → Int32} {A : Nat → Prop}
variable {k pc n op : Nat} {z : Int} {ex : List Nat} {ls st : List MVal} {μ : MMem} {lsA : Array Slot} {o : MOut}
theorem s_ok11 {x : Int} (h : x = 200 ∨ x = 201 ∨ x = 202) : s_ok (11, x) := by simp [s_ok]; omega
theorem s_gets {C nm d : String} {v : Value} {idx : Nat} (hx : p.tables.exec = Jvm.exec) (hb : c.code = n_c k) (hown : s.vm.findClass (n_own k) = some m.cls) (hts : ∀ w ∈ n_tg, w.before args s = true) (hZ : va_Z C nm d v A s s.heap) (hS : va_S A s.heap H locs) {pl : Nat} (hw : n_at pl (.fieldLink (n_own k) idx C nm d) = true) (hd : decode (n_c k) pc = .ok (.getstatic idx, 3))
    (kk : W p l e R s m args below meth c H locs cells slots Q (F0 m (pc + 3) lsA (v :: st.map (s_v φ)))) : W p l e R s m args below meth c H locs cells slots Q (F0 m pc lsA (st.map (s_v φ))) :=
  va_gets hx hb hZ hS hown (hts _ (n_in hw)) (fun _ h => h) hd kk
theorem s_arow {ty : FieldType} {t0 : Nat} {cX : ClassId} {id j : Int} {t : Nat} (hx : p.tables.exec = Jvm.exec) (hb : c.code = n_c k) (hK : va_K D n_cl (n_tys cI cS cA) s) (hP : va_P D n_cl (s_ws φ cI cS cA μ) H) (hi : id.toNat < 71) (hid : (id.toNat : Int) = id) (ht : 2 ≤ t)
    (hce : s_ce φ cI cS cA μ id.toNat = .inl (cX, (m_rl id.toNat).toNat, .inr (.inr (.inr (.inr (fun j => some (φ (m_rf id.toNat j).toNat))))))) (hty : (n_tys cI cS cA)[t0]? = some (cX, ty)) (href : ty.isReference = true) (hj : s_R32 j) (h1 : 0 ≤ j) (h2 : j < m_rl id) (h3 : 0 ≤ m_rf id j) (h0 : 0 ≤ id) {u : Nat} (hu : 2 ≤ u) (hd : decode (n_c k) pc = .ok (.aaload, 1))
    (kk : W p l e R s m args below meth c H locs cells slots Q (F0 m (pc + 1) lsA (s_v φ (t, m_rf id j) :: st.map (s_v φ)))) : W p l e R s m args below meth c H locs cells slots Q (F0 m pc lsA (s_v φ (0, j) :: s_v φ (u, id) :: st.map (s_v φ))) := by
  rw [s_vr φ (t := u) hu h0, s_v0]
  rw [s_vr φ (t := t) ht h3] at kk
  have hrl := n_rl id
  have hin : vp_in (Int32.ofInt j) (m_rl id.toNat).toNat := s_vpin hj h1 (by rw [hid]; omega)
  have hlt : (Int32.ofInt j).toNatClampNeg < (m_rl id.toNat).toNat := by rw [s_clamp hj, hid]; omega
  have hcell := hP id.toNat _ (by rw [s_ws_at hi, hce])
  refine W.aald (v := va_rf ((fun j : Nat => some (φ (m_rf id.toNat j).toNat)) (Int32.ofInt j).toNatClampNeg)) (ty := ty) hx hb hcell ((hK.2 t0 _ hty).1 _ (fun q => va_rf ((fun j : Nat => some (φ (m_rf id.toNat j).toNat)) q))) href (fun q => by cases q) (by show ¬ (_ ∨ (arrV _ _ _).slots.size ≤ _); rw [arrV_size]; exact hin) (by show (arrV _ _ _).slots[_]? = _; rw [arrV_read _ _ hlt]) rfl rfl hd ?_
  rw [s_clamp hj, show ((fun j : Nat => some (φ (m_rf id.toNat j).toNat)) j.toNat) = some (φ (m_rf id j).toNat) by show some (φ (m_rf (id.toNat : Int) (j.toNat : Int)).toNat) = _; rw [hid, show ((j.toNat : Nat) : Int) = j by omega]]
  exact kk
set_option maxHeartbeats 4000000 in
theorem s_opC (hx : p.tables.exec = Jvm.exec) (hb : c.code = n_c k) (hown : s.vm.findClass (n_own k) = some m.cls) (hts : ∀ w ∈ n_tg, w.before args s = true) (hK : s_K φ D cI cS cA L xs A s s.heap) (hφ : ∀ i j, i < 71 → j < 71 → φ i = φ j → i = j) (hA : ∀ i, i < 71 → A (φ i)) (hP : va_P D n_cl (s_ws φ cI cS cA μ) H) (hM : s_mo L xs μ) (hS : va_S A s.heap H locs) (hLL : L < 2147483648)
    (hs : ∀ v ∈ st, s_ok v) (hop : (27 ≤ op ∧ op < 36) ∨ (45 ≤ op ∧ op < 48)) (hc : k_chk k pc (op, n, z, ex) = true) (ho : m_opC op n z ex ls st μ = some o) (kk : s_kc p l e R s m args below meth c cells slots Q φ D cI cS cA L xs A lsA k pc (op, n, z, ex) ls o) :
    W p l e R s m args below meth c H locs cells slots Q (F0 m pc lsA (st.map (s_v φ))) := by
  obtain ⟨hd, hsd⟩ := k_chk_d hc
  obtain ⟨hK1, hT0, hT1, hT2, hZ0, hZ1, hZ2, hR, hSt, -, -⟩ := hK
  unfold m_opC at ho
  split at ho
  · split at ho
    · split at ho
      · rename_i t id st a ot rt b hh
        cases ho
        obtain ⟨rfl, h0⟩ := hh
        have h1 : (n_fld k z t b a && decide ((n_T t z.toNat).2.2.2 = false) && decide (rt = (if n_dt (n_T t z.toNat).2.2.1 = 1 then 0 else n_dt (n_T t z.toNat).2.2.1))) = true := hsd
        simp only [Bool.and_eq_true, decide_eq_true_eq] at h1
        obtain ⟨⟨hf, hfin⟩, hrt⟩ := h1
        obtain ⟨hz0, hzN, ht5, ht10, -⟩ := n_fld_d hf
        obtain ⟨hi, hkd, hid⟩ := s_okr (s_hd hs) ⟨by omega, ht10⟩ h0
        have hg := s_fld (φ := φ) (kk := z.toNat) hM hi (by omega) (by rw [hkd]; omega) (by rw [hkd]; exact hfin)
        rw [hkd, ← hrt, hid, show ((z.toNat : Nat) : Int) = z by omega] at hg
        refine s_getf hx hb hown hts hK1 hP (s_hd hs) h0 hf hd ?_
        rw [hg.1]
        exact kk _ _ _ _ rfl (s_cons hg.2 (s_tl hs)) hP hM hS
      · cases ho
    · cases ho
  · split at ho
    · split at ho
      · rename_i t id st a ot rt b hh
        cases ho
        obtain ⟨rfl, h0⟩ := hh
        have h1 : (n_fld k z t b a && decide ((n_T t z.toNat).2.2.2 = true) && decide (rt = (if n_dt (n_T t z.toNat).2.2.1 = 1 then 0 else n_dt (n_T t z.toNat).2.2.1))) = true := hsd
        simp only [Bool.and_eq_true, decide_eq_true_eq] at h1
        obtain ⟨⟨hf, hfin⟩, hrt⟩ := h1
        obtain ⟨hz0, hzN, ht5, ht10, -⟩ := n_fld_d hf
        obtain ⟨hi, hkd, hid⟩ := s_okr (s_hd hs) ⟨by omega, ht10⟩ h0
        have hg := s_fldF (φ := φ) (μ := μ) (kk := z.toNat) hi (by omega) (by rw [hkd]; omega) (by rw [hkd]; exact hfin)
        rw [hkd, ← hrt, hid, show ((z.toNat : Nat) : Int) = z by omega] at hg
        refine s_getf hx hb hown hts hK1 hP (s_hd hs) h0 hf hd ?_
        rw [hg.1]
        exact kk _ _ _ _ rfl (s_cons hg.2 (s_tl hs)) hP hM hS
      · cases ho
    · cases ho
  · split at ho
    · split at ho
      · rename_i u v t id st a ot vt b hh
        cases ho
        obtain ⟨rfl, h0, hc1, hc2⟩ := hh
        have h1 : (n_fld k z t b a && decide ((n_T t z.toNat).2.2.2 = false) && decide (vt = n_dt (n_T t z.toNat).2.2.1)) = true := hsd
        simp only [Bool.and_eq_true, decide_eq_true_eq] at h1
        obtain ⟨⟨hf, hfin⟩, hvt⟩ := h1
        exact s_putf hx hb hown hts hK1 hφ hA hP hM hS (s_hd (s_tl hs)) (s_hd hs) h0 hc1 hc2 hf hfin hvt hd (fun H' locs' hP' hM' hS' => kk _ _ _ _ rfl (s_tl (s_tl hs)) hP' hM' hS')
      · cases ho
    · cases ho
  · by_cases h2 : n = 2
    · rw [if_pos h2] at ho
      cases ho
      subst h2
      have h1 : (decide (2 = 2) && n_at (ex.getD 1 0) (.fieldLink (n_own k) (n_e0 ex) "java/lang/String" "COMPACT_STRINGS" "Z")) = true := hsd
      simp only [Bool.and_eq_true] at h1
      exact s_gets hx hb hown hts hZ2 hS h1.2 hd (kk _ _ _ _ rfl (s_cons (s_ok0 ⟨by decide, by decide⟩) hs) hP hM hS)
    · rw [if_neg h2] at ho
      by_cases h1 : n = 1
      · rw [if_pos h1] at ho
        cases ho
        subst h1
        have h1 : n_at (ex.getD 1 0) (.fieldLink (n_own k) (n_e0 ex) "BrideDoors" "DOOR_YEARS" "[I") = true := hsd
        exact s_gets hx hb hown hts hZ1 hS h1 hd (kk _ _ _ _ rfl (s_cons (s_ok11 (Or.inr (Or.inl rfl))) hs) hP hM hS)
      · rw [if_neg h1] at ho
        cases ho
        have h0 : n = 0 := by
          by_cases h0 : n = 0
          · exact h0
          · have h3 : (if n = 0 then n_at (ex.getD 1 0) (.fieldLink (n_own k) (n_e0 ex) "BrideDoors" "HOUSE_YEARS" "[I") else if n = 1 then n_at (ex.getD 1 0) (.fieldLink (n_own k) (n_e0 ex) "BrideDoors" "DOOR_YEARS" "[I") else decide (n = 2) && n_at (ex.getD 1 0) (.fieldLink (n_own k) (n_e0 ex) "java/lang/String" "COMPACT_STRINGS" "Z")) = true := hsd
            rw [if_neg h0, if_neg h1] at h3
            simp only [Bool.and_eq_true, decide_eq_true_eq] at h3
            exact absurd h3.1 h2
        subst h0
        have h1 : n_at (ex.getD 1 0) (.fieldLink (n_own k) (n_e0 ex) "BrideDoors" "HOUSE_YEARS" "[I") = true := hsd
        exact s_gets hx hb hown hts hZ0 hS h1 hd (kk _ _ _ _ rfl (s_cons (s_ok11 (Or.inl rfl)) hs) hP hM hS)
  · split at ho
    · split at ho
      · rename_i j id st hh
        cases ho
        exact s_ials hx hb hK1 hP (s_hd (s_tl hs)) ((s_hd hs).1 rfl) hh.1 hh.2.1 hh.2.2 hd (kk _ _ _ _ rfl (s_cons (s_ok0 (hM.1 _ _)) (s_tl (s_tl hs))) hP hM hS)
      · cases ho
    · split at ho
      · rename_i j id st hh
        cases ho
        have hj := (s_hd hs).1 rfl
        have hj' : s_R32 j := hj
        rw [List.map_cons, List.map_cons, s_vr φ (t := 11) (by omega) hh.1, s_v0]
        have h3 := (s_hd (s_tl hs)).2.2.2.1 rfl
        have h3' : id < 0 ∨ id = 200 ∨ id = 201 ∨ id = 202 := h3
        have hjj : ((j.toNat : Nat) : Int) = j := by omega
        rcases h3' with q | rfl | rfl | rfl
        · omega
        · have hlt : j < 4 := hh.2.2
          refine va_ti hx hb hT0 hS (s_vpin hj' hh.2.1 hlt) (v := s_v φ (0, m_oc μ 200 j)) ?_ hd (kk _ _ _ _ rfl (s_cons (s_ok0 ?_) (s_tl (s_tl hs))) hP hM hS)
          · rw [s_clamp hj']; rfl
          · have : j = 0 ∨ j = 1 ∨ j = 2 ∨ j = 3 := by omega
            rcases this with rfl | rfl | rfl | rfl <;> exact ⟨by simp [m_oc], by simp [m_oc]⟩
        · have hlt : j < 3 := hh.2.2
          refine va_ti hx hb hT1 hS (s_vpin hj' hh.2.1 hlt) (v := s_v φ (0, m_oc μ 201 j)) ?_ hd (kk _ _ _ _ rfl (s_cons (s_ok0 ?_) (s_tl (s_tl hs))) hP hM hS)
          · rw [s_clamp hj']; rfl
          · have : j = 0 ∨ j = 1 ∨ j = 2 := by omega
            rcases this with rfl | rfl | rfl <;> exact ⟨by simp [m_oc], by simp [m_oc]⟩
        · have hlt : j < (L : Int) := by rw [← hM.2.2.1]; exact hh.2.2
          have hv := hM.2.2.2 j.toNat (by omega)
          rw [hjj] at hv
          refine va_ti hx hb hT2 hS (s_vpin hj' hh.2.1 hlt) (v := s_v φ (0, m_oc μ 202 j)) ?_ hd (kk _ _ _ _ rfl (s_cons (s_ok0 ?_) (s_tl (s_tl hs))) hP hM hS)
          · rw [s_clamp hj', show m_oc μ 202 j = μ 202 j from rfl, hv, s_vI]
          · show s_R32 (μ 202 j)
            exact hM.1 _ _
      · cases ho
    · cases ho
  · split at ho
    · split at ho
      · rename_i v j id st hh
        cases ho
        exact s_iass hx hb hK1 hφ hA hP hM hS (s_hd (s_tl (s_tl hs))) ((s_hd (s_tl hs)).1 rfl) ((s_hd hs).1 rfl) hh.1 hh.2.1 hh.2.2 hd (fun H' locs' hP' hM' hS' => kk _ _ _ _ rfl (s_tl (s_tl (s_tl hs))) hP' hM' hS')
      · cases ho
    · cases ho
  · split at ho
    · split at ho
      · rename_i id st hh
        cases ho
        obtain ⟨hi, hkd, hid⟩ := s_okr (s_hd hs) ⟨by omega, by omega⟩ hh
        have hal := n_al id.toNat hi hkd
        rw [hid] at hal
        rw [List.map_cons, s_vr φ (t := 2) (by omega) hh]
        refine va_alen (t0 := 0) (q0 := id.toNat) hx hb hK1 hP (by rw [s_ws_at hi, s_ce2 hkd]) rfl (v := Int32.ofInt (m_al id)) ?_ hd (kk _ _ _ _ rfl (s_cons (s_ok0 ⟨by omega, by omega⟩) (s_tl hs)) hP hM hS)
        show Int32.ofNat (m_al (id.toNat : Int)).toNat = _
        rw [hid, ← Int32.toInt_inj, s_toI ⟨by omega, by omega⟩, Int32.toInt_ofNat_of_lt (by omega)]
        omega
      · cases ho
    · split at ho
      · rename_i id st hh
        cases ho
        rw [List.map_cons, s_vr φ (t := 11) (by omega) hh]
        have h3 := (s_hd hs).2.2.2.1 rfl
        have h3' : id < 0 ∨ id = 200 ∨ id = 201 ∨ id = 202 := h3
        rcases h3' with q | rfl | rfl | rfl
        · omega
        · exact va_tlen hx hb hT0 hS rfl hd (kk _ _ _ _ rfl (s_cons (s_ok0 (show s_R32 4 from ⟨by decide, by decide⟩)) (s_tl hs)) hP hM hS)
        · exact va_tlen hx hb hT1 hS rfl hd (kk _ _ _ _ rfl (s_cons (s_ok0 (show s_R32 3 from ⟨by decide, by decide⟩)) (s_tl hs)) hP hM hS)
        · refine va_tlen hx hb hT2 hS (v := Int32.ofInt (m_ol μ 202)) ?_ hd (kk _ _ _ _ rfl (s_cons (s_ok0 ?_) (s_tl hs)) hP hM hS)
          · rw [show m_ol μ 202 = μ 202 (-1) from rfl, hM.2.2.1]; rfl
          · rw [show m_ol μ 202 = μ 202 (-1) from rfl]; exact hM.1 _ _
      · cases ho
    · split at ho
      · rename_i id st hh
        cases ho
        rw [List.map_cons, s_vr φ (t := 13) (by omega) hh]
        have h3 := (s_hd hs).2.2.2.2.2.1 rfl
        have h3' : id < 0 ∨ id = 204 := h3
        rcases h3' with q | rfl
        · omega
        · exact va_tlen hx hb (hSt.1 0 (by decide)).2.2.2 hS rfl hd (kk _ _ _ _ rfl (s_cons (s_ok0 ⟨by decide, by decide⟩) (s_tl hs)) hP hM hS)
      · cases ho
    · cases ho
  · split at ho
    · split at ho
      · rename_i j id st hh
        cases ho
        obtain ⟨hi, hkd, hid⟩ := s_okr (s_hd (s_tl hs)) ⟨by omega, by omega⟩ hh.1
        have hr := (n_rows id.toNat hi).1 hkd j.toNat (by rw [hid]; omega)
        rw [hid, show ((j.toNat : Nat) : Int) = j by omega] at hr
        refine s_arow (t0 := 2) hx hb hK1 hP hi hid (by omega) (s_ce3 hkd) rfl rfl ((s_hd hs).1 rfl) hh.2.1 hh.2.2 hr.1 hh.1 (by omega) hd (kk _ _ _ _ rfl (s_cons ?_ (s_tl (s_tl hs))) hP hM hS)
        exact ⟨fun q => by simp at q, fun q => by simp at q, fun _ _ => Or.inr ⟨hr.2.1, hr.2.2⟩, fun q => by simp at q, fun q => by simp at q, fun q => by simp at q, by simp⟩
      · cases ho
    · split at ho
      · rename_i j id st hh
        cases ho
        obtain ⟨hi, hkd, hid⟩ := s_okr (s_hd (s_tl hs)) ⟨by omega, by omega⟩ hh.1
        have hr := (n_rows id.toNat hi).2 hkd j.toNat (by rw [hid]; omega)
        rw [hid, show ((j.toNat : Nat) : Int) = j by omega] at hr
        refine s_arow (t0 := 1) hx hb hK1 hP hi hid (by omega) (s_ce4 hkd) rfl rfl ((s_hd hs).1 rfl) hh.2.1 hh.2.2 hr.1 hh.1 (by omega) hd (kk _ _ _ _ rfl (s_cons ?_ (s_tl (s_tl hs))) hP hM hS)
        exact ⟨fun q => by simp at q, fun q => by simp at q, fun _ _ => Or.inr ⟨hr.2.1, hr.2.2⟩, fun q => by simp at q, fun q => by simp at q, fun q => by simp at q, by simp⟩
      · cases ho
    · cases ho
  · split at ho
    · split at ho
      · rename_i j id st hh
        cases ho
        have hj' : s_R32 j := (s_hd hs).1 rfl
        rw [List.map_cons, List.map_cons, s_vr φ (t := 13) (by omega) hh.1, s_v0]
        have h3 := (s_hd (s_tl hs)).2.2.2.2.2.1 rfl
        have h3' : id < 0 ∨ id = 204 := h3
        rcases h3' with q | rfl
        · omega
        · refine va_tb hx hb (hSt.1 0 (by decide)).2.2.2 hS (s_vpin hj' hh.2.1 hh.2.2) (v := s_v φ (0, m_bc j)) ?_ hd (kk _ _ _ _ rfl (s_cons (s_ok0 ?_) (s_tl (s_tl hs))) hP hM hS)
          · rw [s_clamp hj']
            have hlt := hh.2.2
            have : j = 0 ∨ j = 1 ∨ j = 2 := by omega
            rcases this with rfl | rfl | rfl <;> rfl
          · have hlt := hh.2.2
            have : j = 0 ∨ j = 1 ∨ j = 2 := by omega
            rcases this with rfl | rfl | rfl <;> exact ⟨by decide, by decide⟩
      · cases ho
    · cases ho
  · cases ho
    refine lv_null hx hb hd (kk _ _ _ _ rfl (s_cons ?_ hs) hP hM hS)
    exact ⟨fun q => by simp at q, fun q => by simp at q, fun _ _ => Or.inl (by simp), fun q => by simp at q, fun q => by simp at q, fun q => by simp at q, by simp⟩
  · cases ho
    have h1 : (decide (n_e0 ex = 9) && decide (n_own k = "BrideDoors$HouseText")) = true := hsd
    simp only [Bool.and_eq_true, decide_eq_true_eq] at h1
    have hd' : decode (n_c k) pc = .ok (.ldc 9, 2) := by rw [← h1.1]; exact hd
    rw [h1.2] at hown
    refine va_ldcS hx hb hown hR hd' (kk _ _ _ _ rfl (s_cons ?_ hs) hP hM hS)
    exact ⟨fun q => by simp at q, fun q => by simp at q, fun _ q => by simp at q, fun q => by simp at q, fun _ => Or.inr rfl, fun q => by simp at q, by simp⟩
  · rename_i h27 h28 h29 h30 h31 h32 h33 h34 h35 h45 h46
    have e47 : op = 47 := by
      have : op ≠ 27 := fun q => h27 q
      have : op ≠ 28 := fun q => h28 q
      have : op ≠ 29 := fun q => h29 q
      have : op ≠ 30 := fun q => h30 q
      have : op ≠ 31 := fun q => h31 q
      have : op ≠ 32 := fun q => h32 q
      have : op ≠ 33 := fun q => h33 q
      have : op ≠ 34 := fun q => h34 q
      have : op ≠ 35 := fun q => h35 q
      have : op ≠ 45 := fun q => h45 q
      have : op ≠ 46 := fun q => h46 q
      omega
    subst e47
    split at ho
    · split at ho
      · rename_i id st hh
        rw [List.map_cons, s_vr φ (t := 12) (by omega) hh]
        have h3 := (s_hd hs).2.2.2.2.1 rfl
        have h3' : id < 0 ∨ id = 203 := h3
        rcases h3' with q | rfl
        · omega
        · have h1 : (if n = 0 then n_at (ex.getD 1 0) (.fieldLink (n_own k) (n_e0 ex) "java/lang/String" "value" "[B") else decide (n = 1) && n_at (ex.getD 1 0) (.fieldLink (n_own k) (n_e0 ex) "java/lang/String" "coder" "B")) = true := hsd
          by_cases hn : n = 0
          · rw [if_pos hn] at ho h1
            cases ho
            refine vk_getf hx hb (hSt.1 0 (by decide)).2.2.1 hS hown (hts _ (n_in h1)) (fun _ h => h) hd (kk _ _ _ _ rfl (s_cons ?_ (s_tl hs)) hP hM hS)
            exact ⟨fun q => by simp at q, fun q => by simp at q, fun _ q => by simp at q, fun q => by simp at q, fun q => by simp at q, fun _ => Or.inr rfl, by simp⟩
          · rw [if_neg hn] at ho h1
            cases ho
            simp only [Bool.and_eq_true] at h1
            exact vk_getf hx hb (hSt.1 0 (by decide)).2.1 hS hown (hts _ (n_in h1.2)) (fun _ h => h) hd (kk _ _ _ _ rfl (s_cons (s_ok0 ⟨by decide, by decide⟩) (s_tl hs)) hP hM hS)
      · cases ho
    · cases ho
end SC3
