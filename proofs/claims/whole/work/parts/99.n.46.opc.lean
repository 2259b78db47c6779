section SC
variable {p : Program} {l : Launch} {e : Env} {R : Room} {s : State} {m : MethodId} {args : Array Value} {below : List Frame} {meth : Method} {c : Code} {H : Heap} {locs : List Loc} {cells slots : Nat} {Q : State → Prop}
variable {φ : Nat → Nat} {D : va_G} {cI cS cA : ClassId} {L : Nat} {xs : Nat → Int32} {A : Nat → Prop}
variable {k pc n op : Nat} {z : Int} {ex : List Nat} {ls st : List MVal} {μ : MMem} {lsA : Array Slot} {o : MOut}
theorem s_okr {t : Nat} {id : Int} (h : s_ok (t, id)) (ht : 2 ≤ t ∧ t ≤ 10) (h0 : 0 ≤ id) : id.toNat < 71 ∧ n_kd id.toNat = t ∧ (id.toNat : Int) = id := by
  rcases h.2.2.1 ht.1 ht.2 with q | q
  · have : id < 0 := q
    omega
  · have q1 : id < 71 := q.1
    exact ⟨by omega, q.2, by omega⟩
/-- the value of a field, as the small machine reads it -/
theorem s_fld {i kk : Nat} (hM : s_mo L xs μ) (hi : i < 71) (h5 : 5 ≤ n_kd i) (hk : kk < n_N (n_kd i)) (hf : (n_T (n_kd i) kk).2.2.2 = false) :
    s_fv φ μ i kk = s_v φ ((if n_dt (n_T (n_kd i) kk).2.2.1 = 1 then 0 else n_dt (n_T (n_kd i) kk).2.2.1), μ i kk) ∧ s_ok ((if n_dt (n_T (n_kd i) kk).2.2.1 = 1 then 0 else n_dt (n_T (n_kd i) kk).2.2.1), μ i kk) := by
  have h := n_fins i hi h5 kk hk
  unfold n_fin1 at h
  simp only [hf, if_neg, Bool.false_eq_true, if_false, Bool.or_eq_true, Bool.and_eq_true, decide_eq_true_eq] at h
  unfold s_fv
  simp only [hf, Bool.false_eq_true, if_false]
  generalize hg : n_dt (n_T (n_kd i) kk).2.2.1 = d at h ⊢
  rcases h with h | ⟨⟨rfl, rfl⟩, rfl⟩
  · have e : (if d = 1 then 0 else d) = 0 := by
      by_cases h1 : d = 1
      · rw [if_pos h1]
      · rw [if_neg h1]; omega
    rw [if_pos h, e]
    exact ⟨rfl, s_ok0 (hM.1 _ _)⟩
  · have h2 := hM.2.1
    have c2 : ((8 : Nat) : Int) = 8 := rfl
    have c3 : ((2 : Nat) : Int) = 2 := rfl
    rw [c2, c3]
    generalize μ 8 2 = x at h2 ⊢
    refine ⟨by rw [if_neg (by omega), if_neg (by omega)]; exact (s_vr φ (by omega) (by omega)).symm, ?_⟩
    rw [if_neg (by omega)]
    refine ⟨fun q => by simp at q, fun q => by simp at q, fun _ _ => Or.inr ⟨by show x < 71; omega, ?_⟩, fun q => by simp at q, fun q => by simp at q, fun q => by simp at q, by simp⟩
    show n_kd x.toNat = 7
    have hx : x = 1 ∨ x = 2 ∨ x = 3 ∨ x = 4 ∨ x = 5 := by omega
    rcases hx with rfl | rfl | rfl | rfl | rfl <;> rfl
theorem s_fldF {i kk : Nat} (hi : i < 71) (h5 : 5 ≤ n_kd i) (hk : kk < n_N (n_kd i)) (hf : (n_T (n_kd i) kk).2.2.2 = true) :
    s_fv φ μ i kk = s_v φ ((if n_dt (n_T (n_kd i) kk).2.2.1 = 1 then 0 else n_dt (n_T (n_kd i) kk).2.2.1), m_rf i kk) ∧ s_ok ((if n_dt (n_T (n_kd i) kk).2.2.1 = 1 then 0 else n_dt (n_T (n_kd i) kk).2.2.1), m_rf i kk) := by
  have h := n_fins i hi h5 kk hk
  unfold n_fin1 at h
  simp only [hf, if_true] at h
  unfold s_fv
  simp only [hf, if_true]
  generalize hg : n_dt (n_T (n_kd i) kk).2.2.1 = d at h ⊢
  generalize m_rf i kk = x at h ⊢
  by_cases h2 : d < 2
  · rw [if_pos h2] at h
    simp only [Bool.and_eq_true, decide_eq_true_eq] at h
    have e : (if d = 1 then 0 else d) = 0 := by
      by_cases h1 : d = 1
      · rw [if_pos h1]
      · rw [if_neg h1]; omega
    rw [if_pos h2, e]
    exact ⟨rfl, s_ok0 ⟨by omega, by omega⟩⟩
  · rw [if_neg h2] at h
    simp only [Bool.and_eq_true, decide_eq_true_eq] at h
    have h0 := h.1.1.2
    rw [if_neg h2, if_neg (by omega)]
    refine ⟨(s_vr φ (by omega) h0).symm, fun q => by simp at q; omega, fun q => by simp at q; omega, fun _ _ => Or.inr ⟨h.1.2, h.2⟩, fun q => by simp at q; omega, fun q => by simp at q; omega, fun q => by simp at q; omega, by show d ≤ 14; omega⟩
theorem n_fld_d {t pl idx : Nat} (h : n_fld k z t pl idx = true) : 0 ≤ z ∧ z < n_N t ∧ 5 ≤ t ∧ t ≤ 10 ∧ Cond.fieldLink (n_own k) idx (n_T t z.toNat).1 (n_T t z.toNat).2.1 (n_T t z.toNat).2.2.1 ∈ n_tg := by
  unfold n_fld at h
  simp only [Bool.and_eq_true, decide_eq_true_eq] at h
  exact ⟨h.1.1.1.1, h.1.1.1.2, h.1.1.2, h.1.2, n_in h.2⟩
/-- reading a field of the world -/
theorem s_getf {t idx : Nat} {id : Int} (hx : p.tables.exec = Jvm.exec) (hb : c.code = n_c k) (hown : s.vm.findClass (n_own k) = some m.cls) (hts : ∀ w ∈ n_tg, w.before args s = true) (hK : va_K D n_cl (n_tys cI cS cA) s) (hP : va_P D n_cl (s_ws φ cI cS cA μ) H)
    (hv : s_ok (t, id)) (h0 : 0 ≤ id) {pl : Nat} (hf : n_fld k z t pl idx = true) (hd : decode (n_c k) pc = .ok (.getfield idx, 3))
    (kk : W p l e R s m args below meth c H locs cells slots Q (F0 m (pc + 3) lsA (s_fv φ μ id.toNat z.toNat :: st.map (s_v φ)))) : W p l e R s m args below meth c H locs cells slots Q (F0 m pc lsA (s_v φ (t, id) :: st.map (s_v φ))) := by
  obtain ⟨hz0, hzN, ht5, ht10, hlink⟩ := n_fld_d hf
  obtain ⟨hi, hkd, hid⟩ := s_okr hv ⟨by omega, ht10⟩ h0
  obtain ⟨C, hC, hF, -, -⟩ := n_obj hi (by omega)
  rw [s_vr φ (by omega) h0]
  have hz : z.toNat < n_N (n_kd id.toNat) := by rw [hkd]; omega
  refine va_get (own := n_own k) (ref := (n_T t z.toNat).1) hx hb hts hF hown hK hP id.toNat (by rw [s_ws_at hi, s_ce5 (by omega)]) hC z.toNat hz ?_ (fun _ h => by rw [hkd] at h ⊢; exact h) (v := s_fv φ μ id.toNat z.toNat) (by rw [List.getElem?_map, List.getElem?_range hz]; rfl) hd kk
  rw [hkd]
  exact hts _ hlink
theorem s_mo_w {i k v : Int} (hM : s_mo L xs μ) (hi : i < 71) (hv : s_R32 v) (h7 : i = 8 → k = 2 → 1 ≤ v ∧ v ≤ 5) : s_mo L xs (m_w μ i k v) := by
  obtain ⟨h1, h2, h3, h4⟩ := hM
  refine ⟨fun a b => ?_, ?_, ?_, fun j hj => ?_⟩
  · unfold m_w
    by_cases q : a = i ∧ b = k
    · rw [if_pos q]; exact hv
    · rw [if_neg q]; exact h1 a b
  · unfold m_w
    by_cases q : (8 : Int) = i ∧ (2 : Int) = k
    · rw [if_pos q]; exact h7 q.1.symm q.2.symm
    · rw [if_neg q]; exact h2
  · rw [m_w_ne (by omega)]; exact h3
  · rw [m_w_ne (by omega)]; exact h4 j hj
end SC
