section SE
variable {l : Launch} {φ : Nat → Nat} {D : va_G} {cI cS cA : ClassId} {L : Nat} {xs : Nat → Int32}
def k_ret (k : Nat) (r : MVal) (pc : Nat) : Prop :=
  (r.1 = 0 ∧ decode (n_c k) pc = .ok (.ireturn, 1) ∧ (n_r k = some .int ∨ ((n_r k = some .boolean ∨ n_r k = some .byte) ∧ (r.2 = 0 ∨ r.2 = 1)))) ∨ (r.1 = 1 ∧ decode (n_c k) pc = .ok (.lreturn, 1) ∧ n_r k = some .long) ∨ (2 ≤ r.1 ∧ r.1 ≤ 13 ∧ decode (n_c k) pc = .ok (.areturn, 1) ∧ ∃ C, n_r k = some (.object C)) ∨ (r.1 = 14 ∧ decode (n_c k) pc = .ok (.return_, 1) ∧ n_r k = none)
def s_E (l : Launch) (φ : Nat → Nat) (D : va_G) (cI cS cA : ClassId) (L : Nat) (xs : Nat → Int32) (p : Program) (e : Env) (R : Room) (s : State) (m : MethodId) (args : Array Value) (below : List Frame) (meth : Method) (c : Code) (A : Nat → Prop) (cells slots : Nat) (Q : State → Prop) (k : Nat) (r : MVal) (μ' : MMem) : Prop :=
  ∀ (H' : Heap) (locs' : List Loc) (pc' : Nat) (lsB : Array Slot), va_P D n_cl (s_ws φ cI cS cA μ') H' → s_mo L xs μ' → va_S A s.heap H' locs' → s_ok r → k_ret k r pc' → W p l e R s m args below meth c H' locs' cells slots Q (F0 m pc' lsB (s_rv φ r).toList)
def s_G (l : Launch) (φ : Nat → Nat) (D : va_G) (cI cS cA : ClassId) (L : Nat) (xs : Nat → Int32) (f : Nat) : Prop :=
  ∀ (k : Nat) (is : List MIns) (ls st : List MVal) (μ : MMem) (r : MVal) (μ' : MMem), m_ex f k is ls st μ = some (r, μ') → ∀ (p : Program) (e : Env) (R : Room) (s : State) (m : MethodId) (args : Array Value) (below : List Frame) (meth : Method) (c : Code) (A : Nat → Prop) (cells slots : Nat) (Q : State → Prop) (pc : Nat) (H : Heap) (locs : List Loc) (lsA : Array Slot),
    s_C φ D cI cS cA L xs p R s m args meth c k A cells slots → (∀ i, i < 71 → A (φ i)) → k_fit k pc is = true → va_P D n_cl (s_ws φ cI cS cA μ) H → s_mo L xs μ → va_S A s.heap H locs → s_L φ lsA (m_mx k) ls → (∀ v ∈ st, s_ok v) → s_E l φ D cI cS cA L xs p e R s m args below meth c A cells slots Q k r μ' → W p l e R s m args below meth c H locs cells slots Q (F0 m pc lsA (st.map (s_v φ)))
theorem s_slots (φ : Nat → Nat) (as : List MVal) : (lg_sl (as.map (s_v φ))).length = m_ws as := by
  unfold lg_sl
  induction as with
  | nil => rfl
  | cons a r ih =>
    rw [List.map_cons, List.flatMap_cons, List.length_append, ih, s_cat]
    show _ = (if a.1 = 1 then 2 else 1) + m_ws r
    by_cases h : a.1 = 1 <;> simp [h]
theorem s_ent (φ : Nat → Nat) : ∀ (as : List MVal) (n j i : Nat), (m_l (m_en n as) i).1 ≠ 14 → (∃ a ∈ as, m_l (m_en n as) i = a) ∧ (j + i, s_v φ (m_l (m_en n as) i)) ∈ lv_args j (as.map (s_v φ))
  | [], n, j, i, h => by
    exfalso
    apply h
    unfold m_en
    have : ∀ (n i : Nat), m_l (List.replicate n ((14, 0) : MVal)) i = (14, 0) := by
      intro n
      induction n with
      | zero => intro i; rfl
      | succ n ih => intro i; cases i with
        | zero => rfl
        | succ i => exact ih i
    rw [this]
  | a :: r, n, j, i, h => by
    unfold m_en at h ⊢
    rw [List.map_cons]
    unfold lv_args
    rw [s_cat]
    by_cases h1 : a.1 = 1
    · rw [if_pos h1] at h ⊢
      cases i with
      | zero => exact ⟨⟨a, List.mem_cons_self, rfl⟩, List.mem_cons_self⟩
      | succ i =>
        cases i with
        | zero => exact absurd rfl h
        | succ i =>
          obtain ⟨⟨b, hb1, hb2⟩, h3⟩ := s_ent φ r (n - 2) (j + 2) i h
          refine ⟨⟨b, List.mem_cons_of_mem _ hb1, hb2⟩, List.mem_cons_of_mem _ ?_⟩
          rw [if_pos h1, if_pos rfl]
          rw [show j + (i + 1 + 1) = j + 2 + i by omega]
          exact h3
    · rw [if_neg h1] at h ⊢
      cases i with
      | zero => exact ⟨⟨a, List.mem_cons_self, rfl⟩, List.mem_cons_self⟩
      | succ i =>
        obtain ⟨⟨b, hb1, hb2⟩, h3⟩ := s_ent φ r (n - 1) (j + 1) i h
        refine ⟨⟨b, List.mem_cons_of_mem _ hb1, hb2⟩, List.mem_cons_of_mem _ ?_⟩
        rw [if_neg h1, if_neg (by decide)]
        rw [show j + (i + 1) = j + 1 + i by omega]
        exact h3
/-- a method's contract, out of its run in the small machine -/
theorem s_met (hφ : ∀ i j, i < 71 → j < 71 → φ i = φ j → i = j) (hfit : ∀ k t, m_bl k t ≠ [] → k_fit k (n_lb k t) (m_bl k t) = true) {f z : Nat} {as : List MVal} {μ μ1 : MMem} {r : MVal} (ih : s_G l φ D cI cS cA L xs f) (hr : m_ex f z (m_bl z 0) (m_en (m_mx z) as) [] μ = some (r, μ1)) (hw : m_ws as ≤ m_mx z) (has : ∀ v ∈ as, s_ok v) (hM : s_mo L xs μ) (hpl : plainName (n_y z).cls = true) (hlb : n_lb z 0 = 0) : s_Met l φ D cI cS cA L xs z as μ r μ1 := by
  refine Met.ofW (cc := n_c z) (maxL := m_mx z) (ret := n_r z) hpl rfl ?_
  intro p e s m args below meth c s₁ B hml hv
  obtain ⟨rfl, hP, hK⟩ := hv
  have hts0 := atoms_spec (ws := n_ws z) B.pre
  have hts : ∀ w ∈ n_tg, w.before (as.map (s_v φ)).toArray s = true := fun w hw => hts0 w (List.mem_cons_of_mem _ hw)
  have hown : s.vm.findClass (n_own z) = some m.cls := findClass_of_methodNamed B.named
  have hne : m_bl z 0 ≠ [] := by
    intro q
    rw [q] at hr
    cases f with
    | zero => simp [m_ex] at hr
    | succ f => simp [m_ex] at hr
  have hf := hfit z 0 hne
  rw [hlb] at hf
  have hl := lv_entry (as.map (s_v φ)) (n := m_mx z) (by rw [s_slots]; exact hw)
  rw [lg_entry_eq]
  generalize (lg_sl (as.map (s_v φ)) ++ List.replicate (m_mx z - (lg_sl (as.map (s_v φ))).length) Slot.unset).toArray = lsA at hl ⊢
  have hL : s_L φ lsA (m_mx z) (m_en (m_mx z) as) := by
    refine ⟨hl.1, hl.2.1, fun i hi => ?_⟩
    obtain ⟨⟨a, ha1, ha2⟩, h3⟩ := s_ent φ as (m_mx z) 0 i hi
    refine ⟨by rw [ha2]; exact has a ha1, ?_⟩
    rw [Nat.zero_add] at h3
    exact hl.2.2 _ h3
  have hA1 : ∀ i, i < 71 → s_A φ (φ i) := fun i hi => ⟨i, hi, rfl⟩
  refine ih z (m_bl z 0) (m_en (m_mx z) as) [] μ r μ1 hr p e _ s m _ below meth c (s_A φ) 0 0 _ 0 s.heap [] lsA ⟨B.exec, B.bytes, hml, hown, hts, B.returns, B.notSynchronized, Nat.le_refl _, Nat.le_refl _, Nat.zero_le _, Nat.zero_le _, hK⟩ hA1 hf hP hM va_S.rf hL (fun v hv => by cases hv) ?_
  intro H' locs' pc' lsB hP' hM' hS' hok hret
  have hlocks := B.notSynchronized
  rcases hret with ⟨h0, hd, hty⟩ | ⟨h1, hd, hty⟩ | ⟨h2, h3, hd, C, hty⟩ | ⟨h14, hd, hty⟩
  · have hrv : s_rv φ r = some (.int (Int32.ofInt r.2)) := by
      unfold s_rv s_v; rw [if_neg (by omega), if_pos h0]
    have hpost : ∀ t : State, t.heap = H' → s.WarmedH t.vm → s_Q φ D cI cS cA L xs r μ1 (as.map (s_v φ)).toArray s (.returned (some (.int (Int32.ofInt r.2)))) t := fun t ht _ => ⟨by rw [hrv], by rw [ht]; exact hP', hM', hok, hS'.F ht⟩
    rw [hrv]
    rcases hty with hty | ⟨hty, h01⟩
    · exact W.iret B.exec B.bytes (B.returns.trans hty) hpost hS'.2.2 hd
    · rcases hty with hty | hty
      · exact W.zret (ty := .boolean) B.exec B.bytes (B.returns.trans hty) (by rcases h01 with q | q <;> (rw [q]; decide +kernel)) hpost hS'.2.2 hd
      · exact W.zret (ty := .byte) B.exec B.bytes (B.returns.trans hty) (by rcases h01 with q | q <;> (rw [q]; decide +kernel)) hpost hS'.2.2 hd
  · have hrv : s_rv φ r = some (.long (Int64.ofInt r.2)) := by
      unfold s_rv s_v; rw [if_neg (by omega), if_neg (by omega), if_pos h1]
    rw [hrv]
    exact W.lret B.exec B.bytes (B.returns.trans hty) (fun t ht _ => ⟨by rw [hrv], by rw [ht]; exact hP', hM', hok, hS'.F ht⟩) hS'.2.2 hd
  · have hrv : s_rv φ r = some (s_v φ r) := by unfold s_rv; rw [if_neg (by omega)]
    rw [hrv]
    refine W.aret (rt := .object C) B.exec B.bytes (B.returns.trans hty) (Or.inl ⟨C, rfl⟩) ?_ (fun t ht _ => ⟨by rw [hrv], by rw [ht]; exact hP', hM', hok, hS'.F ht⟩) hS'.2.2 hd
    by_cases hneg : r.2 < 0
    · exact Or.inl (s_vn φ (t := r.1) (x := r.2) h2 hneg)
    · exact Or.inr ⟨_, s_vr φ (t := r.1) (x := r.2) h2 (by omega)⟩
  · have hrv : s_rv φ r = none := by unfold s_rv; rw [if_pos h14]
    rw [hrv]
    exact W.vret B.exec B.bytes (B.returns.trans hty) (fun t ht _ => ⟨by rw [hrv], by rw [ht]; exact hP', hM', hok, hS'.F ht⟩) hS'.2.2 hd
end SE
