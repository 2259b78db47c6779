section SM
variable {l : Launch} {φ : Nat → Nat} {D : va_G} {cI cS cA : ClassId} {L : Nat} {xs : Nat → Int32}
theorem n_no197 : n_at (n_pcs.getD 197 0) (.code (n_y 197) (n_c 197) (m_mx 197) (n_r 197)) = false := by decide +kernel
theorem k_sd36 {k n : Nat} {z : Int} {ex : List Nat} (h : k_sd k (36, n, z, ex) = true) : ∃ idx pl nest, ex = [idx, pl, nest] ∧ n_cal k n z = true ∧ n_at (n_pst.getD n 0) (.static (n_y n)) = true ∧ (if nest = 0 then n_at pl (.methodLink (n_own k) idx (n_y n)) else n_nest k idx n) = true := by
  match ex, h with
  | [idx, pl, nest], h =>
    have h2 : (n_cal k n z && n_at (n_pst.getD n 0) (.static (n_y n)) && (if nest = 0 then n_at pl (.methodLink (n_own k) idx (n_y n)) else n_nest k idx n)) = true := h
    rw [Bool.and_eq_true, Bool.and_eq_true] at h2
    exact ⟨idx, pl, nest, rfl, h2.1.1, h2.1.2, h2.2⟩
theorem k_sd37 {k n : Nat} {z : Int} {ex : List Nat} (h : k_sd k (37, n, z, ex) = true) : ∃ idx pl t, ex = [idx, pl, t] ∧ n_cal k n z = true ∧ n_at (n_pin.getD n 0) (.instanceMethod (n_y n)) = true ∧ n_at (n_pse.getD n 0) (.selects (n_y n).cls (n_y n) (n_y n)) = true ∧ n_at pl (.methodLink (n_own k) idx (n_y n)) = true ∧ (n_y n).cls = n_C t ∧ 6 ≤ t ∧ t ≤ 10 := by
  match ex, h with
  | [idx, pl, t], h =>
    have h2 : (n_cal k n z && n_at (n_pin.getD n 0) (.instanceMethod (n_y n)) && n_at (n_pse.getD n 0) (.selects (n_y n).cls (n_y n) (n_y n)) && n_at pl (.methodLink (n_own k) idx (n_y n)) && decide ((n_y n).cls = n_C t) && decide (6 ≤ t) && decide (t ≤ 10)) = true := h
    simp only [Bool.and_eq_true, decide_eq_true_eq] at h2
    obtain ⟨⟨⟨⟨⟨⟨a1, a2⟩, a3⟩, a4⟩, a5⟩, a6⟩, a7⟩ := h2
    exact ⟨idx, pl, t, rfl, a1, a2, a3, a4, a5, a6, a7⟩
theorem k_sd38 {k n : Nat} {z : Int} {ex : List Nat} (h : k_sd k (38, n, z, ex) = true) : ∃ idx pl, ex = [idx, pl] ∧ n_cal k n z = true ∧ n_at pl (.methodLink (n_own k) idx (n_y n)) = true ∧ n_at (n_pin.getD n 0) (.instanceMethod (n_y n)) = true ∧ (n_y n).cls = "BrideDoors$Text" := by
  match ex, h with
  | [idx, pl], h =>
    have h2 : (n_cal k n z && n_txt k n idx pl (n_y n) && (n_tb.contains (.sameMethod "BrideDoors$Text" "BrideDoors$Text" (n_y n).name (n_y n).desc)) && (n_tb.contains (.selects "BrideDoors$BrideText" (n_y n) (n_y n))) && (n_tb.contains (.selects "BrideDoors$HouseText" (n_y n) (n_y n))) && decide ((n_y n).cls = "BrideDoors$Text")) = true := h
    simp only [n_txt, Bool.and_eq_true, decide_eq_true_eq] at h2
    obtain ⟨⟨⟨⟨⟨a1, ⟨⟨a2, a3⟩, a4⟩⟩, -⟩, -⟩, -⟩, a5⟩ := h2
    exact ⟨idx, pl, rfl, a1, a2, a3, a5⟩
theorem k_sd39 {k n : Nat} {z : Int} {ex : List Nat} (h : k_sd k (39, n, z, ex) = true) : ∃ idx pl h b, ex = [idx, pl, h, b] ∧ n_cal k h 2 = true ∧ n_cal k b 2 = true ∧ z = 2 ∧ n_at pl (.methodLink (n_own k) idx ⟨"BrideDoors$Text", "valueOf", "(II)I"⟩) = true ∧ n_y h = ⟨"BrideDoors$HouseText", "valueOf", "(II)I"⟩ ∧ n_y b = ⟨"BrideDoors$BrideText", "valueOf", "(II)I"⟩ := by
  match ex, h with
  | [idx, pl, hh, b], h =>
    have h2 : (n_cal k hh 2 && n_cal k b 2 && decide (z = 2) && n_at pl (.methodLink (n_own k) idx ⟨"BrideDoors$Text", "valueOf", "(II)I"⟩) && decide (n_y hh = ⟨"BrideDoors$HouseText", "valueOf", "(II)I"⟩) && decide (n_y b = ⟨"BrideDoors$BrideText", "valueOf", "(II)I"⟩)) = true := h
    simp only [Bool.and_eq_true, decide_eq_true_eq] at h2
    obtain ⟨⟨⟨⟨⟨a1, a2⟩, a3⟩, a4⟩, a5⟩, a6⟩ := h2
    exact ⟨idx, pl, hh, b, rfl, a1, a2, a3, a4, a5, a6⟩
theorem k_sd40 {k n : Nat} {z : Int} {ex : List Nat} (h : k_sd k (40, n, z, ex) = true) : ∃ idx pl, ex = [idx, pl] ∧ n_at pl (.methodLink (n_own k) idx ⟨"java/lang/System", "arraycopy", "(Ljava/lang/Object;ILjava/lang/Object;II)V"⟩) = true ∧ 1 ≤ n_fr k ∧ 60 ≤ n_lo k := by
  match ex, h with
  | [idx, pl], h =>
    have h2 : (n_at pl (.methodLink (n_own k) idx ⟨"java/lang/System", "arraycopy", "(Ljava/lang/Object;ILjava/lang/Object;II)V"⟩) && decide (1 ≤ n_fr k) && decide (60 ≤ n_lo k)) = true := h
    simp only [Bool.and_eq_true, decide_eq_true_eq] at h2
    exact ⟨idx, pl, rfl, h2.1.1, h2.1.2, h2.2⟩
theorem k_sd48 {k n : Nat} {z : Int} {ex : List Nat} (h : k_sd k (48, n, z, ex) = true) : ∃ idx pl, ex = [idx, pl] ∧ n_cal k n z = true ∧ n_at (n_pin.getD n 0) (.instanceMethod (n_y n)) = true ∧ n_at (n_pse.getD n 0) (.selects (n_y n).cls (n_y n) (n_y n)) = true ∧ n_at pl (.methodLink (n_own k) idx (n_y n)) = true ∧ (n_y n).cls = "java/lang/String" := by
  match ex, h with
  | [idx, pl], h =>
    have h2 : (n_cal k n z && n_at (n_pin.getD n 0) (.instanceMethod (n_y n)) && n_at (n_pse.getD n 0) (.selects (n_y n).cls (n_y n) (n_y n)) && n_at pl (.methodLink (n_own k) idx (n_y n)) && decide ((n_y n).cls = "java/lang/String")) = true := h
    simp only [Bool.and_eq_true, decide_eq_true_eq] at h2
    obtain ⟨⟨⟨⟨a1, a2⟩, a3⟩, a4⟩, a5⟩ := h2
    exact ⟨idx, pl, rfl, a1, a2, a3, a4, a5⟩
theorem k_sd50 {k n : Nat} {z : Int} {ex : List Nat} (h : k_sd k (50, n, z, ex) = true) : ∃ idx pl, ex = [idx, pl] ∧ n_at pl (.methodLink (n_own k) idx Lib.Math.max.name) = true ∧ 1 ≤ n_fr k ∧ 21 ≤ n_lo k := by
  match ex, h with
  | [idx, pl], h =>
    have h2 : (n_at pl (.methodLink (n_own k) idx Lib.Math.max.name) && decide (1 ≤ n_fr k) && decide (21 ≤ n_lo k)) = true := h
    simp only [Bool.and_eq_true, decide_eq_true_eq] at h2
    exact ⟨idx, pl, rfl, h2.1.1, h2.1.2, h2.2⟩
theorem k_sd51 {k n : Nat} {z : Int} {ex : List Nat} (h : k_sd k (51, n, z, ex) = true) : ∃ idx pl, ex = [idx, pl] ∧ n_at pl (.methodLink (n_own k) idx Lib.Math.min.name) = true ∧ 1 ≤ n_fr k ∧ 21 ≤ n_lo k := by
  match ex, h with
  | [idx, pl], h =>
    have h2 : (n_at pl (.methodLink (n_own k) idx Lib.Math.min.name) && decide (1 ≤ n_fr k) && decide (21 ≤ n_lo k)) = true := h
    simp only [Bool.and_eq_true, decide_eq_true_eq] at h2
    exact ⟨idx, pl, rfl, h2.1.1, h2.1.2, h2.2⟩
theorem s_ok_ps {r : MVal} {st : List MVal} (h : s_ok r) (hs : ∀ v ∈ st, s_ok v) : ∀ v ∈ m_ps r st, s_ok v := by
  intro v hv
  unfold m_ps at hv
  by_cases q : r.1 = 14
  · rw [if_pos q] at hv; exact hs v hv
  · rw [if_neg q] at hv; exact s_cons h hs v hv
/-- what an outcome means for the run -/
theorem m_ex_nx {f k : Nat} {i : MIns} {is : List MIns} {ls st ls' st' : List MVal} {μ μ' : MMem} {r : MRes} (h : m_ex (f + 1) k (i :: is) ls st μ = some r) (ho : m_op i ls st μ = some (0, 0, [], ls', st', μ')) : m_ex f k is ls' st' μ' = some r := by
  rw [m_ex, ho] at h
  exact h
theorem m_ex_ju {f k t : Nat} {i : MIns} {is : List MIns} {ls st ls' st' : List MVal} {μ μ' : MMem} {r : MRes} (h : m_ex (f + 1) k (i :: is) ls st μ = some r) (ho : m_op i ls st μ = some (1, t, [], ls', st', μ')) : m_ex f k (m_bl k t) ls' st' μ' = some r := by
  rw [m_ex, ho] at h
  exact h
theorem m_ex_ca {f k z : Nat} {i : MIns} {is : List MIns} {as ls st ls' st' : List MVal} {μ μ' : MMem} {r : MRes} (h : m_ex (f + 1) k (i :: is) ls st μ = some r) (ho : m_op i ls st μ = m_ca z as ls' st' μ') : m_ws st' ≤ 8 ∧ m_ws as ≤ m_mx z ∧ ∃ q : MRes, m_ex f z (m_bl z 0) (m_en (m_mx z) as) [] μ' = some q ∧ m_ex f k is ls' (m_ps q.1 st') q.2 = some r := by
  by_cases hw : m_ws st' ≤ 8
  · by_cases ha : m_ws as ≤ m_mx z
    · refine ⟨hw, ha, ?_⟩
      rw [m_ex, ho, m_ca, if_pos hw] at h
      have h2 : (if m_ws as ≤ m_mx z then (match m_ex f z (m_bl z 0) (m_en (m_mx z) as) [] μ' with
          | none => none
          | some r => m_ex f k is ls' (m_ps r.1 st') r.2) else none) = some r := h
      rw [if_pos ha] at h2
      cases hc : m_ex f z (m_bl z 0) (m_en (m_mx z) as) [] μ' with
      | none => rw [hc] at h2; cases h2
      | some q => rw [hc] at h2; exact ⟨q, rfl, h2⟩
    · rw [m_ex, ho, m_ca, if_pos hw] at h
      have h2 : (if m_ws as ≤ m_mx z then (match m_ex f z (m_bl z 0) (m_en (m_mx z) as) [] μ' with
          | none => none
          | some r => m_ex f k is ls' (m_ps r.1 st') r.2) else none) = some r := h
      rw [if_neg ha] at h2
      cases h2
  · rw [m_ex, ho, m_ca, if_neg hw] at h
    cases h
theorem m_ex_re {f k : Nat} {i : MIns} {is : List MIns} {ls st : List MVal} {μ μ' : MMem} {r : MRes} {v : MVal} (h : m_ex (f + 1) k (i :: is) ls st μ = some r) (ho : m_op i ls st μ = m_re v μ') : r = (v, μ') := by
  rw [m_ex, ho] at h
  exact (Option.some.inj h).symm
theorem m_ex_no {f k : Nat} {i : MIns} {is : List MIns} {ls st : List MVal} {μ : MMem} {r : MRes} (h : m_ex (f + 1) k (i :: is) ls st μ = some r) (ho : m_op i ls st μ = none) : False := by
  rw [m_ex, ho] at h
  cases h
theorem m_ex_ne {f k t : Nat} {ls st : List MVal} {μ : MMem} {r : MRes} (h : m_ex f k (m_bl k t) ls st μ = some r) : m_bl k t ≠ [] := by
  intro q
  rw [q] at h
  cases f with
  | zero => simp [m_ex] at h
  | succ f => simp [m_ex] at h
set_option maxHeartbeats 8000000 in
theorem s_main (hφ : ∀ i j, i < 71 → j < 71 → φ i = φ j → i = j) (hfit : ∀ k t, m_bl k t ≠ [] → k_fit k (n_lb k t) (m_bl k t) = true) (hlb : ∀ z, n_lb z 0 = 0 ∨ z = 197) (hLL : L < 2147483648) : ∀ f, s_G l φ D cI cS cA L xs f := by
  intro f
  induction f with
  | zero =>
    intro k is ls st μ r μ' h
    simp [m_ex] at h
  | succ f ih =>
    intro k is ls st μ r μ' h p e R s m args below meth c A cells slots Q pc H locs lsA C0 hA hf hP hM hS hL hs hE
    cases is with
    | nil => simp [m_ex] at h
    | cons i is =>
      obtain ⟨op, n, z, ex⟩ := i
      obtain ⟨hx, hb, hml, hown, hts, hrt, hlk, hfr, hlo, hcl, hsl, hK⟩ := id C0
      have metz : ∀ {zz : Nat} {as : List MVal} {μ0 : MMem} {q : MRes} {nn : Int}, n_cal k zz nn = true → m_ex f zz (m_bl zz 0) (m_en (m_mx zz) as) [] μ0 = some q → m_ws as ≤ m_mx zz → (∀ v ∈ as, s_ok v) → s_mo L xs μ0 → s_Met l φ D cI cS cA L xs zz as μ0 q.1 q.2 := by
        intro zz as μ0 q nn hcal hq hw has hM0
        refine s_met hφ hfit ih (by rw [hq]) hw has hM0 (n_cal_d hcal).2.2.2.2.2.1 ?_
        rcases hlb zz with q0 | q0
        · exact q0
        · exfalso
          subst q0
          unfold n_cal at hcal
          rw [n_no197] at hcal
          simp at hcal
      unfold k_fit at hf
      by_cases h24 : op = 24
      · subst h24
        rw [if_pos rfl] at hf
        have hpc : n_lb k n = pc := by simpa using hf
        have h2 := m_ex_ju h (t := n) (ls' := ls) (st' := st) (μ' := μ) rfl
        rw [← hpc]
        exact ih _ _ _ _ _ _ _ h2 _ _ _ _ _ _ _ _ _ _ _ _ _ _ _ _ _ C0 hA (hfit k n (m_ex_ne h2)) hP hM hS hL hs hE
      rw [if_neg h24] at hf
      by_cases h49 : op = 49
      · subst h49
        exact (m_ex_no h rfl).elim
      rw [if_neg h49] at hf
      rw [Bool.and_eq_true] at hf
      obtain ⟨hc, hf2⟩ := hf
      obtain ⟨hd, hsd⟩ := k_chk_d hc
      have go : k_end op = false → ∀ {pc2 : Nat}, pc2 = pc + (k_enc k pc (op, n, z, ex)).2 → k_fit k pc2 is = true := fun hke pc2 hq => by
        have hke2 : k_end (op, n, z, ex).1 = false := hke
        rw [hke2, Bool.false_or] at hf2
        rw [hq]
        exact hf2
      by_cases hA20 : op < 20
      · have ho : m_op (op, n, z, ex) ls st μ = m_opA op n z ls st μ := if_pos hA20
        cases hoo : m_opA op n z ls st μ with
        | none => exact (m_ex_no h (ho.trans hoo)).elim
        | some o =>
          refine s_opA hx hb hown hts hL hs hA20 hc hoo (fun ls' st' lsB eo hs' hL' => ?_)
          subst eo
          have h2 := m_ex_nx h (ho.trans hoo)
          refine ih _ _ _ _ _ _ _ h2 _ _ _ _ _ _ _ _ _ _ _ _ _ _ _ _ _ C0 hA (go ?_ rfl) hP hM hS hL' hs' hE
          unfold k_end
          simp only [Bool.or_eq_false_iff, beq_eq_false_iff_ne, Bool.and_eq_false_iff, decide_eq_false_iff_not]
          omega
      by_cases hB27 : op < 27
      · have ho : m_op (op, n, z, ex) ls st μ = m_opB op n z ex ls st μ := by
          unfold m_op
          rw [if_neg hA20, if_pos hB27]
        cases hoo : m_opB op n z ex ls st μ with
        | none => exact (m_ex_no h (ho.trans hoo)).elim
        | some o =>
          refine s_opB hx hb hL hs ⟨by omega, hB27, h24⟩ hc hoo (fun ls' st' lsB eo hs' hL' => ?_) (fun t st' eo hs' => ?_)
          · subst eo
            have h2 := m_ex_nx h (ho.trans hoo)
            refine ih _ _ _ _ _ _ _ h2 _ _ _ _ _ _ _ _ _ _ _ _ _ _ _ _ _ C0 hA (go ?_ rfl) hP hM hS hL' hs' hE
            have hno : op ≠ 23 ∧ op ≠ 25 ∧ op ≠ 26 := by
              refine ⟨fun q => ?_, fun q => ?_, fun q => ?_⟩
              · subst q
                simp [m_opB, m_ju] at hoo
              · subst q
                have hoo2 : (match st with | (0, x) :: st => m_ju (m_st z ex n x) ls st μ | _ => none) = some (0, 0, [], ls', st', μ) := hoo
                split at hoo2 <;> cases hoo2
              · subst q
                have hoo2 : (match st with | (0, x) :: st => m_ju (m_sl ex n x) ls st μ | _ => none) = some (0, 0, [], ls', st', μ) := hoo
                split at hoo2 <;> cases hoo2
            unfold k_end
            simp only [Bool.or_eq_false_iff, beq_eq_false_iff_ne, Bool.and_eq_false_iff, decide_eq_false_iff_not]
            omega
          · subst eo
            have h2 := m_ex_ju h (ho.trans hoo)
            exact ih _ _ _ _ _ _ _ h2 _ _ _ _ _ _ _ _ _ _ _ _ _ _ _ _ _ C0 hA (hfit k t (m_ex_ne h2)) hP hM hS hL hs' hE
      by_cases hC : op < 36 ∨ (45 ≤ op ∧ op < 48)
      · have ho : m_op (op, n, z, ex) ls st μ = m_opC op n z ex ls st μ := by
          unfold m_op
          rw [if_neg hA20, if_neg hB27, if_pos hC]
        cases hoo : m_opC op n z ex ls st μ with
        | none => exact (m_ex_no h (ho.trans hoo)).elim
        | some o =>
          refine s_opC hx hb hown hts hK hφ hA hP hM hS hLL hs (by omega) hc hoo (fun st' μ2 H' locs' eo hs' hP' hM' hS' => ?_)
          subst eo
          have h2 := m_ex_nx h (ho.trans hoo)
          refine ih _ _ _ _ _ _ _ h2 _ _ _ _ _ _ _ _ _ _ _ _ _ _ _ _ _ C0 hA (go ?_ rfl) hP' hM' hS' hL hs' hE
          unfold k_end
          simp only [Bool.or_eq_false_iff, beq_eq_false_iff_ne, Bool.and_eq_false_iff, decide_eq_false_iff_not]
          omega
      have ho : m_op (op, n, z, ex) ls st μ = m_opD op n z ex ls st μ := by
        unfold m_op
        rw [if_neg hA20, if_neg hB27, if_neg hC]
      have hgo : ¬ (41 ≤ op ∧ op ≤ 44) → k_fit k (pc + (k_enc k pc (op, n, z, ex)).2) is = true := fun hq => by
        refine go ?_ rfl
        unfold k_end
        simp only [Bool.or_eq_false_iff, beq_eq_false_iff_ne, Bool.and_eq_false_iff, decide_eq_false_iff_not]
        omega
      cases hoo : m_opD op n z ex ls st μ with
      | none => exact (m_ex_no h (ho.trans hoo)).elim
      | some o =>
        have hoo' := hoo
        have after : ∀ {q : MRes} {rest : List MVal} {pc2 : Nat}, pc2 = pc + 3 → (k_enc k pc (op, n, z, ex)).2 = 3 → ¬ (41 ≤ op ∧ op ≤ 44) → m_ex f k is ls (m_ps q.1 rest) q.2 = some (r, μ') → (∀ v ∈ rest, s_ok v) → ∀ (H1 : Heap) (locs1 : List Loc), va_P D n_cl (s_ws φ cI cS cA q.2) H1 → s_mo L xs q.2 → s_ok q.1 → va_S A s.heap H1 locs1 → W p l e R s m args below meth c H1 locs1 cells slots Q (F0 m pc2 lsA ((s_rv φ q.1).toList ++ rest.map (s_v φ))) := by
          intro q rest pc2 hpc2 hlen3 hop hq hsr H1 locs1 hP1 hM1 hok hS1
          rw [s_ps]
          refine ih _ _ _ _ _ _ _ hq _ _ _ _ _ _ _ _ _ _ _ _ _ _ _ _ _ C0 hA ?_ hP1 hM1 hS1 hL (s_ok_ps hok hsr) hE
          have := hgo hop
          rw [hlen3] at this
          rw [hpc2]
          exact this
        unfold m_opD at hoo
        split at hoo
        · split at hoo
          · rename_i as rest htk
            obtain ⟨est, hlen⟩ := m_tk_st htk
            have ho2 : m_op (36, n, z, ex) ls st μ = m_ca n as ls rest μ := ho.trans (by show (match m_tk z.toNat st [] with | some (as, st) => m_ca n as ls st μ | none => none) = _; rw [htk])
            obtain ⟨hw8, hwa, q, hq1, hq2⟩ := m_ex_ca h ho2
            subst est
            have hsa : ∀ v ∈ as, s_ok v := fun v hv => hs v (List.mem_append_left _ (List.mem_reverse.mpr hv))
            have hsr : ∀ v ∈ rest, s_ok v := fun v hv => hs v (List.mem_append_right _ hv)
            obtain ⟨idx, pl, nest, rfl, hcal, hst, hl⟩ := k_sd36 hsd
            exact s_call (s_runS C0 hA hP hS hL.1 (metz hcal hq1 hwa hsa hM) hcal hlen hst hl hw8 hd) hS hA (after rfl rfl (by omega) hq2 hsr)
          · cases hoo
        · split at hoo
          · rename_i nn j b i a rest
            split at hoo
            · rename_i hh
              cases hoo
              obtain ⟨⟨ha0, hb0, hi0, hj0, hn0, h1, h2⟩, hw8⟩ := hh
              have ho2 := ho.trans hoo'
              have h2' := m_ex_nx h ho2
              obtain ⟨idx, pl, rfl, hl, hf1, hl60⟩ := k_sd40 hsd
              have s1 := s_tl hs
              have s2 := s_tl s1
              have s3 := s_tl s2
              have s4 := s_tl s3
              exact s_copy C0 hφ hA hP hM hS hL.1 (s_hd s4) (s_hd s2) ((s_hd s3).1 rfl) ((s_hd s1).1 rfl) ((s_hd hs).1 rfl) ha0 hb0 hi0 hj0 hn0 h1 h2 hw8 hl hf1 hl60 hd (fun H' locs' hP' hM' hS' => ih _ _ _ _ _ _ _ h2' _ _ _ _ _ _ _ _ _ _ _ _ _ _ _ _ _ C0 hA (hgo (by omega)) hP' hM' hS' hL (s_tl s4) hE)
            · cases hoo
          · cases hoo
        · split at hoo
          · rename_i x
            split at hoo
            · rename_i hh
              cases hoo
              have hr2 := m_ex_re (v := (0, x)) (μ' := μ) h (ho.trans hoo')
              cases hr2
              refine hE H locs pc lsA hP hM hS (s_hd hs) (Or.inl ⟨rfl, hd, ?_⟩)
              have h1 : (if n = 0 then decide (n_r k = some .int) else decide (n_r k = some .boolean ∨ n_r k = some .byte)) = true := hsd
              by_cases hn : n = 0
              · rw [if_pos hn] at h1
                exact Or.inl (of_decide_eq_true h1)
              · rw [if_neg hn] at h1
                exact Or.inr ⟨of_decide_eq_true h1, hh.resolve_left hn⟩
            · cases hoo
          · cases hoo
        · split at hoo
          · rename_i x
            cases hoo
            have hr2 := m_ex_re (v := (1, x)) (μ' := μ) h (ho.trans hoo')
            cases hr2
            have h1 : decide (n_r k = some .long) = true := hsd
            exact hE H locs pc lsA hP hM hS (s_hd hs) (Or.inr (Or.inl ⟨rfl, hd, of_decide_eq_true h1⟩))
          · cases hoo
        · split at hoo
          · rename_i t x
            split at hoo
            · rename_i hh
              cases hoo
              have hr2 := m_ex_re (v := (t, x)) (μ' := μ) h (ho.trans hoo')
              cases hr2
              have hrv : (s_rv φ (t, x)).toList = [s_v φ (t, x)] := by
                unfold s_rv
                rw [if_neg (by show ¬ t = 14; omega)]
                rfl
              have h1 : (match n_r k with | some (.object _) => true | _ => false) = true := hsd
              have h2 := hE H locs pc lsA hP hM hS (s_hd hs) (Or.inr (Or.inr (Or.inl ⟨hh.1, hh.2, hd, by
                split at h1
                · rename_i C hC; exact ⟨C, hC⟩
                · cases h1⟩)))
              rw [hrv] at h2
              exact h2
            · cases hoo
          · cases hoo
        · split at hoo
          · cases hoo
            have hr2 := m_ex_re (v := (14, 0)) (μ' := μ) h (ho.trans hoo')
            cases hr2
            have h1 : decide (n_r k = none) = true := hsd
            have hok : s_ok (14, 0) := by simp [s_ok]
            exact hE H locs pc lsA hP hM hS hok (Or.inr (Or.inr (Or.inr ⟨rfl, hd, of_decide_eq_true h1⟩)))
          · cases hoo
        · split at hoo
          · rename_i y x rest
            split at hoo
            · rename_i hh
              cases hoo
              have h2' := m_ex_nx h (ho.trans hoo')
              obtain ⟨idx, pl, rfl, hl, hf1, hl21⟩ := k_sd50 hsd
              have ry := (s_hd hs).1 rfl
              have rx := (s_hd (s_tl hs)).1 rfl
              have ry' : s_R32 y := ry
              have rx' : s_R32 x := rx
              have hnew : s_ok (0, if x < y then y else x) := by
                by_cases q : x < y
                · rw [if_pos q]; exact s_ok0 ry'
                · rw [if_neg q]; exact s_ok0 rx'
              have hk := ih _ _ _ _ _ _ _ h2' _ e _ _ _ _ below _ _ _ _ _ Q _ _ _ _ C0 hA (hgo (by omega)) hP hM hS hL (s_cons hnew (s_tl (s_tl hs))) hE
              refine va_mmax (x := Int32.ofInt x) (y := Int32.ofInt y) hx hb (by rw [hml, hL.1]) hown (hts _ (n_in hl)) (hts _ (n_in n_wmax.1)) (hts _ (n_in n_wmax.2.1)) (hts _ (n_in n_wmax.2.2)) (Nat.le_trans hf1 hfr) (by rw [s_sum]; omega) hcl hsl hd ?_
              have hv : Value.int (if Int32.ofInt x < Int32.ofInt y then Int32.ofInt y else Int32.ofInt x) = s_v φ (0, if x < y then y else x) := by
                rw [s_v0]
                by_cases q : x < y
                · rw [if_pos ((s_lt rx' ry').mpr q), if_pos q]
                · rw [if_neg (fun w => q ((s_lt rx' ry').mp w)), if_neg q]
              rw [hv]
              exact hk
            · cases hoo
          · cases hoo
        · split at hoo
          · rename_i y x rest
            split at hoo
            · rename_i hh
              cases hoo
              have h2' := m_ex_nx h (ho.trans hoo')
              obtain ⟨idx, pl, rfl, hl, hf1, hl21⟩ := k_sd51 hsd
              have ry := (s_hd hs).1 rfl
              have rx := (s_hd (s_tl hs)).1 rfl
              have ry' : s_R32 y := ry
              have rx' : s_R32 x := rx
              have hnew : s_ok (0, if y < x then y else x) := by
                by_cases q : y < x
                · rw [if_pos q]; exact s_ok0 ry'
                · rw [if_neg q]; exact s_ok0 rx'
              have hk := ih _ _ _ _ _ _ _ h2' _ e _ _ _ _ below _ _ _ _ _ Q _ _ _ _ C0 hA (hgo (by omega)) hP hM hS hL (s_cons hnew (s_tl (s_tl hs))) hE
              refine va_mmin (x := Int32.ofInt x) (y := Int32.ofInt y) hx hb (by rw [hml, hL.1]) hown (hts _ (n_in hl)) (hts _ (n_in n_wmin.1)) (hts _ (n_in n_wmax.2.1)) (hts _ (n_in n_wmin.2)) (Nat.le_trans hf1 hfr) (by rw [s_sum]; omega) hcl hsl hd ?_
              have hv : Value.int (if Int32.ofInt y < Int32.ofInt x then Int32.ofInt y else Int32.ofInt x) = s_v φ (0, if y < x then y else x) := by
                rw [s_v0]
                by_cases q : y < x
                · rw [if_pos ((s_lt ry' rx').mpr q), if_pos q]
                · rw [if_neg (fun w => q ((s_lt ry' rx').mp w)), if_neg q]
              rw [hv]
              exact hk
            · cases hoo
          · cases hoo
        · split at hoo
          · rename_i as id rest a1 a2 hh bb htk
            obtain ⟨est, hlen⟩ := m_tk_st htk
            subst est
            have hsa : ∀ v ∈ as, s_ok v := fun v hv => hs v (List.mem_append_left _ (List.mem_reverse.mpr hv))
            have hs1 : ∀ v ∈ (5, id) :: rest, s_ok v := fun v hv => hs v (List.mem_append_right _ hv)
            obtain ⟨idx, pl, hh', bb', hex, hc1, hc2, hz2, hl, hyh, hyb⟩ := k_sd39 hsd
            cases hex
            have hdc : va_Decl s ⟨"BrideDoors$Text", "valueOf", "(II)I"⟩ := va_Decl.abs hK.2.2.2.2.2.2.2.2.2.2
            have hm : m_op (39, n, z, [a1, a2, hh, bb]) ls (as.reverse ++ (5, id) :: rest) μ = (if id = 6 then m_ca hh ((5, id) :: as) ls rest μ else if id = 7 then m_ca bb ((5, id) :: as) ls rest μ else none) := ho.trans (by
              show (match m_tk z.toNat (as.reverse ++ (5, id) :: rest) [], [a1, a2, hh, bb] with | some (as, (5, id) :: st), [_, _, h, b] => if id = 6 then m_ca h ((5, id) :: as) ls st μ else if id = 7 then m_ca b ((5, id) :: as) ls st μ else none | _, _ => none) = _
              rw [htk]
              rfl)
            by_cases h6 : id = 6
            · rw [if_pos h6] at hm
              obtain ⟨hw8, hwa, q, hq1, hq2⟩ := m_ex_ca h hm
              subst h6
              refine s_call (s_runU (x := ⟨"BrideDoors$Text", "valueOf", "(II)I"⟩) (nn := 2) C0 hA hP hS hL.1 (metz hc1 hq1 hwa (s_cons (s_hd hs1) hsa) hM) hc1 (by rw [hlen, hz2]) (by rw [hyh]; exact n_in n_wval.2.1) (by rw [hyh]; exact n_in n_wval.1) hl (n_in n_wval.2.2.2.2) hdc (by rw [hyh]) (Or.inl rfl) hw8 hd) hS hA (after rfl rfl (by omega) hq2 (s_tl hs1))
            · rw [if_neg h6] at hm
              by_cases h7 : id = 7
              · rw [if_pos h7] at hm
                obtain ⟨hw8, hwa, q, hq1, hq2⟩ := m_ex_ca h hm
                subst h7
                refine s_call (s_runU (x := ⟨"BrideDoors$Text", "valueOf", "(II)I"⟩) (nn := 2) C0 hA hP hS hL.1 (metz hc2 hq1 hwa (s_cons (s_hd hs1) hsa) hM) hc2 (by rw [hlen, hz2]) (by rw [hyb]; exact n_in n_wval.2.2.2.1) (by rw [hyb]; exact n_in n_wval.2.2.1) hl (n_in n_wval.2.2.2.2) hdc (by rw [hyb]) (Or.inr rfl) hw8 hd) hS hA (after rfl rfl (by omega) hq2 (s_tl hs1))
              · rw [if_neg h7] at hm
                exact (m_ex_no h hm).elim
          · cases hoo
        · split at hoo
          · rename_i as t id rest a1 a2 tg htk
            obtain ⟨est, hlen⟩ := m_tk_st htk
            subst est
            have hsa : ∀ v ∈ as, s_ok v := fun v hv => hs v (List.mem_append_left _ (List.mem_reverse.mpr hv))
            have hs1 : ∀ v ∈ (t, id) :: rest, s_ok v := fun v hv => hs v (List.mem_append_right _ hv)
            obtain ⟨idx, pl, tt, hex, hcal, hin, hse, hl, hcls, ht6, ht10⟩ := k_sd37 hsd
            cases hex
            have hm : m_op (37, n, z, [a1, a2, tg]) ls (as.reverse ++ (t, id) :: rest) μ = (if t = tg ∧ 0 ≤ id then m_ca n ((t, id) :: as) ls rest μ else none) := ho.trans (by
              show (match m_tk z.toNat (as.reverse ++ (t, id) :: rest) [], [a1, a2, tg] with | some (as, (t, id) :: st), [_, _, tg] => if t = tg ∧ 0 ≤ id then m_ca n ((t, id) :: as) ls st μ else none | _, _ => none) = _
              rw [htk])
            by_cases hh : t = tg ∧ 0 ≤ id
            · rw [if_pos hh] at hm
              obtain ⟨hw8, hwa, q, hq1, hq2⟩ := m_ex_ca h hm
              obtain ⟨rfl, h0⟩ := hh
              refine s_call (s_runV C0 hA hP hS hL.1 (metz hcal hq1 hwa (s_cons (s_hd hs1) hsa) hM) hcal hlen hin hse hl ?_ (by omega) h0 hw8 hd) hS hA (after rfl rfl (by omega) hq2 (s_tl hs1))
              rw [hcls]
              exact s_recv hK.1 hP (s_hd hs1) ⟨ht6, ht10⟩ h0
            · rw [if_neg hh] at hm
              exact (m_ex_no h hm).elim
          · cases hoo
        · split at hoo
          · rename_i as t id rest htk
            obtain ⟨est, hlen⟩ := m_tk_st htk
            subst est
            have hsa : ∀ v ∈ as, s_ok v := fun v hv => hs v (List.mem_append_left _ (List.mem_reverse.mpr hv))
            have hs1 : ∀ v ∈ (t, id) :: rest, s_ok v := fun v hv => hs v (List.mem_append_right _ hv)
            obtain ⟨idx, pl, rfl, hcal, hl, hin, hcls⟩ := k_sd38 hsd
            have hm : m_op (38, n, z, [idx, pl]) ls (as.reverse ++ (t, id) :: rest) μ = (if t = 5 ∧ 0 ≤ id then m_ca n ((t, id) :: as) ls rest μ else none) := ho.trans (by
              show (match m_tk z.toNat (as.reverse ++ (t, id) :: rest) [] with | some (as, (t, id) :: st) => if t = 5 ∧ 0 ≤ id then m_ca n ((t, id) :: as) ls st μ else none | _ => none) = _
              rw [htk])
            by_cases hh : t = 5 ∧ 0 ≤ id
            · rw [if_pos hh] at hm
              obtain ⟨hw8, hwa, q, hq1, hq2⟩ := m_ex_ca h hm
              obtain ⟨rfl, h0⟩ := hh
              have hid : id = 6 ∨ id = 7 := by
                obtain ⟨hi, hkd, hid⟩ := s_okr (s_hd hs1) ⟨by omega, by omega⟩ h0
                have : ∀ i, i < 71 → n_kd i = 5 → i = 6 ∨ i = 7 := by decide +kernel
                have := this id.toNat hi hkd
                omega
              obtain ⟨w1, w2, w3⟩ := n_txts hcls
              have hdc : va_Decl s ⟨"BrideDoors$Text", (n_y n).name, (n_y n).desc⟩ := by
                have hy : (⟨"BrideDoors$Text", (n_y n).name, (n_y n).desc⟩ : MethodName) = n_y n := by rw [← hcls]
                rw [hy]
                exact va_Decl.of (hts _ (n_in hin)) (hts _ (n_cal_d hcal).1)
              refine s_call (s_runU (x := n_y n) C0 hA hP hS hL.1 (metz hcal hq1 hwa (s_cons (s_hd hs1) hsa) hM) hcal hlen (n_in hin) ?_ hl (by rw [hcls]; exact w1) hdc rfl hid hw8 hd) hS hA (after rfl rfl (by omega) hq2 (s_tl hs1))
              rcases hid with rfl | rfl
              · exact w2
              · exact w3
            · rw [if_neg hh] at hm
              exact (m_ex_no h hm).elim
          · cases hoo
        · split at hoo
          · rename_i as t id rest htk
            obtain ⟨est, hlen⟩ := m_tk_st htk
            subst est
            have hsa : ∀ v ∈ as, s_ok v := fun v hv => hs v (List.mem_append_left _ (List.mem_reverse.mpr hv))
            have hs1 : ∀ v ∈ (t, id) :: rest, s_ok v := fun v hv => hs v (List.mem_append_right _ hv)
            obtain ⟨idx, pl, rfl, hcal, hin, hse, hl, hcls⟩ := k_sd48 hsd
            have hm : m_op (48, n, z, [idx, pl]) ls (as.reverse ++ (t, id) :: rest) μ = (if t = 12 ∧ id = 203 then m_ca n ((t, id) :: as) ls rest μ else none) := ho.trans (by
              show (match m_tk z.toNat (as.reverse ++ (t, id) :: rest) [] with | some (as, (t, id) :: st) => if t = 12 ∧ id = 203 then m_ca n ((t, id) :: as) ls st μ else none | _ => none) = _
              rw [htk])
            by_cases hh : t = 12 ∧ id = 203
            · rw [if_pos hh] at hm
              obtain ⟨hw8, hwa, q, hq1, hq2⟩ := m_ex_ca h hm
              obtain ⟨rfl, rfl⟩ := hh
              refine s_call (s_runV C0 hA hP hS hL.1 (metz hcal hq1 hwa (s_cons (s_hd hs1) hsa) hM) hcal hlen hin hse hl ?_ (by omega) (by omega) hw8 hd) hS hA (after rfl rfl (by omega) hq2 (s_tl hs1))
              rw [hcls]
              exact vk_recv hK.2.2.2.2.2.2.2.2.1 (i := 0) (by decide) hS
            · rw [if_neg hh] at hm
              exact (m_ex_no h hm).elim
          · cases hoo
        · cases hoo
end SM
