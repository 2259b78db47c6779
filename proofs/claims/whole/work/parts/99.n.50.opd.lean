section SD2
variable {p : Program} {l : Launch} {e : Env} {R : Room} {s : State} {m : MethodId} {args : Array Value} {below : List Frame} {meth : Method} {c : Code} {H : Heap} {locs : List Loc} {cells slots : Nat} {Q : State → Prop}
variable {φ : Nat → Nat} {D : va_G} {cI cS cA : ClassId} {L : Nat} {xs : Nat → Int32} {A : Nat → Prop}
variable {k pc n op z : Nat} {nn : Int} {ls st : List MVal} {μ μ1 : MMem} {lsA : Array Slot} {r : MVal} {as rest : List MVal}
/-- what a method's walk may use -/
def s_C (φ : Nat → Nat) (D : va_G) (cI cS cA : ClassId) (L : Nat) (xs : Nat → Int32) (p : Program) (R : Room) (s : State) (m : MethodId) (args : Array Value) (meth : Method) (c : Code) (k : Nat) (A : Nat → Prop) (cells slots : Nat) : Prop :=
  p.tables.exec = Jvm.exec ∧ c.code = n_c k ∧ c.maxLocals = m_mx k ∧ s.vm.findClass (n_own k) = some m.cls ∧ (∀ w ∈ n_tg, w.before args s = true) ∧ meth.sig.returnType = n_r k ∧ meth.locks = false ∧ n_fr k ≤ R.frames ∧ n_lo k ≤ R.locals ∧ cells ≤ R.cells ∧ slots ≤ R.slots ∧ s_K φ D cI cS cA L xs A s s.heap
def s_Met (l : Launch) (φ : Nat → Nat) (D : va_G) (cI cS cA : ClassId) (L : Nat) (xs : Nat → Int32) (z : Nat) (as : List MVal) (μ : MMem) (r : MVal) (μ1 : MMem) : Prop :=
  Met l (n_y z) (n_ws z) (n_rm z) (s_P φ D cI cS cA L xs as μ) (s_Q φ D cI cS cA L xs r μ1) 0 0 (s_A φ)
theorem s_stk (φ : Nat → Nat) (as rest : List MVal) : (as.reverse ++ rest).map (s_v φ) = (as.map (s_v φ)).reverse ++ rest.map (s_v φ) := by
  rw [List.map_append, List.map_reverse]
theorem s_w8 (φ : Nat → Nat) {rest : List MVal} (h : m_ws rest ≤ 8) {pc : Nat} {lsA : Array Slot} {st0 : List Value} : 2 * (F0 m pc lsA st0).monitorRoom + ((rest.map (s_v φ)).map fun v => v.category).sum ≤ 8 := by
  rw [s_sum]
  show 2 * 0 + _ ≤ 8
  omega
theorem s_runS {idx pl nest : Nat} (C0 : s_C φ D cI cS cA L xs p R s m args meth c k A cells slots) (hA : ∀ i, i < 71 → A (φ i)) (hP : va_P D n_cl (s_ws φ cI cS cA μ) H) (hS : va_S A s.heap H locs) (hsz : lsA.size = m_mx k) (hM : s_Met l φ D cI cS cA L xs z as μ r μ1) (hcal : n_cal k z nn = true) (hlen : as.length = nn.toNat)
    (hst : n_at (n_pst.getD z 0) (.static (n_y z)) = true) (hl : (if nest = 0 then n_at pl (.methodLink (n_own k) idx (n_y z)) else n_nest k idx z) = true) (hw : m_ws rest ≤ 8) (hd : decode (n_c k) pc = .ok (.invokestatic idx, 3)) :
    va_Run p l e R s m args below meth c H locs cells slots 0 0 (F0 m pc lsA ((as.reverse ++ rest).map (s_v φ))) (rest.map (s_v φ)) (s_Q φ D cI cS cA L xs r μ1 (as.map (s_v φ)).toArray) (s_A φ) := by
  obtain ⟨hx, hb, hml, hown, hts, hr, hlk, hfr, hlo, hcl, hsl, hK⟩ := C0
  obtain ⟨c1, c2, c3, c4, c5, c6, c7, c8⟩ := n_cal_d hcal
  have hws : ∀ w ∈ n_ws z, w ∈ n_tg := fun w hw => (List.mem_cons.mp hw).elim (fun q => q ▸ c1) (fun q => q)
  have hR : (n_rm z).frames + 1 ≤ R.frames ∧ 8 + (m_mx z + 11) + (n_rm z).locals ≤ R.locals := ⟨Nat.le_trans c4 hfr, Nat.le_trans c5 hlo⟩
  have hpre : PreS s H (s_P φ D cI cS cA L xs as μ) (as.map (s_v φ)) := ⟨s_P_blind, fun U hU hW => s_pre hK hA hP hS U hU hW⟩
  have hn : (as.map (s_v φ)).length = nn.toNat := by rw [List.length_map]; exact hlen
  rw [s_stk]
  by_cases h0 : nest = 0
  · rw [if_pos h0] at hl
    have hG : GoodIn n_tg (va_wsS (n_own k) idx (n_y z) (n_ws z)) := n_good (fun w hw => by
      unfold va_wsS at hw
      simp only [List.cons_append, List.nil_append, List.mem_cons] at hw
      rcases hw with rfl | rfl | rfl | hw
      · exact n_in hl
      · exact n_in hst
      · exact c2
      · exact hws w hw)
    exact va_runS (nL := m_mx k) (Ts := n_tg) (own := n_own k) ⟨hx, hb, hml, hown, hts⟩ hM (va_cwS nn.toNat hts hG rfl rfl rfl ⟨c7, c8, c3.1⟩ hR) hpre rfl hn hsz rfl (s_w8 φ hw) hd ⟨hcl, hsl⟩
  · rw [if_neg h0] at hl
    have hnest : va_Nw (.methodLinkNest (n_own k) idx (n_y z) "BrideDoors") s := by
      unfold n_nest at hl
      have h1 := of_decide_eq_true hl
      simp only [List.mem_cons, List.not_mem_nil, or_false] at h1
      refine hK.2.2.2.2.2.2.2.2.2.1 _ ?_
      rcases h1 with h1 | h1 | h1 | h1 | h1 | h1 | h1 <;>
        (simp only [Prod.mk.injEq] at h1
         rw [h1.1, h1.2.1, h1.2.2]
         simp [n_nests])
    exact va_runSN (nL := m_mx k) (Ts := n_tg) (own := n_own k) ⟨hx, hb, hml, hown, hts⟩ hM ⟨va_cnB nn.toNat hts (n_good hws) rfl rfl rfl hnest (hts _ c2) ⟨c7, c8, c3.1⟩ hR, hts _ (n_in hst), trivial⟩ hpre rfl hn hsz rfl (s_w8 φ hw) hd ⟨hcl, hsl⟩
theorem s_runV {idx pl t : Nat} {id : Int} (C0 : s_C φ D cI cS cA L xs p R s m args meth c k A cells slots) (hA : ∀ i, i < 71 → A (φ i)) (hP : va_P D n_cl (s_ws φ cI cS cA μ) H) (hS : va_S A s.heap H locs) (hsz : lsA.size = m_mx k) (hM : s_Met l φ D cI cS cA L xs z ((t, id) :: as) μ r μ1) (hcal : n_cal k z nn = true) (hlen : as.length = nn.toNat)
    (hin : n_at (n_pin.getD z 0) (.instanceMethod (n_y z)) = true) (hse : n_at (n_pse.getD z 0) (.selects (n_y z).cls (n_y z) (n_y z)) = true) (hl : n_at pl (.methodLink (n_own k) idx (n_y z)) = true)
    (hrc : ∃ cellB : Cell, H[φ id.toNat]? = some cellB ∧ cellB.vm.isStatics = false ∧ s.vm.findClass (n_y z).cls = some cellB.cls) (ht : 2 ≤ t) (h0 : 0 ≤ id) (hw : m_ws rest ≤ 8) (hd : decode (n_c k) pc = .ok (.invokevirtual idx, 3)) :
    va_Run p l e R s m args below meth c H locs cells slots 0 0 (F0 m pc lsA ((as.reverse ++ (t, id) :: rest).map (s_v φ))) (rest.map (s_v φ)) (s_Q φ D cI cS cA L xs r μ1 (((t, id) :: as).map (s_v φ)).toArray) (s_A φ) := by
  obtain ⟨hx, hb, hml, hown, hts, hr, hlk, hfr, hlo, hcl, hsl, hK⟩ := C0
  obtain ⟨c1, c2, c3, c4, c5, c6, c7, c8⟩ := n_cal_d hcal
  have hws : ∀ w ∈ n_ws z, w ∈ n_tg := fun w hw => (List.mem_cons.mp hw).elim (fun q => q ▸ c1) (fun q => q)
  have hR : (n_rm z).frames + 1 ≤ R.frames ∧ 8 + (m_mx z + 11) + (n_rm z).locals ≤ R.locals := ⟨Nat.le_trans c4 hfr, Nat.le_trans c5 hlo⟩
  have hn : (as.map (s_v φ)).length = nn.toNat := by rw [List.length_map]; exact hlen
  have hv := s_vr φ (t := t) (x := id) ht h0
  have hpre : PreV s H (n_y z).cls (φ id.toNat) (s_P φ D cI cS cA L xs ((t, id) :: as) μ) (as.map (s_v φ)) := ⟨s_P_blind, hrc, fun U hU hW => by
    have := s_pre (as := (t, id) :: as) hK hA hP hS U hU hW
    rw [List.map_cons, hv] at this
    exact this⟩
  rw [s_stk, List.map_cons, List.map_cons, hv]
  have hG : GoodIn n_tg (wsV (n_own k) idx (n_y z).cls (n_y z) (n_ws z)) := n_good (fun w hw => by
    unfold wsV at hw
    simp only [List.cons_append, List.nil_append, List.mem_cons] at hw
    rcases hw with rfl | rfl | rfl | rfl | hw
    · exact n_in hl
    · exact n_in hin
    · exact n_in hse
    · exact c2
    · exact hws w hw)
  exact va_runV (nL := m_mx k) (Ts := n_tg) (own := n_own k) ⟨hx, hb, hml, hown, hts⟩ hM (cwV nn.toNat hts hG rfl rfl rfl ⟨rfl, c7, c8, c3.1⟩ hR) hpre rfl hn hsz rfl (s_w8 φ hw) hd ⟨hcl, hsl⟩
/-- inherited methods of the two texts -/
theorem s_runU {idx pl : Nat} {id : Int} {x : MethodName} (C0 : s_C φ D cI cS cA L xs p R s m args meth c k A cells slots) (hA : ∀ i, i < 71 → A (φ i)) (hP : va_P D n_cl (s_ws φ cI cS cA μ) H) (hS : va_S A s.heap H locs) (hsz : lsA.size = m_mx k) (hM : s_Met l φ D cI cS cA L xs z ((5, id) :: as) μ r μ1) (hcal : n_cal k z nn = true) (hlen : as.length = nn.toNat)
    (hin : Cond.instanceMethod (n_y z) ∈ n_tg) (hse : Cond.selects (if id = 6 then "BrideDoors$HouseText" else "BrideDoors$BrideText") x (n_y z) ∈ n_tg) (hl : n_at pl (.methodLink (n_own k) idx x) = true) (hsm : Cond.sameMethod x.cls "BrideDoors$Text" x.name x.desc ∈ n_tg)
    (hdc : va_Decl s ⟨"BrideDoors$Text", x.name, x.desc⟩) (hds : x.desc = (n_y z).desc) (hid : id = 6 ∨ id = 7) (hw : m_ws rest ≤ 8) (hd : decode (n_c k) pc = .ok (.invokevirtual idx, 3)) :
    va_Run p l e R s m args below meth c H locs cells slots 0 0 (F0 m pc lsA ((as.reverse ++ (5, id) :: rest).map (s_v φ))) (rest.map (s_v φ)) (s_Q φ D cI cS cA L xs r μ1 (((5, id) :: as).map (s_v φ)).toArray) (s_A φ) := by
  obtain ⟨hx, hb, hml, hown, hts, hr, hlk, hfr, hlo, hcl, hsl, hK⟩ := C0
  obtain ⟨c1, c2, c3, c4, c5, c6, c7, c8⟩ := n_cal_d hcal
  have hws : ∀ w ∈ n_ws z, w ∈ n_tg := fun w hw => (List.mem_cons.mp hw).elim (fun q => q ▸ c1) (fun q => q)
  have hR : (n_rm z).frames + 1 ≤ R.frames ∧ 8 + (m_mx z + 11) + (n_rm z).locals ≤ R.locals := ⟨Nat.le_trans c4 hfr, Nat.le_trans c5 hlo⟩
  have hn : (as.map (s_v φ)).length = nn.toNat := by rw [List.length_map]; exact hlen
  have h0 : 0 ≤ id := by omega
  have hv := s_vr φ (t := 5) (x := id) (by decide) h0
  have hpre : PreV s H (if id = 6 then "BrideDoors$HouseText" else "BrideDoors$BrideText") (φ id.toNat) (s_P φ D cI cS cA L xs ((5, id) :: as) μ) (as.map (s_v φ)) := ⟨s_P_blind, s_recvT hK.1 hP hid, fun U hU hW => by
    have := s_pre (as := (5, id) :: as) hK hA hP hS U hU hW
    rw [List.map_cons, hv] at this
    exact this⟩
  rw [s_stk, List.map_cons, List.map_cons, hv]
  have cw : va_CU R s args (n_own k) (if id = 6 then "BrideDoors$HouseText" else "BrideDoors$BrideText") "BrideDoors$Text" idx x (n_y z) (n_c z) (m_mx z) (n_r z) (n_ws z) (n_rm z) 0 0 nn.toNat := by
    refine ⟨⟨rfl, rfl, hR.1, hR.2, pay_in hts (n_good hws), List.mem_cons_self⟩, hts _ c1, hts _ c2, ⟨by decide, by decide⟩, fun sig h => ?_, hts _ (n_in hl), hts _ hsm, hdc, hts _ hse, hts _ hin⟩
    have h2 := c3.1
    rw [← hds, h] at h2
    exact (Option.some.inj h2).symm
  exact va_runU (nL := m_mx k) (Ts := n_tg) (own := n_own k) ⟨hx, hb, hml, hown, hts⟩ hM cw hpre rfl hn hsz rfl (s_w8 φ hw) hd ⟨hcl, hsl⟩
end SD2
