def s_A (φ : Nat → Nat) : Nat → Prop := fun q => ∃ i, i < 71 ∧ q = φ i
def s_rv (φ : Nat → Nat) (r : MVal) : Option Value := if r.1 = 14 then none else some (s_v φ r)
def s_Q (φ : Nat → Nat) (D : va_G) (cI cS cA : ClassId) (L : Nat) (xs : Nat → Int32) (r : MVal) (μ' : MMem) : Array Value → State → Outcome → State → Prop := fun _ st oc t => oc = .returned (s_rv φ r) ∧ va_P D n_cl (s_ws φ cI cS cA μ') t.heap ∧ s_mo L xs μ' ∧ s_ok r ∧ va_F (s_A φ) st t
def s_P (φ : Nat → Nat) (D : va_G) (cI cS cA : ClassId) (L : Nat) (xs : Nat → Int32) (as : List MVal) (μ : MMem) : Array Value → State → Prop := va_Pc (as.map (s_v φ)) (fun U => va_P D n_cl (s_ws φ cI cS cA μ) U.heap ∧ s_K φ D cI cS cA L xs (s_A φ) U U.heap)
def n_rm (z : Nat) : Room := { frames := n_fr z, cells := 0, slots := 0, locals := n_lo z }
def n_ws (z : Nat) : List Cond := .code (n_y z) (n_c z) (m_mx z) (n_r z) :: n_tg
theorem s_K.same {φ : Nat → Nat} {D : va_G} {cI cS cA : ClassId} {L : Nat} {xs : Nat → Int32} {A : Nat → Prop} {s U : State} {H : Heap} (h : s_K φ D cI cS cA L xs A s H) (hv : s.vm = U.vm) : s_K φ D cI cS cA L xs A U H := by
  obtain ⟨h1, h2, h3, h4, h5, h6, h7, h8, h9, h10, h11⟩ := h
  have ha : s.vm.Alike U.vm := hv ▸ Vm.Alike.refl _
  refine ⟨h1.moved ha, h2.moved ha, h3.moved ha, h4.moved ha, h5.moved ha, h6.moved ha, h7.moved ha, h8.same hv.symm, h9.moved ha, fun w hw => ?_, va_Nw.same rfl hv h11⟩
  have hw2 := hw
  simp only [n_nests, List.mem_cons, List.not_mem_nil, or_false] at hw2
  rcases hw2 with rfl | rfl | rfl | rfl | rfl | rfl | rfl <;> exact va_Nw.same rfl hv (h10 _ hw)
theorem s_P_blind {φ : Nat → Nat} {D : va_G} {cI cS cA : ClassId} {L : Nat} {xs : Nat → Int32} {as : List MVal} {μ : MMem} : FrameBlind (s_P φ D cI cS cA L xs as μ) := by
  intro a U g mk h
  exact ⟨h.1, h.2.1, h.2.2.same rfl⟩
theorem n_good {ws : List Cond} (h : ∀ w ∈ ws, w ∈ n_tg) : GoodIn n_tg ws := fun w hw => ⟨h w hw, good_of_word (List.mem_filter.mp (h w hw)).2⟩
theorem m_tk_spec : ∀ (n : Nat) (st acc as rest : List MVal), m_tk n st acc = some (as, rest) → ∃ pre, st = pre ++ rest ∧ as = pre.reverse ++ acc ∧ pre.length = n
  | 0, st, acc, as, rest, h => by
    simp only [m_tk, Option.some.injEq, Prod.mk.injEq] at h
    exact ⟨[], by simp [h.2], by simp [h.1], rfl⟩
  | n + 1, [], acc, as, rest, h => by cases h
  | n + 1, a :: st, acc, as, rest, h => by
    obtain ⟨pre, h1, h2, h3⟩ := m_tk_spec n st (a :: acc) as rest h
    exact ⟨a :: pre, by rw [h1]; rfl, by rw [h2]; simp, by simp [h3]⟩
theorem m_tk_st {n : Nat} {st as rest : List MVal} (h : m_tk n st [] = some (as, rest)) : st = as.reverse ++ rest ∧ as.length = n := by
  obtain ⟨pre, h1, h2, h3⟩ := m_tk_spec n st [] as rest h
  rw [List.append_nil] at h2
  subst h2
  exact ⟨by rw [List.reverse_reverse]; exact h1, by rw [List.length_reverse]; exact h3⟩
theorem n_objC : ∀ i, i < 71 → 6 ≤ n_kd i → (n_cl[n_ci i]?).map (fun q => q.1) = some (n_C (n_kd i)) := by
  intro i hi h6
  have h := n_objs i hi (by omega)
  simp only [List.mem_cons, List.not_mem_nil, or_false] at h
  rcases h with rfl | rfl | rfl | rfl | rfl | rfl | rfl | rfl | rfl | rfl | rfl | rfl | rfl | rfl
  · rfl
  · rfl
  · rfl
  · rfl
  · rfl
  · rfl
  · exact absurd h6 (by decide)
  · exact absurd h6 (by decide)
  · rfl
  · rfl
  · rfl
  · rfl
  · rfl
  · rfl
theorem n_cal_d {k z : Nat} {n : Int} (h : n_cal k z n = true) : Cond.code (n_y z) (n_c z) (m_mx z) (n_r z) ∈ n_tg ∧ Cond.initialized (n_y z).cls ∈ n_tg ∧ ((parseMethodDescriptor (n_y z).desc).map (fun d => d.parameters.length) = some n.toNat ∧ 0 ≤ n) ∧ n_fr z + 1 ≤ n_fr k ∧ 8 + (m_mx z + 11) + n_lo z ≤ n_lo k ∧ plainName (n_y z).cls = true ∧ (n_y z).cls ≠ "java/lang/invoke/MethodHandle" ∧ (n_y z).cls ≠ "java/lang/invoke/VarHandle" := by
  unfold n_cal n_np at h
  simp only [Bool.and_eq_true, decide_eq_true_eq] at h
  obtain ⟨⟨⟨⟨⟨⟨⟨h1, h2⟩, h3⟩, h4⟩, h5⟩, h6⟩, h7⟩, h8⟩ := h
  exact ⟨n_in h1, n_in h2, h3, h4, h5, h6, h7, h8⟩
section SD
variable {p : Program} {l : Launch} {e : Env} {R : Room} {s : State} {m : MethodId} {args : Array Value} {below : List Frame} {meth : Method} {c : Code} {H : Heap} {locs : List Loc} {cells slots : Nat} {Q : State → Prop}
variable {φ : Nat → Nat} {D : va_G} {cI cS cA : ClassId} {L : Nat} {xs : Nat → Int32} {A : Nat → Prop}
variable {k pc n op : Nat} {z : Int} {ex : List Nat} {ls st : List MVal} {μ μ1 : MMem} {lsA : Array Slot} {o : MOut} {r : MVal} {as rest : List MVal}
/-- behind a call -/
theorem s_call {st0 : List Value} {a : Array Value} {rs : List Value} (hr : va_Run p l e R s m args below meth c H locs cells slots 0 0 (F0 m pc lsA st0) rs (s_Q φ D cI cS cA L xs r μ1 a) (s_A φ)) (hS : va_S A s.heap H locs) (hA : ∀ i, i < 71 → A (φ i))
    (kk : ∀ (H1 : Heap) (locs1 : List Loc), va_P D n_cl (s_ws φ cI cS cA μ1) H1 → s_mo L xs μ1 → s_ok r → va_S A s.heap H1 locs1 → W p l e R s m args below meth c H1 locs1 cells slots Q (F0 m (pc + 3) lsA ((s_rv φ r).toList ++ rs))) :
    W p l e R s m args below meth c H locs cells slots Q (F0 m pc lsA st0) := by
  intro T hT X
  obtain ⟨v, st₀, t, T', L', h0, X', hL, e1, e2, ⟨hv, hp, hm, hok, hz, hk⟩, stp⟩ := hr T hT X
  have hv2 : v = s_rv φ r := Outcome.returned.inj hv
  subst hv2
  rw [h0] at hz hk
  have hAA : ∀ q, s_A φ q → A q := fun q hq => by
    obtain ⟨i, hi, rfl⟩ := hq
    exact hA i hi
  obtain ⟨t2, a1, b1⟩ := kk T'.heap (locs ++ L') (by rw [e1]; exact hp) hm hok
    ⟨Nat.le_trans hS.1 (by rw [e1]; exact hz), fun q h1 h2 => by rw [e1, hk q (Nat.lt_of_lt_of_le h1 hS.1) (fun w => h2 (hAA q w))]; exact hS.2.1 q h1 h2, fun q hq => by
      rcases List.mem_append.mp hq with h | h
      · exact hS.2.2 q h
      · exact hAA _ (hL q h)⟩ T' rfl X'
  exact ⟨t2, stp t2 a1, b1⟩
/-- what a callee's start asks -/
theorem s_pre (hK : s_K φ D cI cS cA L xs A s s.heap) (hA : ∀ i, i < 71 → A (φ i)) (hP : va_P D n_cl (s_ws φ cI cS cA μ) H) (hS : va_S A s.heap H locs) (U : State) (hU : U.heap = H) (hW : s.WarmedH U.vm) : s_P φ D cI cS cA L xs as μ (as.map (s_v φ)).toArray U := by
  refine ⟨rfl, by rw [hU]; exact hP, ?_⟩
  have h1 : s_K φ D cI cS cA L xs A U U.heap := hK.go hW (fun a h1 h2 => by rw [hU]; exact hS.2.1 a h1 h2)
  exact h1.narrow (fun q hq => by
    obtain ⟨i, hi, rfl⟩ := hq
    exact hA i hi)
theorem s_recv {t : Nat} {id : Int} (hK : va_K D n_cl (n_tys cI cS cA) s) (hP : va_P D n_cl (s_ws φ cI cS cA μ) H) (hv : s_ok (t, id)) (ht : 6 ≤ t ∧ t ≤ 10) (h0 : 0 ≤ id) : ∃ cellB : Cell, H[φ id.toNat]? = some cellB ∧ cellB.vm.isStatics = false ∧ s.vm.findClass (n_C t) = some cellB.cls := by
  obtain ⟨hi, hkd, hid⟩ := s_okr hv ⟨by omega, ht.2⟩ h0
  have hc := n_objC id.toNat hi (by omega)
  cases hq : n_cl[n_ci id.toNat]? with
  | none => rw [hq] at hc; cases hc
  | some q =>
    rw [hq] at hc
    have hq1 : q.1 = n_C t := by rw [← hkd]; exact Option.some.inj hc
    rw [← hq1]
    exact va_recv hK hP (q0 := id.toNat) (ci := n_ci id.toNat) hq (by rw [s_ws_at hi, s_ce5 (by omega)])
theorem s_recvT {id : Int} (hK : va_K D n_cl (n_tys cI cS cA) s) (hP : va_P D n_cl (s_ws φ cI cS cA μ) H) (h : id = 6 ∨ id = 7) : ∃ cellB : Cell, H[φ id.toNat]? = some cellB ∧ cellB.vm.isStatics = false ∧ s.vm.findClass (if id = 6 then "BrideDoors$HouseText" else "BrideDoors$BrideText") = some cellB.cls := by
  rcases h with rfl | rfl
  · exact va_recv hK hP (q0 := 6) (ci := 1) (q := (RX1, TX1, 4)) rfl (by rw [s_ws_at (by decide), s_ce5 (by decide)]; rfl)
  · exact va_recv hK hP (q0 := 7) (ci := 0) (q := (RX0, TX0, 4)) rfl (by rw [s_ws_at (by decide), s_ce5 (by decide)]; rfl)
end SD
