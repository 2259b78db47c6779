theorem n_txtz : ∀ z, z < 198 → (n_y z).cls = "BrideDoors$Text" → z ∈ [21, 22, 23, 24] := by decide +kernel
theorem n_ylen : n_ys.length = 198 := by decide +kernel
theorem n_y_out {z : Nat} (h : 198 ≤ z) : n_y z = ⟨"", "", ""⟩ := by
  unfold n_y
  rw [List.getD_eq_getElem?_getD, List.getElem?_eq_none (by rw [n_ylen]; exact h)]
  rfl
def n_txtw (z ps ph pb : Nat) : Bool := n_at ps (.sameMethod "BrideDoors$Text" "BrideDoors$Text" (n_y z).name (n_y z).desc) && n_at ph (.selects "BrideDoors$HouseText" (n_y z) (n_y z)) && n_at pb (.selects "BrideDoors$BrideText" (n_y z) (n_y z))
theorem n_txt21 : n_txtw 21 278 280 279 = true := by decide +kernel
theorem n_txt22 : n_txtw 22 284 286 285 = true := by decide +kernel
theorem n_txt23 : n_txtw 23 404 406 405 = true := by decide +kernel
theorem n_txt24 : n_txtw 24 1255 1 0 = true := by decide +kernel
theorem n_txts {z : Nat} (h : (n_y z).cls = "BrideDoors$Text") : Cond.sameMethod "BrideDoors$Text" "BrideDoors$Text" (n_y z).name (n_y z).desc ∈ n_tg ∧ Cond.selects "BrideDoors$HouseText" (n_y z) (n_y z) ∈ n_tg ∧ Cond.selects "BrideDoors$BrideText" (n_y z) (n_y z) ∈ n_tg := by
  have hz : z < 198 := by
    by_cases q : z < 198
    · exact q
    · rw [n_y_out (by omega)] at h
      exact absurd h (by decide)
  have fin : ∀ ps ph pb, n_txtw z ps ph pb = true → _ := fun ps ph pb (q : n_txtw z ps ph pb = true) => by
    unfold n_txtw at q
    simp only [Bool.and_eq_true] at q
    exact (⟨n_in q.1.1, n_in q.1.2, n_in q.2⟩ : Cond.sameMethod "BrideDoors$Text" "BrideDoors$Text" (n_y z).name (n_y z).desc ∈ n_tg ∧ Cond.selects "BrideDoors$HouseText" (n_y z) (n_y z) ∈ n_tg ∧ Cond.selects "BrideDoors$BrideText" (n_y z) (n_y z) ∈ n_tg)
  have h1 := n_txtz z hz h
  simp only [List.mem_cons, List.not_mem_nil, or_false] at h1
  rcases h1 with rfl | rfl | rfl | rfl
  · exact fin _ _ _ n_txt21
  · exact fin _ _ _ n_txt22
  · exact fin _ _ _ n_txt23
  · exact fin _ _ _ n_txt24
theorem n_wac : n_at 723 (.native arraycopyName) = true ∧ n_at 722 (.static arraycopyName) = true ∧ n_at 86 (.initialized "java/lang/System") = true := by decide +kernel
theorem n_wmax : n_at 339 (.static Lib.Math.max.name) = true ∧ n_at 80 (.initialized "java/lang/Math") = true ∧ n_at 340 (.code Lib.Math.max.name Lib.Math.max.code 2 (some .int)) = true := by decide +kernel
theorem n_wmin : n_at 342 (.static Lib.Math.min.name) = true ∧ n_at 343 (.code Lib.Math.min.name Lib.Math.min.code 2 (some .int)) = true := by decide +kernel
theorem n_wval : n_at 306 (.selects "BrideDoors$HouseText" ⟨"BrideDoors$Text", "valueOf", "(II)I"⟩ ⟨"BrideDoors$HouseText", "valueOf", "(II)I"⟩) = true ∧ n_at 307 (.instanceMethod ⟨"BrideDoors$HouseText", "valueOf", "(II)I"⟩) = true ∧ n_at 298 (.selects "BrideDoors$BrideText" ⟨"BrideDoors$Text", "valueOf", "(II)I"⟩ ⟨"BrideDoors$BrideText", "valueOf", "(II)I"⟩) = true ∧ n_at 299 (.instanceMethod ⟨"BrideDoors$BrideText", "valueOf", "(II)I"⟩) = true ∧ n_at 297 (.sameMethod "BrideDoors$Text" "BrideDoors$Text" "valueOf" "(II)I") = true := by decide +kernel
section SF
variable {p : Program} {l : Launch} {e : Env} {R : Room} {s : State} {m : MethodId} {args : Array Value} {below : List Frame} {meth : Method} {c : Code} {H : Heap} {locs : List Loc} {cells slots : Nat} {Q : State → Prop}
variable {φ : Nat → Nat} {D : va_G} {cI cS cA : ClassId} {L : Nat} {xs : Nat → Int32} {A : Nat → Prop}
variable {k pc n op : Nat} {z : Int} {ls st : List MVal} {μ μ1 : MMem} {lsA : Array Slot} {r : MVal} {as rest : List MVal}
theorem s_ps (φ : Nat → Nat) (r : MVal) (st : List MVal) : (s_rv φ r).toList ++ st.map (s_v φ) = (m_ps r st).map (s_v φ) := by
  unfold s_rv m_ps
  by_cases h : r.1 = 14
  · rw [if_pos h, if_pos h]; rfl
  · rw [if_neg h, if_neg h]; rfl
theorem s_copy {a i b j nn : Int} {idx pl : Nat} (C0 : s_C φ D cI cS cA L xs p R s m args meth c k A cells slots) (hφ : ∀ i j, i < 71 → j < 71 → φ i = φ j → i = j) (hA : ∀ i, i < 71 → A (φ i)) (hP : va_P D n_cl (s_ws φ cI cS cA μ) H) (hM : s_mo L xs μ) (hS : va_S A s.heap H locs) (hsz : lsA.size = m_mx k)
    (hva : s_ok (2, a)) (hvb : s_ok (2, b)) (ri : s_R32 i) (rj : s_R32 j) (rn : s_R32 nn) (ha0 : 0 ≤ a) (hb0 : 0 ≤ b) (hi0 : 0 ≤ i) (hj0 : 0 ≤ j) (hn0 : 0 ≤ nn) (h1 : i + nn ≤ m_al a) (h2 : j + nn ≤ m_al b) (hw : m_ws rest ≤ 8)
    (hl : n_at pl (.methodLink (n_own k) idx ⟨"java/lang/System", "arraycopy", "(Ljava/lang/Object;ILjava/lang/Object;II)V"⟩) = true) (hf1 : 1 ≤ n_fr k) (hl60 : 60 ≤ n_lo k) (hd : decode (n_c k) pc = .ok (.invokestatic idx, 3))
    (kk : ∀ (H' : Heap) (locs' : List Loc), va_P D n_cl (s_ws φ cI cS cA (m_cp μ a i b j nn)) H' → s_mo L xs (m_cp μ a i b j nn) → va_S A s.heap H' locs' → W p l e R s m args below meth c H' locs' cells slots Q (F0 m (pc + 3) lsA (rest.map (s_v φ)))) :
    W p l e R s m args below meth c H locs cells slots Q (F0 m pc lsA (s_v φ (0, nn) :: s_v φ (0, j) :: s_v φ (2, b) :: s_v φ (0, i) :: s_v φ (2, a) :: rest.map (s_v φ))) := by
  obtain ⟨hx, hb, hml, hown, hts, hr, hlk, hfr, hlo, hcl, hsl, hK⟩ := C0
  obtain ⟨ia, ka, ea⟩ := s_okr hva ⟨by omega, by omega⟩ ha0
  obtain ⟨ib, kb, eb⟩ := s_okr hvb ⟨by omega, by omega⟩ hb0
  have ala := n_al a.toNat ia ka
  have alb := n_al b.toNat ib kb
  rw [ea] at ala
  rw [eb] at alb
  have nneg : ∀ {q : Int}, s_R32 q → 0 ≤ q → ¬ Int32.ofInt q < 0 := fun rq hq => by
    rw [s_z0, s_lt rq s_R0]; omega
  rw [s_vr φ (t := 2) (x := b) (by omega) hb0, s_vr φ (t := 2) (x := a) (by omega) ha0, s_v0, s_v0, s_v0]
  have hn8 : b ≠ 8 := by
    intro q
    rw [q] at kb
    exact absurd kb (by decide)
  have hM' : s_mo L xs (m_cp μ a i b j nn) := by
    obtain ⟨m1, m2, m3, m4⟩ := hM
    have hne : ∀ u, u ≠ b → m_cp μ a i b j nn u = μ u := fun u hu => by
      funext v
      unfold m_cp
      rw [if_neg (fun q => hu q.1)]
    refine ⟨fun u v => ?_, ?_, ?_, fun q hq => ?_⟩
    · unfold m_cp
      by_cases q : u = b ∧ j ≤ v ∧ v < j + nn
      · rw [if_pos q]; exact m1 _ _
      · rw [if_neg q]; exact m1 _ _
    · rw [hne 8 (fun q => hn8 q.symm)]; exact m2
    · rw [hne 202 (by omega)]; exact m3
    · rw [hne 202 (by omega)]; exact m4 q hq
  refine va_copyi (t0 := 0) (t1 := 0) (q0 := a.toNat) (q1 := b.toNat) (ty := .int) hx hb (by rw [hml, hsz]) hown (hts _ (n_in hl)) (hts _ (n_in n_wac.1)) (hts _ (n_in n_wac.2.1)) (hts _ (n_in n_wac.2.2)) hK.1 hP (s_ws_D hφ hA) hS (by rw [s_ws_at ia, s_ce2 ka]) (by rw [s_ws_at ib, s_ce2 kb]) rfl rfl rfl (nneg ri hi0) (nneg rj hj0) (nneg rn hn0) (by rw [s_clamp ri, s_clamp rn, ea]; omega) (by rw [s_clamp rj, s_clamp rn, eb]; omega) (fun q _ => rfl) (Nat.le_trans hf1 hfr) ?_ hd (fun H1 locs1 hP1 _ hS1 => kk H1 locs1 ?_ hM' hS1)
  · rw [s_sum]
    have : nativeFrameWords "java/lang/System" "arraycopy" 5 = 7 := by decide +kernel
    rw [this]
    omega
  · have hset := s_ws_set (φ := φ) (cI := cI) (cS := cS) (cA := cA) (μ := μ) (μ' := m_cp μ a i b j nn) (i := b.toNat) (E := .inl (cI, (m_al b.toNat).toNat, .inl (va_cpy (fun q : Nat => Int32.ofInt (μ a.toNat q)) (fun q : Nat => Int32.ofInt (μ b.toNat q)) (Int32.ofInt i).toNatClampNeg (Int32.ofInt j).toNatClampNeg (Int32.ofInt nn).toNatClampNeg))) ib ?_ (fun u _ hu => ?_)
    · rw [hset] at hP1
      exact hP1
    · rw [s_ce2 kb, s_clamp ri, s_clamp rj, s_clamp rn]
      have hfun : (fun q : Nat => Int32.ofInt (m_cp μ a i b j nn b.toNat q)) = va_cpy (fun q : Nat => Int32.ofInt (μ a.toNat q)) (fun q : Nat => Int32.ofInt (μ b.toNat q)) i.toNat j.toNat nn.toNat := by
        funext q
        unfold m_cp
        by_cases hq : j ≤ (q : Int) ∧ (q : Int) < j + nn
        · rw [if_pos ⟨eb, hq⟩, pk_cpy_in (by omega) (by omega)]
          rw [ea, show ((i.toNat + (q - j.toNat) : Nat) : Int) = i + ((q : Int) - j) by omega]
        · rw [if_neg (fun w => hq w.2), pk_cpy_out (by omega)]
      rw [hfun]
    · have hne : m_cp μ a i b j nn (u : Int) = μ (u : Int) := by
        funext v
        unfold m_cp
        rw [if_neg (fun q => hu (by omega))]
      unfold s_ce s_fv
      simp only [hne]
end SF
