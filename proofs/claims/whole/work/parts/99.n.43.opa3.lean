section SA3
variable {p : Program} {l : Launch} {e : Env} {R : Room} {s : State} {m : MethodId} {args : Array Value} {below : List Frame} {meth : Method} {c : Code} {H : Heap} {locs : List Loc} {cells slots : Nat} {Q : State → Prop}
variable {φ : Nat → Nat} {k pc n op : Nat} {z : Int} {ex : List Nat} {ls st : List MVal} {μ : MMem} {lsA : Array Slot} {o : MOut}
theorem s_cons {v : MVal} {st : List MVal} (h : s_ok v) (hs : ∀ w ∈ st, s_ok w) : ∀ w ∈ v :: st, s_ok w := fun w hw => (List.mem_cons.mp hw).elim (fun q => q ▸ h) (hs w)
theorem s_hd {v : MVal} {st : List MVal} (hs : ∀ w ∈ v :: st, s_ok w) : s_ok v := hs v List.mem_cons_self
theorem s_tl {v : MVal} {st : List MVal} (hs : ∀ w ∈ v :: st, s_ok w) : ∀ w ∈ st, s_ok w := fun w hw => hs w (List.mem_cons_of_mem _ hw)
theorem s_ok_mi (n : Nat) (x y : Int) : s_ok (0, m_i n x y) := by unfold m_i; split <;> exact s_okI _
theorem s_ok_mid (n : Nat) (x y : Int) : s_ok (0, m_id n x y) := by unfold m_id; split <;> exact s_okI _
theorem s_ok_mlb (n : Nat) (x y : Int) : s_ok (1, m_lb n x y) := by unfold m_lb; split <;> exact s_okJ _
theorem s_ok_mld (n : Nat) (x y : Int) : s_ok (1, m_ld n x y) := by unfold m_ld; split <;> exact s_okJ _
theorem s_ok_mc (n : Nat) (x : Int) : s_ok (0, m_c n x) := by unfold m_c; split <;> exact s_okI _
theorem s_ok_cmp (x y : Int) : s_ok (0, m_cmp x y) := by
  refine s_ok0 ?_
  unfold m_cmp s_R32
  by_cases h : x < y
  · simp [h]
  · by_cases h2 : x = y <;> simp [h, h2]
def s_kk (p : Program) (l : Launch) (e : Env) (R : Room) (s : State) (m : MethodId) (args : Array Value) (below : List Frame) (meth : Method) (c : Code) (H : Heap) (locs : List Loc) (cells slots : Nat) (Q : State → Prop) (φ : Nat → Nat) (k pc : Nat) (i : MIns) (μ : MMem) (o : MOut) : Prop :=
  ∀ (ls' st' : List MVal) (lsB : Array Slot), o = (0, 0, [], ls', st', μ) → (∀ v ∈ st', s_ok v) → s_L φ lsB (m_mx k) ls' → W p l e R s m args below meth c H locs cells slots Q (F0 m (pc + (k_enc k pc i).2) lsB (st'.map (s_v φ)))
set_option maxHeartbeats 4000000 in
theorem s_opA (hx : p.tables.exec = Jvm.exec) (hb : c.code = n_c k) (hown : s.vm.findClass (n_own k) = some m.cls) (hts : ∀ w ∈ n_tg, w.before args s = true) (hL : s_L φ lsA (m_mx k) ls) (hs : ∀ v ∈ st, s_ok v) (hop : op < 20)
    (hc : k_chk k pc (op, n, z, ex) = true) (ho : m_opA op n z ls st μ = some o) (kk : s_kk p l e R s m args below meth c H locs cells slots Q φ k pc (op, n, z, ex) μ o) :
    W p l e R s m args below meth c H locs cells slots Q (F0 m pc lsA (st.map (s_v φ))) := by
  obtain ⟨hd, hsd⟩ := k_chk_d hc
  unfold m_opA at ho
  split at ho
  · cases ho
    refine s_cst hx hb hown hts hd hsd (kk _ _ _ rfl (s_cons (s_ok0 ?_) hs) hL)
    have hs2 : (n_s32 z && _) = true := hsd
    simp only [n_s32, Bool.and_eq_true, decide_eq_true_eq] at hs2
    exact hs2.1
  · cases ho
    refine s_cstl hx hb hown hts hd hsd (kk _ _ _ rfl (s_cons (s_ok1 ?_) hs) hL)
    have hs2 : (n_s64 z && _) = true := hsd
    simp only [n_s64, Bool.and_eq_true, decide_eq_true_eq] at hs2
    exact hs2.1
  · split at ho
    · rename_i h0
      cases ho
      exact s_load hx hb hL h0 hd (kk _ _ _ rfl (s_cons (hL.2.2 n (by rw [h0]; decide)).1 hs) hL)
    · cases ho
  · split at ho
    · rename_i h0
      cases ho
      exact s_loadl hx hb hL h0 hd (kk _ _ _ rfl (s_cons (hL.2.2 n (by rw [h0]; decide)).1 hs) hL)
    · cases ho
  · split at ho
    · rename_i h0
      cases ho
      exact s_loada hx hb hL h0 hd (kk _ _ _ rfl (s_cons (hL.2.2 n (by omega)).1 hs) hL)
    · cases ho
  · split at ho
    · cases ho
      refine s_sti hx hb hL (s_hd hs) (by simpa [k_sd] using hsd) hd (fun lsB hB => kk _ _ _ rfl (s_tl hs) hB)
    · cases ho
  · split at ho
    · cases ho
      refine s_stl hx hb hL (s_hd hs) (by simpa [k_sd] using hsd) hd (fun lsB hB => kk _ _ _ rfl (s_tl hs) hB)
    · cases ho
  · split at ho
    · split at ho
      · rename_i ht
        cases ho
        exact s_sta hx hb hL (s_hd hs) ht (by simpa [k_sd] using hsd) hd (fun lsB hB => kk _ _ _ rfl (s_tl hs) hB)
      · cases ho
    · cases ho
  · split at ho
    · rename_i x hl
      cases ho
      have h1 : n < m_mx k ∧ n_s32 z = true := by simpa [k_sd] using hsd
      have hlt : n ∈ (List.range (m_mx k)).filter (fun i => (m_l ls i).1 ≠ 14) := List.mem_filter.mpr ⟨List.mem_range.mpr h1.1, by rw [hl]; rfl⟩
      have hmem : (n, Value.int (Int32.ofInt x)) ∈ s_pr φ (m_mx k) ls := List.mem_map.mpr ⟨n, hlt, by rw [hl]; rfl⟩
      obtain ⟨q, hq⟩ := List.getElem?_of_mem hmem
      refine lv_iinc (v := Int32.ofInt (m_i 0 x z)) hx hb hd hL.has hq ?_ h1.1 rfl (fun lsB hB => kk _ _ _ rfl hs (hL.put (s_ok_mi 0 x z) (fun q => by cases q) hB h1.1))
      rw [show m_i 0 x z = (Int32.ofInt x + Int32.ofInt z).toInt from rfl, s_ofI]
    · cases ho
  · split at ho
    · cases ho
      exact s_bin hx hb hd (kk _ _ _ rfl (s_cons (s_ok_mi _ _ _) (s_tl (s_tl hs))) hL)
    · cases ho
  · split at ho
    · split at ho
      · rename_i hy
        cases ho
        exact s_div hx hb ((s_hd hs).1 rfl) hy hd (kk _ _ _ rfl (s_cons (s_ok_mid _ _ _) (s_tl (s_tl hs))) hL)
      · cases ho
    · cases ho
  · split at ho
    · cases ho
      exact s_binl hx hb hd (kk _ _ _ rfl (s_cons (s_ok_mlb _ _ _) (s_tl (s_tl hs))) hL)
    · cases ho
  · split at ho
    · split at ho
      · rename_i hy
        cases ho
        exact s_divl hx hb ((s_hd hs).2.1 rfl) hy hd (kk _ _ _ rfl (s_cons (s_ok_mld _ _ _) (s_tl (s_tl hs))) hL)
      · cases ho
    · cases ho
  · split at ho
    · rename_i y x st
      cases ho
      have k1 := kk _ _ _ rfl (s_cons (s_okJ _) (s_tl (s_tl hs))) hL
      refine lv_lshl hx hb hd rfl ?_
      simp only [List.map_cons, m_ls, s_vJ] at k1
      exact k1
    · cases ho
  · split at ho
    · cases ho
      exact s_conv hx hb hd (kk _ _ _ rfl (s_cons (s_ok_mc _ _) (s_tl hs)) hL)
    · cases ho
  · split at ho
    · rename_i x st
      cases ho
      have hr := (s_hd hs).1 rfl
      have hr' : s_R64 x := ⟨by have := hr.1; omega, by have := hr.2; omega⟩
      have k1 := kk _ _ _ rfl (s_cons (s_ok1 hr') (s_tl hs)) hL
      refine lv_i2l hx hb hd ?_ k1
      rw [← Int64.toInt_inj, Int32.toInt_toInt64, s_toI hr, s_toJ hr']
    · cases ho
  · split at ho
    · rename_i y x st
      cases ho
      have hy := (s_hd hs).2.1 rfl
      have hx2 := (s_hd (s_tl hs)).2.1 rfl
      have k1 := kk _ _ _ rfl (s_cons (s_ok_cmp x y) (s_tl (s_tl hs))) hL
      refine W.lcmp hx hb hd ?_
      rw [s_lcmp hx2 hy]
      exact k1
    · cases ho
  · split at ho
    · split at ho
      · rename_i t x st ht
        cases ho
        exact lv_dup hx hb hd (by rw [s_cat]; simp [ht]) (kk _ _ _ rfl (s_cons (s_hd hs) hs) hL)
      · cases ho
    · cases ho
  · split at ho
    · split at ho
      · rename_i t x st ht
        cases ho
        exact lv_pop hx hb hd (by rw [s_cat]; simp [ht]) (kk _ _ _ rfl (s_tl hs) hL)
      · cases ho
    · cases ho
  · rename_i h0 h1 h2 h3 h4 h5 h6 h7 h8 h9 h10 h11 h12 h13 h14 h15 h16 h17 h18
    have e19 : op = 19 := by
      have : op ≠ 0 := fun q => h0 q
      have : op ≠ 1 := fun q => h1 q
      have : op ≠ 2 := fun q => h2 q
      have : op ≠ 3 := fun q => h3 q
      have : op ≠ 4 := fun q => h4 q
      have : op ≠ 5 := fun q => h5 q
      have : op ≠ 6 := fun q => h6 q
      have : op ≠ 7 := fun q => h7 q
      have : op ≠ 8 := fun q => h8 q
      have : op ≠ 9 := fun q => h9 q
      have : op ≠ 10 := fun q => h10 q
      have : op ≠ 11 := fun q => h11 q
      have : op ≠ 12 := fun q => h12 q
      have : op ≠ 13 := fun q => h13 q
      have : op ≠ 14 := fun q => h14 q
      have : op ≠ 15 := fun q => h15 q
      have : op ≠ 16 := fun q => h16 q
      have : op ≠ 17 := fun q => h17 q
      have : op ≠ 18 := fun q => h18 q
      omega
    subst e19
    split at ho
    · split at ho
      · rename_i t x u y st ht
        cases ho
        exact lv_dup2_11 hx hb hd (by rw [s_cat]; simp [ht.1]) (by rw [s_cat]; simp [ht.2]) (kk _ _ _ rfl (s_cons (s_hd hs) (s_cons (s_hd (s_tl hs)) hs)) hL)
      · cases ho
    · cases ho
end SA3
