section SB
variable {p : Program} {l : Launch} {e : Env} {R : Room} {s : State} {m : MethodId} {args : Array Value} {below : List Frame} {meth : Method} {c : Code} {H : Heap} {locs : List Loc} {cells slots : Nat} {Q : State → Prop}
variable {φ : Nat → Nat} {k pc n op : Nat} {z : Int} {ex : List Nat} {ls st : List MVal} {μ : MMem} {lsA : Array Slot} {o : MOut}
theorem s_eq {x y : Int} (hx : s_R32 x) (hy : s_R32 y) : (Int32.ofInt x = Int32.ofInt y) ↔ x = y := by rw [← Int32.toInt_inj, s_toI hx, s_toI hy]
theorem s_lt {x y : Int} (hx : s_R32 x) (hy : s_R32 y) : (Int32.ofInt x < Int32.ofInt y) ↔ x < y := by rw [Int32.lt_iff_toInt_lt, s_toI hx, s_toI hy]
theorem s_le {x y : Int} (hx : s_R32 x) (hy : s_R32 y) : (Int32.ofInt x ≤ Int32.ofInt y) ↔ x ≤ y := by rw [Int32.le_iff_toInt_le, s_toI hx, s_toI hy]
theorem s_R0 : s_R32 0 := ⟨by decide, by decide⟩
theorem s_z0 : (0 : Int32) = Int32.ofInt 0 := rfl
theorem n_off_eq (k pc n : Nat) : (pc : Int) + n_off k pc n = (n_lb k n : Int) := by unfold n_off; omega
theorem s_icmp {x y : Int} (hx : p.tables.exec = Jvm.exec) (hb : c.code = n_c k) (rx : s_R32 x) (ry : s_R32 y) (hz : 0 ≤ z ∧ z < 6) (hd : decode (n_c k) pc = .ok (.if_icmp (n_cond z) (n_off k pc n), 3))
    (kt : m_cn z x y = true → W p l e R s m args below meth c H locs cells slots Q (F0 m (n_lb k n) lsA (st.map (s_v φ)))) (kf : ¬ m_cn z x y = true → W p l e R s m args below meth c H locs cells slots Q (F0 m (pc + 3) lsA (st.map (s_v φ)))) :
    W p l e R s m args below meth c H locs cells slots Q (F0 m pc lsA (s_v φ (0, y) :: s_v φ (0, x) :: st.map (s_v φ))) := by
  simp only [s_v0]
  have ho := n_off_eq k pc n
  have h6 : z = 0 ∨ z = 1 ∨ z = 2 ∨ z = 3 ∨ z = 4 ∨ z = 5 := by omega
  rcases h6 with rfl | rfl | rfl | rfl | rfl | rfl
  · rw [m_cn0, decide_eq_true_eq] at kt kf
    exact lv_icmp_eq hx hb hd ho (fun q => kt ((s_eq rx ry).mp q)) (fun q => kf (fun w => q ((s_eq rx ry).mpr w)))
  · rw [m_cn1, decide_eq_true_eq] at kt kf
    exact lv_icmp_ne hx hb hd ho (fun q => kt (fun w => q ((s_eq rx ry).mpr w))) (fun q => kf (fun w => w ((s_eq rx ry).mp q)))
  · rw [m_cn2, decide_eq_true_eq] at kt kf
    exact lv_icmp_lt hx hb hd ho (fun q => kt ((s_lt rx ry).mp q)) (fun q => kf (fun w => q ((s_lt rx ry).mpr w)))
  · rw [m_cn3, decide_eq_true_eq] at kt kf
    exact lv_icmp_ge hx hb hd ho (fun q => kt ((s_le ry rx).mp q)) (fun q => kf (fun w => q ((s_le ry rx).mpr w)))
  · rw [m_cn4, decide_eq_true_eq] at kt kf
    exact lv_icmp_gt hx hb hd ho (fun q => kt ((s_lt ry rx).mp q)) (fun q => kf (fun w => q ((s_lt ry rx).mpr w)))
  · rw [m_cn5, decide_eq_true_eq] at kt kf
    exact lv_icmp_le hx hb hd ho (fun q => kt ((s_le rx ry).mp q)) (fun q => kf (fun w => q ((s_le rx ry).mpr w)))
theorem s_if {x : Int} (hx : p.tables.exec = Jvm.exec) (hb : c.code = n_c k) (rx : s_R32 x) (hz : 0 ≤ z ∧ z < 6) (hd : decode (n_c k) pc = .ok (.ifCond (n_cond z) (n_off k pc n), 3))
    (kt : m_cn z x 0 = true → W p l e R s m args below meth c H locs cells slots Q (F0 m (n_lb k n) lsA (st.map (s_v φ)))) (kf : ¬ m_cn z x 0 = true → W p l e R s m args below meth c H locs cells slots Q (F0 m (pc + 3) lsA (st.map (s_v φ)))) :
    W p l e R s m args below meth c H locs cells slots Q (F0 m pc lsA (s_v φ (0, x) :: st.map (s_v φ))) := by
  simp only [s_v0]
  have ho := n_off_eq k pc n
  have ry := s_R0
  have h6 : z = 0 ∨ z = 1 ∨ z = 2 ∨ z = 3 ∨ z = 4 ∨ z = 5 := by omega
  rcases h6 with rfl | rfl | rfl | rfl | rfl | rfl
  · rw [m_cn0, decide_eq_true_eq] at kt kf
    exact lv_if_eq hx hb hd ho (fun q => kt ((s_eq rx ry).mp q)) (fun q => kf (fun w => q ((s_eq rx ry).mpr w)))
  · rw [m_cn1, decide_eq_true_eq] at kt kf
    exact lv_if_ne hx hb hd ho (fun q => kt (fun w => q ((s_eq rx ry).mpr w))) (fun q => kf (fun w => w ((s_eq rx ry).mp q)))
  · rw [m_cn2, decide_eq_true_eq] at kt kf
    exact lv_if_lt hx hb hd ho (fun q => kt ((s_lt rx ry).mp q)) (fun q => kf (fun w => q ((s_lt rx ry).mpr w)))
  · rw [m_cn3, decide_eq_true_eq] at kt kf
    exact lv_if_ge hx hb hd ho (fun q => kt ((s_le ry rx).mp q)) (fun q => kf (fun w => q ((s_le ry rx).mpr w)))
  · rw [m_cn4, decide_eq_true_eq] at kt kf
    exact lv_if_gt hx hb hd ho (fun q => kt ((s_lt ry rx).mp q)) (fun q => kf (fun w => q ((s_lt ry rx).mpr w)))
  · rw [m_cn5, decide_eq_true_eq] at kt kf
    exact lv_if_le hx hb hd ho (fun q => kt ((s_le rx ry).mp q)) (fun q => kf (fun w => q ((s_le rx ry).mpr w)))
theorem m_st_in : ∀ (ex : List Nat) (low x : Int) (d : Nat), low ≤ x → x < low + ex.length → ex[(x - low).toNat]? = some (m_st low ex d x)
  | [], low, x, d, h1, h2 => by simp at h2; omega
  | a :: r, low, x, d, h1, h2 => by
    unfold m_st
    by_cases h : x = low
    · rw [if_pos h]
      subst h
      simp
    · rw [if_neg h]
      have := m_st_in r (low + 1) x d (by omega) (by simp at h2; omega)
      rw [show (x - low).toNat = (x - (low + 1)).toNat + 1 by omega, List.getElem?_cons_succ]
      exact this
theorem m_st_out : ∀ (ex : List Nat) (low x : Int) (d : Nat), (x < low ∨ low + ex.length ≤ x) → m_st low ex d x = d
  | [], low, x, d, h => rfl
  | a :: r, low, x, d, h => by
    unfold m_st
    simp only [List.length_cons] at h
    rw [if_neg (by omega)]
    exact m_st_out r (low + 1) x d (by omega)
theorem m_sl_off : ∀ (ex : List Nat) (x : Int) (d : Nat), Op.lookupswitch.offset (n_prs k pc ex) (n_off k pc d) x = n_off k pc (m_sl ex d x)
  | [], x, d => rfl
  | [a], x, d => rfl
  | a :: b :: r, x, d => by
    unfold n_prs m_sl
    rw [Op.lookupswitch.offset_cons]
    by_cases h : x = (a : Int)
    · rw [if_pos h]
      subst h
      simp
    · rw [if_neg h, if_neg (fun q : (a : Int) = x => h q.symm), m_sl_off r x d]
theorem n_prs_key (k pc pc' : Nat) : ∀ ex : List Nat, (n_prs k pc ex).map Prod.fst = (n_prs k pc' ex).map Prod.fst
  | [] => rfl
  | [_] => rfl
  | a :: b :: r => by
    unfold n_prs
    rw [List.map_cons, List.map_cons, n_prs_key k pc pc' r]
theorem n_all_key (L : List (Int × Int)) : ((L.zip (L.drop 1)).all (fun (a, next) => decide (a.1 < next.1))) = ((L.map Prod.fst).zip ((L.map Prod.fst).drop 1)).all (fun q => decide (q.1 < q.2)) := by
  rw [← List.map_drop, List.zip_map, List.all_map]
  rfl
def s_kn (p : Program) (l : Launch) (e : Env) (R : Room) (s : State) (m : MethodId) (args : Array Value) (below : List Frame) (meth : Method) (c : Code) (H : Heap) (locs : List Loc) (cells slots : Nat) (Q : State → Prop) (φ : Nat → Nat) (lsA : Array Slot) (k : Nat) (ls : List MVal) (μ : MMem) (o : MOut) : Prop :=
  ∀ (t : Nat) (st' : List MVal), o = (1, t, [], ls, st', μ) → (∀ v ∈ st', s_ok v) → W p l e R s m args below meth c H locs cells slots Q (F0 m (n_lb k t) lsA (st'.map (s_v φ)))
set_option maxHeartbeats 4000000 in
theorem s_opB (hx : p.tables.exec = Jvm.exec) (hb : c.code = n_c k) (hL : s_L φ lsA (m_mx k) ls) (hs : ∀ v ∈ st, s_ok v) (hop : 20 ≤ op ∧ op < 27 ∧ op ≠ 24)
    (hc : k_chk k pc (op, n, z, ex) = true) (ho : m_opB op n z ex ls st μ = some o) (kk : s_kk p l e R s m args below meth c H locs cells slots Q φ k pc (op, n, z, ex) μ o) (kj : s_kn p l e R s m args below meth c H locs cells slots Q φ lsA k ls μ o) :
    W p l e R s m args below meth c H locs cells slots Q (F0 m pc lsA (st.map (s_v φ))) := by
  obtain ⟨hd, hsd⟩ := k_chk_d hc
  unfold m_opB at ho
  split at ho
  · split at ho
    · rename_i x st
      refine s_if (z := z) hx hb ((s_hd hs).1 rfl) (by simpa [k_sd] using hsd) hd (fun q => ?_) (fun q => ?_)
      · rw [if_pos q] at ho; cases ho; exact kj _ _ rfl (s_tl hs)
      · rw [if_neg q] at ho; cases ho; exact kk _ _ _ rfl (s_tl hs) hL
    · cases ho
  · split at ho
    · rename_i y x st
      refine s_icmp (z := z) hx hb ((s_hd (s_tl hs)).1 rfl) ((s_hd hs).1 rfl) (by simpa [k_sd] using hsd) hd (fun q => ?_) (fun q => ?_)
      · rw [if_pos q] at ho; cases ho; exact kj _ _ rfl (s_tl (s_tl hs))
      · rw [if_neg q] at ho; cases ho; exact kk _ _ _ rfl (s_tl (s_tl hs)) hL
    · cases ho
  · split at ho
    · rename_i t x st
      split at ho
      · rename_i ht
        have hz : z = 0 ∨ z = 1 := by simpa [k_sd] using hsd
        have hof := n_off_eq k pc n
        rw [List.map_cons]
        rcases hz with rfl | rfl
        · by_cases hn : x < 0
          · rw [if_pos (Or.inl ⟨rfl, hn⟩)] at ho
            cases ho
            rw [s_vn φ ht.1 hn]
            exact lv_ifnullN hx hb hd hof (kj _ _ rfl (s_tl hs))
          · rw [if_neg (fun q => q.elim (fun w => hn w.2) (fun w => by cases w.1))] at ho
            cases ho
            rw [s_vr φ ht.1 (by omega)]
            exact lv_ifnull hx hb hd (kk _ _ _ rfl (s_tl hs) hL)
        · by_cases hn : x < 0
          · rw [if_neg (fun q => q.elim (fun w => by cases w.1) (fun w => by omega))] at ho
            cases ho
            rw [s_vn φ ht.1 hn]
            exact lv_ifnonnullN hx hb hd (kk _ _ _ rfl (s_tl hs) hL)
          · rw [if_pos (Or.inr ⟨rfl, by omega⟩)] at ho
            cases ho
            rw [s_vr φ ht.1 (by omega)]
            exact lv_ifnonnull hx hb hd hof (kj _ _ rfl (s_tl hs))
      · cases ho
    · cases ho
  · cases ho
    exact lv_goto hx hb hd (n_off_eq k pc n) (kj _ _ rfl hs)
  · exact absurd rfl hop.2.2
  · split at ho
    · rename_i x st
      cases ho
      have hr := (s_hd hs).1 rfl
      have hk := kj _ _ rfl (s_tl hs)
      rw [List.map_cons, s_v0]
      have e : (Int32.ofInt x).toInt = x := s_toI hr
      by_cases hin : z ≤ x ∧ x < z + ex.length
      · refine lv_tableIn (off := n_off k pc (m_st z ex n x)) (tgt := n_lb k (m_st z ex n x)) hx hb hd (by rw [e]; omega) (by rw [e]; omega) ?_ (n_off_eq _ _ _) hk
        rw [e]
        have := m_st_in ex z x n hin.1 hin.2
        simp [this]
      · rw [m_st_out ex z x n (by omega)] at hk
        exact lv_tableOut hx hb hd (by rw [e]; omega) (n_off_eq _ _ _) hk
    · cases ho
  · rename_i h0 h1 h2 h3 h4 h5
    have e26 : op = 26 := by
      have : op ≠ 20 := fun q => h0 q
      have : op ≠ 21 := fun q => h1 q
      have : op ≠ 22 := fun q => h2 q
      have : op ≠ 23 := fun q => h3 q
      have : op ≠ 24 := fun q => h4 q
      have : op ≠ 25 := fun q => h5 q
      omega
    subst e26
    split at ho
    · rename_i x st
      cases ho
      have hr := (s_hd hs).1 rfl
      have hk := kj _ _ rfl (s_tl hs)
      rw [List.map_cons, s_v0]
      have e : (Int32.ofInt x).toInt = x := s_toI hr
      refine lv_lookup (off := n_off k pc (m_sl ex n x)) (tgt := n_lb k (m_sl ex n x)) hx hb hd ?_ ?_ (n_off_eq _ _ _) hk
      · have h1 : (((n_prs k 0 ex).zip ((n_prs k 0 ex).drop 1)).all (fun (a, next) => a.1 < next.1)) = true := hsd
        rw [n_all_key, n_prs_key k 0 pc, ← n_all_key] at h1
        exact h1
      · rw [e]
        exact m_sl_off ex x n
    · cases ho
end SB
