theorem rn_if {cd : Prop} [Decidable cd] {m : Nat} {i : MIns} {is : List MIns} {ls st ls' st' : List MVal} {μ μ' : MMem} {Q : MVal → MMem → Prop} (h : m_op i ls st μ = if cd then m_nx ls' st' μ' else none) : Rn m (i :: is) ls st μ Q = if cd then Rn m is ls' st' μ' Q else False := by
  by_cases hc : cd
  · rw [if_pos hc] at h ⊢
    exact rn_nx h
  · rw [if_neg hc] at h ⊢
    exact rn_none h
theorem rn_an {cd : Prop} [Decidable cd] {m : Nat} {i : MIns} {is : List MIns} {ls st ls' st' : List MVal} {μ μ' : MMem} {Q : MVal → MMem → Prop} (h : m_op i ls st μ = if cd then m_nx ls' st' μ' else none) : Rn m (i :: is) ls st μ Q = (cd ∧ Rn m is ls' st' μ' Q) := by
  rw [rn_if h]
  by_cases hc : cd
  · rw [if_pos hc]
    exact propext ⟨fun q => ⟨hc, q⟩, fun q => q.2⟩
  · rw [if_neg hc]
    exact propext ⟨False.elim, fun q => hc q.1⟩
theorem rn_br {cd : Prop} [Decidable cd] {m l : Nat} {i : MIns} {is : List MIns} {ls st ls' st' : List MVal} {μ μ' : MMem} {Q : MVal → MMem → Prop} (h : m_op i ls st μ = if cd then m_ju l ls' st' μ' else m_nx ls' st' μ') : Rn m (i :: is) ls st μ Q = if cd then At m l ls' st' μ' Q else Rn m is ls' st' μ' Q := by
  by_cases hc : cd
  · rw [if_pos hc] at h ⊢
    exact rn_ju h
  · rw [if_neg hc] at h ⊢
    exact rn_nx h
theorem rn_ifr {cd : Prop} [Decidable cd] {m : Nat} {i : MIns} {is : List MIns} {ls st : List MVal} {μ μ' : MMem} {r : MVal} {Q : MVal → MMem → Prop} (h : m_op i ls st μ = if cd then m_re r μ' else none) : Rn m (i :: is) ls st μ Q = if cd then Q r μ' else False := by
  by_cases hc : cd
  · rw [if_pos hc] at h ⊢
    exact rn_re h
  · rw [if_neg hc] at h ⊢
    exact rn_none h
theorem rn_ifc {cd : Prop} [Decidable cd] {m z : Nat} {i : MIns} {is : List MIns} {as ls st ls' st' : List MVal} {μ μ' : MMem} {Q : MVal → MMem → Prop} (h : m_op i ls st μ = if cd then m_ca z as ls' st' μ' else none) : Rn m (i :: is) ls st μ Q = if cd then (m_ws st' ≤ 8 ∧ Cal z as μ' (fun r ν => Rn m is ls' (m_ps r st') ν Q)) else False := by
  by_cases hc : cd
  · rw [if_pos hc] at h ⊢
    exact rn_ca h
  · rw [if_neg hc] at h ⊢
    exact rn_none h
theorem m_cn0 (x y : Int) : m_cn 0 x y = decide (x = y) := rfl
theorem m_cn1 (x y : Int) : m_cn 1 x y = decide (x ≠ y) := rfl
theorem m_cn2 (x y : Int) : m_cn 2 x y = decide (x < y) := rfl
theorem m_cn3 (x y : Int) : m_cn 3 x y = decide (y ≤ x) := rfl
theorem m_cn4 (x y : Int) : m_cn 4 x y = decide (y < x) := rfl
theorem m_cn5 (x y : Int) : m_cn 5 x y = decide (x ≤ y) := rfl
theorem r_0 {m : Nat} {is : List MIns} {ls : List MVal} {μ : MMem} {Q : MVal → MMem → Prop} {n : Nat} {st : List MVal} {c : Int} {e : List Nat}  : Rn m ((0, n, c, e) :: is) ls st μ Q = Rn m is ls ((0, c) :: st) μ Q := rn_nx rfl
theorem r_1 {m : Nat} {is : List MIns} {ls : List MVal} {μ : MMem} {Q : MVal → MMem → Prop} {n : Nat} {st : List MVal} {c : Int} {e : List Nat}  : Rn m ((1, n, c, e) :: is) ls st μ Q = Rn m is ls ((1, c) :: st) μ Q := rn_nx rfl
theorem r_2 {m : Nat} {is : List MIns} {ls : List MVal} {μ : MMem} {Q : MVal → MMem → Prop} {n : Nat} {st : List MVal} {c : Int} {e : List Nat}  : Rn m ((2, n, c, e) :: is) ls st μ Q = (if (m_l ls n).1 = 0 then Rn m is ls (m_l ls n :: st) μ Q else False) := rn_if rfl
theorem r_3 {m : Nat} {is : List MIns} {ls : List MVal} {μ : MMem} {Q : MVal → MMem → Prop} {n : Nat} {st : List MVal} {c : Int} {e : List Nat}  : Rn m ((3, n, c, e) :: is) ls st μ Q = (if (m_l ls n).1 = 1 then Rn m is ls (m_l ls n :: st) μ Q else False) := rn_if rfl
theorem r_4 {m : Nat} {is : List MIns} {ls : List MVal} {μ : MMem} {Q : MVal → MMem → Prop} {n : Nat} {st : List MVal} {c : Int} {e : List Nat}  : Rn m ((4, n, c, e) :: is) ls st μ Q = (if 2 ≤ (m_l ls n).1 ∧ (m_l ls n).1 ≤ 13 then Rn m is ls (m_l ls n :: st) μ Q else False) := rn_if rfl
theorem r_5 {m : Nat} {is : List MIns} {ls : List MVal} {μ : MMem} {Q : MVal → MMem → Prop} {n : Nat} {st : List MVal} {c : Int} {e : List Nat} {x : Int} : Rn m ((5, n, c, e) :: is) ls ((0, x) :: st) μ Q = Rn m is (m_lp ls n (0, x)) st μ Q := rn_nx rfl
theorem r_6 {m : Nat} {is : List MIns} {ls : List MVal} {μ : MMem} {Q : MVal → MMem → Prop} {n : Nat} {st : List MVal} {c : Int} {e : List Nat} {x : Int} : Rn m ((6, n, c, e) :: is) ls ((1, x) :: st) μ Q = Rn m is (m_lq ls n (1, x)) st μ Q := rn_nx rfl
theorem r_7 {m : Nat} {is : List MIns} {ls : List MVal} {μ : MMem} {Q : MVal → MMem → Prop} {n : Nat} {st : List MVal} {c : Int} {e : List Nat} {t : Nat} {x : Int} : Rn m ((7, n, c, e) :: is) ls ((t, x) :: st) μ Q = (if 2 ≤ t ∧ t ≤ 13 then Rn m is (m_lp ls n (t, x)) st μ Q else False) := rn_if rfl
theorem r_9 {m : Nat} {is : List MIns} {ls : List MVal} {μ : MMem} {Q : MVal → MMem → Prop} {n : Nat} {st : List MVal} {c : Int} {e : List Nat} {x y : Int} : Rn m ((9, n, c, e) :: is) ls ((0, y) :: (0, x) :: st) μ Q = Rn m is ls ((0, m_i n x y) :: st) μ Q := rn_nx rfl
theorem r_10 {m : Nat} {is : List MIns} {ls : List MVal} {μ : MMem} {Q : MVal → MMem → Prop} {n : Nat} {st : List MVal} {c : Int} {e : List Nat} {x y : Int} : Rn m ((10, n, c, e) :: is) ls ((0, y) :: (0, x) :: st) μ Q = (if y ≠ 0 then Rn m is ls ((0, m_id n x y) :: st) μ Q else False) := rn_if rfl
theorem r_11 {m : Nat} {is : List MIns} {ls : List MVal} {μ : MMem} {Q : MVal → MMem → Prop} {n : Nat} {st : List MVal} {c : Int} {e : List Nat} {x y : Int} : Rn m ((11, n, c, e) :: is) ls ((1, y) :: (1, x) :: st) μ Q = Rn m is ls ((1, m_lb n x y) :: st) μ Q := rn_nx rfl
theorem r_12 {m : Nat} {is : List MIns} {ls : List MVal} {μ : MMem} {Q : MVal → MMem → Prop} {n : Nat} {st : List MVal} {c : Int} {e : List Nat} {x y : Int} : Rn m ((12, n, c, e) :: is) ls ((1, y) :: (1, x) :: st) μ Q = (if y ≠ 0 then Rn m is ls ((1, m_ld n x y) :: st) μ Q else False) := rn_if rfl
theorem r_13 {m : Nat} {is : List MIns} {ls : List MVal} {μ : MMem} {Q : MVal → MMem → Prop} {n : Nat} {st : List MVal} {c : Int} {e : List Nat} {x y : Int} : Rn m ((13, n, c, e) :: is) ls ((0, y) :: (1, x) :: st) μ Q = Rn m is ls ((1, m_ls x y) :: st) μ Q := rn_nx rfl
theorem r_14 {m : Nat} {is : List MIns} {ls : List MVal} {μ : MMem} {Q : MVal → MMem → Prop} {n : Nat} {st : List MVal} {c : Int} {e : List Nat} {x : Int} : Rn m ((14, n, c, e) :: is) ls ((0, x) :: st) μ Q = Rn m is ls ((0, m_c n x) :: st) μ Q := rn_nx rfl
theorem r_15 {m : Nat} {is : List MIns} {ls : List MVal} {μ : MMem} {Q : MVal → MMem → Prop} {n : Nat} {st : List MVal} {c : Int} {e : List Nat} {x : Int} : Rn m ((15, n, c, e) :: is) ls ((0, x) :: st) μ Q = Rn m is ls ((1, x) :: st) μ Q := rn_nx rfl
theorem r_16 {m : Nat} {is : List MIns} {ls : List MVal} {μ : MMem} {Q : MVal → MMem → Prop} {n : Nat} {st : List MVal} {c : Int} {e : List Nat} {x y : Int} : Rn m ((16, n, c, e) :: is) ls ((1, y) :: (1, x) :: st) μ Q = Rn m is ls ((0, m_cmp x y) :: st) μ Q := rn_nx rfl
theorem r_17 {m : Nat} {is : List MIns} {ls : List MVal} {μ : MMem} {Q : MVal → MMem → Prop} {n : Nat} {st : List MVal} {c : Int} {e : List Nat} {t : Nat} {x : Int} : Rn m ((17, n, c, e) :: is) ls ((t, x) :: st) μ Q = (if t ≠ 1 then Rn m is ls ((t, x) :: (t, x) :: st) μ Q else False) := rn_if rfl
theorem r_18 {m : Nat} {is : List MIns} {ls : List MVal} {μ : MMem} {Q : MVal → MMem → Prop} {n : Nat} {st : List MVal} {c : Int} {e : List Nat} {t : Nat} {x : Int} : Rn m ((18, n, c, e) :: is) ls ((t, x) :: st) μ Q = (if t ≠ 1 then Rn m is ls st μ Q else False) := rn_if rfl
theorem r_19 {m : Nat} {is : List MIns} {ls : List MVal} {μ : MMem} {Q : MVal → MMem → Prop} {n : Nat} {st : List MVal} {c : Int} {e : List Nat} {t u : Nat} {x y : Int} : Rn m ((19, n, c, e) :: is) ls ((t, x) :: (u, y) :: st) μ Q = (if t ≠ 1 ∧ u ≠ 1 then Rn m is ls ((t, x) :: (u, y) :: (t, x) :: (u, y) :: st) μ Q else False) := rn_if rfl
theorem r_20_0 {m : Nat} {is : List MIns} {ls : List MVal} {μ : MMem} {Q : MVal → MMem → Prop} {n : Nat} {st : List MVal} {e : List Nat} {x : Int} : Rn m ((20, n, 0, e) :: is) ls ((0, x) :: st) μ Q = (if x = 0 then At m n ls st μ Q else Rn m is ls st μ Q) := by
  refine rn_br ?_
  show (if m_cn 0 _ _ = true then _ else _) = _
  rw [m_cn0]
  simp only [decide_eq_true_eq]
theorem r_21_0 {m : Nat} {is : List MIns} {ls : List MVal} {μ : MMem} {Q : MVal → MMem → Prop} {n : Nat} {st : List MVal} {e : List Nat} {x y : Int} : Rn m ((21, n, 0, e) :: is) ls ((0, y) :: (0, x) :: st) μ Q = (if x = y then At m n ls st μ Q else Rn m is ls st μ Q) := by
  refine rn_br ?_
  show (if m_cn 0 _ _ = true then _ else _) = _
  rw [m_cn0]
  simp only [decide_eq_true_eq]
theorem r_20_1 {m : Nat} {is : List MIns} {ls : List MVal} {μ : MMem} {Q : MVal → MMem → Prop} {n : Nat} {st : List MVal} {e : List Nat} {x : Int} : Rn m ((20, n, 1, e) :: is) ls ((0, x) :: st) μ Q = (if x ≠ 0 then At m n ls st μ Q else Rn m is ls st μ Q) := by
  refine rn_br ?_
  show (if m_cn 1 _ _ = true then _ else _) = _
  rw [m_cn1]
  simp only [decide_eq_true_eq]
theorem r_21_1 {m : Nat} {is : List MIns} {ls : List MVal} {μ : MMem} {Q : MVal → MMem → Prop} {n : Nat} {st : List MVal} {e : List Nat} {x y : Int} : Rn m ((21, n, 1, e) :: is) ls ((0, y) :: (0, x) :: st) μ Q = (if x ≠ y then At m n ls st μ Q else Rn m is ls st μ Q) := by
  refine rn_br ?_
  show (if m_cn 1 _ _ = true then _ else _) = _
  rw [m_cn1]
  simp only [decide_eq_true_eq]
theorem r_20_2 {m : Nat} {is : List MIns} {ls : List MVal} {μ : MMem} {Q : MVal → MMem → Prop} {n : Nat} {st : List MVal} {e : List Nat} {x : Int} : Rn m ((20, n, 2, e) :: is) ls ((0, x) :: st) μ Q = (if x < 0 then At m n ls st μ Q else Rn m is ls st μ Q) := by
  refine rn_br ?_
  show (if m_cn 2 _ _ = true then _ else _) = _
  rw [m_cn2]
  simp only [decide_eq_true_eq]
theorem r_21_2 {m : Nat} {is : List MIns} {ls : List MVal} {μ : MMem} {Q : MVal → MMem → Prop} {n : Nat} {st : List MVal} {e : List Nat} {x y : Int} : Rn m ((21, n, 2, e) :: is) ls ((0, y) :: (0, x) :: st) μ Q = (if x < y then At m n ls st μ Q else Rn m is ls st μ Q) := by
  refine rn_br ?_
  show (if m_cn 2 _ _ = true then _ else _) = _
  rw [m_cn2]
  simp only [decide_eq_true_eq]
theorem r_20_3 {m : Nat} {is : List MIns} {ls : List MVal} {μ : MMem} {Q : MVal → MMem → Prop} {n : Nat} {st : List MVal} {e : List Nat} {x : Int} : Rn m ((20, n, 3, e) :: is) ls ((0, x) :: st) μ Q = (if 0 ≤ x then At m n ls st μ Q else Rn m is ls st μ Q) := by
  refine rn_br ?_
  show (if m_cn 3 _ _ = true then _ else _) = _
  rw [m_cn3]
  simp only [decide_eq_true_eq]
theorem r_21_3 {m : Nat} {is : List MIns} {ls : List MVal} {μ : MMem} {Q : MVal → MMem → Prop} {n : Nat} {st : List MVal} {e : List Nat} {x y : Int} : Rn m ((21, n, 3, e) :: is) ls ((0, y) :: (0, x) :: st) μ Q = (if y ≤ x then At m n ls st μ Q else Rn m is ls st μ Q) := by
  refine rn_br ?_
  show (if m_cn 3 _ _ = true then _ else _) = _
  rw [m_cn3]
  simp only [decide_eq_true_eq]
theorem r_20_4 {m : Nat} {is : List MIns} {ls : List MVal} {μ : MMem} {Q : MVal → MMem → Prop} {n : Nat} {st : List MVal} {e : List Nat} {x : Int} : Rn m ((20, n, 4, e) :: is) ls ((0, x) :: st) μ Q = (if 0 < x then At m n ls st μ Q else Rn m is ls st μ Q) := by
  refine rn_br ?_
  show (if m_cn 4 _ _ = true then _ else _) = _
  rw [m_cn4]
  simp only [decide_eq_true_eq]
theorem r_21_4 {m : Nat} {is : List MIns} {ls : List MVal} {μ : MMem} {Q : MVal → MMem → Prop} {n : Nat} {st : List MVal} {e : List Nat} {x y : Int} : Rn m ((21, n, 4, e) :: is) ls ((0, y) :: (0, x) :: st) μ Q = (if y < x then At m n ls st μ Q else Rn m is ls st μ Q) := by
  refine rn_br ?_
  show (if m_cn 4 _ _ = true then _ else _) = _
  rw [m_cn4]
  simp only [decide_eq_true_eq]
theorem r_20_5 {m : Nat} {is : List MIns} {ls : List MVal} {μ : MMem} {Q : MVal → MMem → Prop} {n : Nat} {st : List MVal} {e : List Nat} {x : Int} : Rn m ((20, n, 5, e) :: is) ls ((0, x) :: st) μ Q = (if x ≤ 0 then At m n ls st μ Q else Rn m is ls st μ Q) := by
  refine rn_br ?_
  show (if m_cn 5 _ _ = true then _ else _) = _
  rw [m_cn5]
  simp only [decide_eq_true_eq]
theorem r_21_5 {m : Nat} {is : List MIns} {ls : List MVal} {μ : MMem} {Q : MVal → MMem → Prop} {n : Nat} {st : List MVal} {e : List Nat} {x y : Int} : Rn m ((21, n, 5, e) :: is) ls ((0, y) :: (0, x) :: st) μ Q = (if x ≤ y then At m n ls st μ Q else Rn m is ls st μ Q) := by
  refine rn_br ?_
  show (if m_cn 5 _ _ = true then _ else _) = _
  rw [m_cn5]
  simp only [decide_eq_true_eq]
theorem r_22_0 {m : Nat} {is : List MIns} {ls : List MVal} {μ : MMem} {Q : MVal → MMem → Prop} {n : Nat} {st : List MVal} {e : List Nat} {t : Nat} {x : Int} : Rn m ((22, n, 0, e) :: is) ls ((t, x) :: st) μ Q = (if 2 ≤ t ∧ t ≤ 13 then (if x < 0 then At m n ls st μ Q else Rn m is ls st μ Q) else False) := by
  show _ = _
  by_cases h : 2 ≤ t ∧ t ≤ 13
  · rw [if_pos h]
    refine rn_br ?_
    show (if 2 ≤ t ∧ t ≤ 13 then (if _ then _ else _) else _) = _
    rw [if_pos h]
    simp
  · rw [if_neg h]
    refine rn_none ?_
    show (if 2 ≤ t ∧ t ≤ 13 then _ else _) = _
    rw [if_neg h]
theorem r_22_1 {m : Nat} {is : List MIns} {ls : List MVal} {μ : MMem} {Q : MVal → MMem → Prop} {n : Nat} {st : List MVal} {e : List Nat} {t : Nat} {x : Int} : Rn m ((22, n, 1, e) :: is) ls ((t, x) :: st) μ Q = (if 2 ≤ t ∧ t ≤ 13 then (if 0 ≤ x then At m n ls st μ Q else Rn m is ls st μ Q) else False) := by
  show _ = _
  by_cases h : 2 ≤ t ∧ t ≤ 13
  · rw [if_pos h]
    refine rn_br ?_
    show (if 2 ≤ t ∧ t ≤ 13 then (if _ then _ else _) else _) = _
    rw [if_pos h]
    simp
  · rw [if_neg h]
    refine rn_none ?_
    show (if 2 ≤ t ∧ t ≤ 13 then _ else _) = _
    rw [if_neg h]
theorem r_23 {m : Nat} {is : List MIns} {ls : List MVal} {μ : MMem} {Q : MVal → MMem → Prop} {n : Nat} {st : List MVal} {c : Int} {e : List Nat}  : Rn m ((23, n, c, e) :: is) ls st μ Q = At m n ls st μ Q := rn_ju rfl
theorem r_24 {m : Nat} {is : List MIns} {ls : List MVal} {μ : MMem} {Q : MVal → MMem → Prop} {n : Nat} {st : List MVal} {c : Int} {e : List Nat}  : Rn m ((24, n, c, e) :: is) ls st μ Q = At m n ls st μ Q := rn_ju rfl
theorem r_25 {m : Nat} {is : List MIns} {ls : List MVal} {μ : MMem} {Q : MVal → MMem → Prop} {n : Nat} {st : List MVal} {c : Int} {e : List Nat} {x : Int} : Rn m ((25, n, c, e) :: is) ls ((0, x) :: st) μ Q = At m (m_st c e n x) ls st μ Q := rn_ju rfl
theorem r_26 {m : Nat} {is : List MIns} {ls : List MVal} {μ : MMem} {Q : MVal → MMem → Prop} {n : Nat} {st : List MVal} {c : Int} {e : List Nat} {x : Int} : Rn m ((26, n, c, e) :: is) ls ((0, x) :: st) μ Q = At m (m_sl e n x) ls st μ Q := rn_ju rfl
theorem r_27 {m : Nat} {is : List MIns} {ls : List MVal} {μ : MMem} {Q : MVal → MMem → Prop} {n : Nat} {st : List MVal} {c : Int} {t a b rt : Nat} {id : Int} : Rn m ((27, n, c, [a, t, rt, b]) :: is) ls ((t, id) :: st) μ Q = (if 0 ≤ id then Rn m is ls ((rt, μ id c) :: st) μ Q else False) := by
  refine rn_if ?_
  show (if _ = _ ∧ _ then _ else _) = _
  simp only [true_and]
theorem r_28 {m : Nat} {is : List MIns} {ls : List MVal} {μ : MMem} {Q : MVal → MMem → Prop} {n : Nat} {st : List MVal} {c : Int} {t a b rt : Nat} {id : Int} : Rn m ((28, n, c, [a, t, rt, b]) :: is) ls ((t, id) :: st) μ Q = (if 0 ≤ id then Rn m is ls ((rt, m_rf id c) :: st) μ Q else False) := by
  refine rn_if ?_
  show (if _ = _ ∧ _ then _ else _) = _
  simp only [true_and]
theorem r_29 {m : Nat} {is : List MIns} {ls : List MVal} {μ : MMem} {Q : MVal → MMem → Prop} {n : Nat} {st : List MVal} {c : Int} {u t a b vt : Nat} {v id : Int} : Rn m ((29, n, c, [a, t, vt, b]) :: is) ls ((u, v) :: (t, id) :: st) μ Q = (if 0 ≤ id ∧ ((u = vt ∧ vt ≠ 1) ∨ (u = 0 ∧ vt = 1 ∧ (v = 0 ∨ v = 1))) ∧ (u = 0 ∨ 0 ≤ v) then Rn m is ls st (m_w μ id c v) Q else False) := by
  refine rn_if ?_
  show (if _ = _ ∧ _ then _ else _) = _
  simp only [true_and]
theorem r_30_0 {m : Nat} {is : List MIns} {ls : List MVal} {μ : MMem} {Q : MVal → MMem → Prop} {st : List MVal} {c : Int} {e : List Nat}  : Rn m ((30, 0, c, e) :: is) ls st μ Q = Rn m is ls ((11, 200) :: st) μ Q := rn_nx rfl
theorem r_30_1 {m : Nat} {is : List MIns} {ls : List MVal} {μ : MMem} {Q : MVal → MMem → Prop} {st : List MVal} {c : Int} {e : List Nat}  : Rn m ((30, 1, c, e) :: is) ls st μ Q = Rn m is ls ((11, 201) :: st) μ Q := rn_nx rfl
theorem r_30_2 {m : Nat} {is : List MIns} {ls : List MVal} {μ : MMem} {Q : MVal → MMem → Prop} {st : List MVal} {c : Int} {e : List Nat}  : Rn m ((30, 2, c, e) :: is) ls st μ Q = Rn m is ls ((0, 1) :: st) μ Q := rn_nx rfl
theorem r_31 {m : Nat} {is : List MIns} {ls : List MVal} {μ : MMem} {Q : MVal → MMem → Prop} {n : Nat} {st : List MVal} {c : Int} {e : List Nat} {j id : Int} : Rn m ((31, n, c, e) :: is) ls ((0, j) :: (2, id) :: st) μ Q = ((0 ≤ id ∧ 0 ≤ j ∧ j < m_al id) ∧ Rn m is ls ((0, μ id j) :: st) μ Q) := rn_an rfl
theorem r_31b {m : Nat} {is : List MIns} {ls : List MVal} {μ : MMem} {Q : MVal → MMem → Prop} {n : Nat} {st : List MVal} {c : Int} {e : List Nat} {j id : Int} : Rn m ((31, n, c, e) :: is) ls ((0, j) :: (11, id) :: st) μ Q = ((0 ≤ id ∧ 0 ≤ j ∧ j < m_ol μ id) ∧ Rn m is ls ((0, m_oc μ id j) :: st) μ Q) := rn_an rfl
theorem r_32 {m : Nat} {is : List MIns} {ls : List MVal} {μ : MMem} {Q : MVal → MMem → Prop} {n : Nat} {st : List MVal} {c : Int} {e : List Nat} {v j id : Int} : Rn m ((32, n, c, e) :: is) ls ((0, v) :: (0, j) :: (2, id) :: st) μ Q = ((0 ≤ id ∧ 0 ≤ j ∧ j < m_al id) ∧ Rn m is ls st (m_w μ id j v) Q) := rn_an rfl
theorem r_33 {m : Nat} {is : List MIns} {ls : List MVal} {μ : MMem} {Q : MVal → MMem → Prop} {n : Nat} {st : List MVal} {c : Int} {e : List Nat} {id : Int} : Rn m ((33, n, c, e) :: is) ls ((2, id) :: st) μ Q = (if 0 ≤ id then Rn m is ls ((0, m_al id) :: st) μ Q else False) := rn_if rfl
theorem r_33b {m : Nat} {is : List MIns} {ls : List MVal} {μ : MMem} {Q : MVal → MMem → Prop} {n : Nat} {st : List MVal} {c : Int} {e : List Nat} {id : Int} : Rn m ((33, n, c, e) :: is) ls ((11, id) :: st) μ Q = (if 0 ≤ id then Rn m is ls ((0, m_ol μ id) :: st) μ Q else False) := rn_if rfl
theorem r_33c {m : Nat} {is : List MIns} {ls : List MVal} {μ : MMem} {Q : MVal → MMem → Prop} {n : Nat} {st : List MVal} {c : Int} {e : List Nat} {id : Int} : Rn m ((33, n, c, e) :: is) ls ((13, id) :: st) μ Q = (if 0 ≤ id then Rn m is ls ((0, 3) :: st) μ Q else False) := rn_if rfl
theorem r_34 {m : Nat} {is : List MIns} {ls : List MVal} {μ : MMem} {Q : MVal → MMem → Prop} {n : Nat} {st : List MVal} {c : Int} {e : List Nat} {j id : Int} : Rn m ((34, n, c, e) :: is) ls ((0, j) :: (3, id) :: st) μ Q = ((0 ≤ id ∧ 0 ≤ j ∧ j < m_rl id) ∧ Rn m is ls ((2, m_rf id j) :: st) μ Q) := rn_an rfl
theorem r_34b {m : Nat} {is : List MIns} {ls : List MVal} {μ : MMem} {Q : MVal → MMem → Prop} {n : Nat} {st : List MVal} {c : Int} {e : List Nat} {j id : Int} : Rn m ((34, n, c, e) :: is) ls ((0, j) :: (4, id) :: st) μ Q = ((0 ≤ id ∧ 0 ≤ j ∧ j < m_rl id) ∧ Rn m is ls ((6, m_rf id j) :: st) μ Q) := rn_an rfl
theorem r_35 {m : Nat} {is : List MIns} {ls : List MVal} {μ : MMem} {Q : MVal → MMem → Prop} {n : Nat} {st : List MVal} {c : Int} {e : List Nat} {j id : Int} : Rn m ((35, n, c, e) :: is) ls ((0, j) :: (13, id) :: st) μ Q = ((0 ≤ id ∧ 0 ≤ j ∧ j < 3) ∧ Rn m is ls ((0, m_bc j) :: st) μ Q) := rn_an rfl
theorem r_45 {m : Nat} {is : List MIns} {ls : List MVal} {μ : MMem} {Q : MVal → MMem → Prop} {n : Nat} {st : List MVal} {c : Int} {e : List Nat}  : Rn m ((45, n, c, e) :: is) ls st μ Q = Rn m is ls ((5, -1) :: st) μ Q := rn_nx rfl
theorem r_46 {m : Nat} {is : List MIns} {ls : List MVal} {μ : MMem} {Q : MVal → MMem → Prop} {n : Nat} {st : List MVal} {c : Int} {e : List Nat}  : Rn m ((46, n, c, e) :: is) ls st μ Q = Rn m is ls ((12, 203) :: st) μ Q := rn_nx rfl
theorem r_47_0 {m : Nat} {is : List MIns} {ls : List MVal} {μ : MMem} {Q : MVal → MMem → Prop} {st : List MVal} {c : Int} {e : List Nat} {id : Int} : Rn m ((47, 0, c, e) :: is) ls ((12, id) :: st) μ Q = (if 0 ≤ id then Rn m is ls ((13, 204) :: st) μ Q else False) := rn_if rfl
theorem r_47_1 {m : Nat} {is : List MIns} {ls : List MVal} {μ : MMem} {Q : MVal → MMem → Prop} {st : List MVal} {c : Int} {e : List Nat} {id : Int} : Rn m ((47, 1, c, e) :: is) ls ((12, id) :: st) μ Q = (if 0 ≤ id then Rn m is ls ((0, 0) :: st) μ Q else False) := rn_if rfl
theorem r_40 {m : Nat} {is : List MIns} {ls : List MVal} {μ : MMem} {Q : MVal → MMem → Prop} {n : Nat} {st : List MVal} {c : Int} {e : List Nat} {k j b i a : Int} : Rn m ((40, n, c, e) :: is) ls ((0, k) :: (0, j) :: (2, b) :: (0, i) :: (2, a) :: st) μ Q = (((0 ≤ a ∧ 0 ≤ b ∧ 0 ≤ i ∧ 0 ≤ j ∧ 0 ≤ k ∧ i + k ≤ m_al a ∧ j + k ≤ m_al b) ∧ m_ws st ≤ 8) ∧ Rn m is ls st (m_cp μ a i b j k) Q) := rn_an rfl
theorem r_50 {m : Nat} {is : List MIns} {ls : List MVal} {μ : MMem} {Q : MVal → MMem → Prop} {n : Nat} {st : List MVal} {c : Int} {e : List Nat} {x y : Int} : Rn m ((50, n, c, e) :: is) ls ((0, y) :: (0, x) :: st) μ Q = (m_ws st ≤ 8 ∧ Rn m is ls ((0, if x < y then y else x) :: st) μ Q) := rn_an rfl
theorem r_51 {m : Nat} {is : List MIns} {ls : List MVal} {μ : MMem} {Q : MVal → MMem → Prop} {n : Nat} {st : List MVal} {c : Int} {e : List Nat} {x y : Int} : Rn m ((51, n, c, e) :: is) ls ((0, y) :: (0, x) :: st) μ Q = (m_ws st ≤ 8 ∧ Rn m is ls ((0, if y < x then y else x) :: st) μ Q) := rn_an rfl
theorem r_41_0 {m : Nat} {is : List MIns} {ls : List MVal} {μ : MMem} {Q : MVal → MMem → Prop} {c : Int} {e : List Nat} {x : Int} : Rn m ((41, 0, c, e) :: is) ls [(0, x)] μ Q = Q (0, x) μ := rn_re rfl
theorem r_41_1 {m : Nat} {is : List MIns} {ls : List MVal} {μ : MMem} {Q : MVal → MMem → Prop} {c : Int} {e : List Nat} {x : Int} : Rn m ((41, 1, c, e) :: is) ls [(0, x)] μ Q = ((x = 0 ∨ x = 1) ∧ Q (0, x) μ) := by
  by_cases h : x = 0 ∨ x = 1
  · rw [rn_re (r := (0, x)) (μ' := μ) (by show (if 1 = 0 ∨ x = 0 ∨ x = 1 then _ else _) = _; rw [if_pos (Or.inr h)])]
    exact propext ⟨fun q => ⟨h, q⟩, fun q => q.2⟩
  · rw [rn_none (by show (if 1 = 0 ∨ x = 0 ∨ x = 1 then _ else _) = _; rw [if_neg (fun q => q.elim (fun z => by cases z) h)])]
    exact propext ⟨False.elim, fun q => h q.1⟩
theorem r_42 {m : Nat} {is : List MIns} {ls : List MVal} {μ : MMem} {Q : MVal → MMem → Prop} {n : Nat} {c : Int} {e : List Nat} {x : Int} : Rn m ((42, n, c, e) :: is) ls [(1, x)] μ Q = Q (1, x) μ := rn_re rfl
theorem r_43 {m : Nat} {is : List MIns} {ls : List MVal} {μ : MMem} {Q : MVal → MMem → Prop} {n : Nat} {c : Int} {e : List Nat} {t : Nat} {x : Int} : Rn m ((43, n, c, e) :: is) ls [(t, x)] μ Q = (if 2 ≤ t ∧ t ≤ 13 then Q (t, x) μ else False) := rn_ifr rfl
theorem r_44 {m : Nat} {is : List MIns} {ls : List MVal} {μ : MMem} {Q : MVal → MMem → Prop} {n : Nat} {c : Int} {e : List Nat}  : Rn m ((44, n, c, e) :: is) ls [] μ Q = Q (14, 0) μ := rn_re rfl
theorem r_36_0 {m : Nat} {is : List MIns} {ls : List MVal} {μ : MMem} {Q : MVal → MMem → Prop} {n : Nat} {st : List MVal} {e : List Nat}  : Rn m ((36, n, 0, e) :: is) ls st μ Q = (m_ws st ≤ 8 ∧ Cal n [] μ (fun r ν => Rn m is ls (m_ps r st) ν Q)) := rn_ca rfl
theorem r_37_0 {m : Nat} {is : List MIns} {ls : List MVal} {μ : MMem} {Q : MVal → MMem → Prop} {n : Nat} {st : List MVal}  {t i j : Nat} {id : Int} : Rn m ((37, n, 0, [i, j, t]) :: is) ls ((t, id) :: st) μ Q = (if 0 ≤ id then (m_ws st ≤ 8 ∧ Cal n [(t, id)] μ (fun r ν => Rn m is ls (m_ps r st) ν Q)) else False) := by
  refine rn_ifc ?_
  show (if _ = _ ∧ _ then _ else _) = _
  simp only [true_and]
theorem r_38_0 {m : Nat} {is : List MIns} {ls : List MVal} {μ : MMem} {Q : MVal → MMem → Prop} {n : Nat} {st : List MVal} {e : List Nat}  {t : Nat} {id : Int} : Rn m ((38, n, 0, e) :: is) ls ((t, id) :: st) μ Q = (if t = 5 ∧ 0 ≤ id then (m_ws st ≤ 8 ∧ Cal n [(t, id)] μ (fun r ν => Rn m is ls (m_ps r st) ν Q)) else False) := rn_ifc rfl
theorem r_48_0 {m : Nat} {is : List MIns} {ls : List MVal} {μ : MMem} {Q : MVal → MMem → Prop} {n : Nat} {st : List MVal} {e : List Nat}  {t : Nat} {id : Int} : Rn m ((48, n, 0, e) :: is) ls ((t, id) :: st) μ Q = (if t = 12 ∧ id = 203 then (m_ws st ≤ 8 ∧ Cal n [(t, id)] μ (fun r ν => Rn m is ls (m_ps r st) ν Q)) else False) := rn_ifc rfl
theorem r_36_1 {m : Nat} {is : List MIns} {ls : List MVal} {μ : MMem} {Q : MVal → MMem → Prop} {n : Nat} {st : List MVal} {e : List Nat} {a0 : MVal} : Rn m ((36, n, 1, e) :: is) ls (a0 :: st) μ Q = (m_ws st ≤ 8 ∧ Cal n [a0] μ (fun r ν => Rn m is ls (m_ps r st) ν Q)) := rn_ca rfl
theorem r_37_1 {m : Nat} {is : List MIns} {ls : List MVal} {μ : MMem} {Q : MVal → MMem → Prop} {n : Nat} {st : List MVal} {a0 : MVal} {t i j : Nat} {id : Int} : Rn m ((37, n, 1, [i, j, t]) :: is) ls (a0 :: (t, id) :: st) μ Q = (if 0 ≤ id then (m_ws st ≤ 8 ∧ Cal n [(t, id), a0] μ (fun r ν => Rn m is ls (m_ps r st) ν Q)) else False) := by
  refine rn_ifc ?_
  show (if _ = _ ∧ _ then _ else _) = _
  simp only [true_and]
theorem r_38_1 {m : Nat} {is : List MIns} {ls : List MVal} {μ : MMem} {Q : MVal → MMem → Prop} {n : Nat} {st : List MVal} {e : List Nat} {a0 : MVal} {t : Nat} {id : Int} : Rn m ((38, n, 1, e) :: is) ls (a0 :: (t, id) :: st) μ Q = (if t = 5 ∧ 0 ≤ id then (m_ws st ≤ 8 ∧ Cal n [(t, id), a0] μ (fun r ν => Rn m is ls (m_ps r st) ν Q)) else False) := rn_ifc rfl
theorem r_48_1 {m : Nat} {is : List MIns} {ls : List MVal} {μ : MMem} {Q : MVal → MMem → Prop} {n : Nat} {st : List MVal} {e : List Nat} {a0 : MVal} {t : Nat} {id : Int} : Rn m ((48, n, 1, e) :: is) ls (a0 :: (t, id) :: st) μ Q = (if t = 12 ∧ id = 203 then (m_ws st ≤ 8 ∧ Cal n [(t, id), a0] μ (fun r ν => Rn m is ls (m_ps r st) ν Q)) else False) := rn_ifc rfl
theorem r_36_2 {m : Nat} {is : List MIns} {ls : List MVal} {μ : MMem} {Q : MVal → MMem → Prop} {n : Nat} {st : List MVal} {e : List Nat} {a0 a1 : MVal} : Rn m ((36, n, 2, e) :: is) ls (a1 :: a0 :: st) μ Q = (m_ws st ≤ 8 ∧ Cal n [a0, a1] μ (fun r ν => Rn m is ls (m_ps r st) ν Q)) := rn_ca rfl
theorem r_37_2 {m : Nat} {is : List MIns} {ls : List MVal} {μ : MMem} {Q : MVal → MMem → Prop} {n : Nat} {st : List MVal} {a0 a1 : MVal} {t i j : Nat} {id : Int} : Rn m ((37, n, 2, [i, j, t]) :: is) ls (a1 :: a0 :: (t, id) :: st) μ Q = (if 0 ≤ id then (m_ws st ≤ 8 ∧ Cal n [(t, id), a0, a1] μ (fun r ν => Rn m is ls (m_ps r st) ν Q)) else False) := by
  refine rn_ifc ?_
  show (if _ = _ ∧ _ then _ else _) = _
  simp only [true_and]
theorem r_38_2 {m : Nat} {is : List MIns} {ls : List MVal} {μ : MMem} {Q : MVal → MMem → Prop} {n : Nat} {st : List MVal} {e : List Nat} {a0 a1 : MVal} {t : Nat} {id : Int} : Rn m ((38, n, 2, e) :: is) ls (a1 :: a0 :: (t, id) :: st) μ Q = (if t = 5 ∧ 0 ≤ id then (m_ws st ≤ 8 ∧ Cal n [(t, id), a0, a1] μ (fun r ν => Rn m is ls (m_ps r st) ν Q)) else False) := rn_ifc rfl
theorem r_48_2 {m : Nat} {is : List MIns} {ls : List MVal} {μ : MMem} {Q : MVal → MMem → Prop} {n : Nat} {st : List MVal} {e : List Nat} {a0 a1 : MVal} {t : Nat} {id : Int} : Rn m ((48, n, 2, e) :: is) ls (a1 :: a0 :: (t, id) :: st) μ Q = (if t = 12 ∧ id = 203 then (m_ws st ≤ 8 ∧ Cal n [(t, id), a0, a1] μ (fun r ν => Rn m is ls (m_ps r st) ν Q)) else False) := rn_ifc rfl
theorem r_36_3 {m : Nat} {is : List MIns} {ls : List MVal} {μ : MMem} {Q : MVal → MMem → Prop} {n : Nat} {st : List MVal} {e : List Nat} {a0 a1 a2 : MVal} : Rn m ((36, n, 3, e) :: is) ls (a2 :: a1 :: a0 :: st) μ Q = (m_ws st ≤ 8 ∧ Cal n [a0, a1, a2] μ (fun r ν => Rn m is ls (m_ps r st) ν Q)) := rn_ca rfl
theorem r_37_3 {m : Nat} {is : List MIns} {ls : List MVal} {μ : MMem} {Q : MVal → MMem → Prop} {n : Nat} {st : List MVal} {a0 a1 a2 : MVal} {t i j : Nat} {id : Int} : Rn m ((37, n, 3, [i, j, t]) :: is) ls (a2 :: a1 :: a0 :: (t, id) :: st) μ Q = (if 0 ≤ id then (m_ws st ≤ 8 ∧ Cal n [(t, id), a0, a1, a2] μ (fun r ν => Rn m is ls (m_ps r st) ν Q)) else False) := by
  refine rn_ifc ?_
  show (if _ = _ ∧ _ then _ else _) = _
  simp only [true_and]
theorem r_36_4 {m : Nat} {is : List MIns} {ls : List MVal} {μ : MMem} {Q : MVal → MMem → Prop} {n : Nat} {st : List MVal} {e : List Nat} {a0 a1 a2 a3 : MVal} : Rn m ((36, n, 4, e) :: is) ls (a3 :: a2 :: a1 :: a0 :: st) μ Q = (m_ws st ≤ 8 ∧ Cal n [a0, a1, a2, a3] μ (fun r ν => Rn m is ls (m_ps r st) ν Q)) := rn_ca rfl
theorem r_37_4 {m : Nat} {is : List MIns} {ls : List MVal} {μ : MMem} {Q : MVal → MMem → Prop} {n : Nat} {st : List MVal} {a0 a1 a2 a3 : MVal} {t i j : Nat} {id : Int} : Rn m ((37, n, 4, [i, j, t]) :: is) ls (a3 :: a2 :: a1 :: a0 :: (t, id) :: st) μ Q = (if 0 ≤ id then (m_ws st ≤ 8 ∧ Cal n [(t, id), a0, a1, a2, a3] μ (fun r ν => Rn m is ls (m_ps r st) ν Q)) else False) := by
  refine rn_ifc ?_
  show (if _ = _ ∧ _ then _ else _) = _
  simp only [true_and]
theorem r_36_5 {m : Nat} {is : List MIns} {ls : List MVal} {μ : MMem} {Q : MVal → MMem → Prop} {n : Nat} {st : List MVal} {e : List Nat} {a0 a1 a2 a3 a4 : MVal} : Rn m ((36, n, 5, e) :: is) ls (a4 :: a3 :: a2 :: a1 :: a0 :: st) μ Q = (m_ws st ≤ 8 ∧ Cal n [a0, a1, a2, a3, a4] μ (fun r ν => Rn m is ls (m_ps r st) ν Q)) := rn_ca rfl
theorem r_37_5 {m : Nat} {is : List MIns} {ls : List MVal} {μ : MMem} {Q : MVal → MMem → Prop} {n : Nat} {st : List MVal} {a0 a1 a2 a3 a4 : MVal} {t i j : Nat} {id : Int} : Rn m ((37, n, 5, [i, j, t]) :: is) ls (a4 :: a3 :: a2 :: a1 :: a0 :: (t, id) :: st) μ Q = (if 0 ≤ id then (m_ws st ≤ 8 ∧ Cal n [(t, id), a0, a1, a2, a3, a4] μ (fun r ν => Rn m is ls (m_ps r st) ν Q)) else False) := by
  refine rn_ifc ?_
  show (if _ = _ ∧ _ then _ else _) = _
  simp only [true_and]
theorem r_39 {m : Nat} {is : List MIns} {ls : List MVal} {μ : MMem} {Q : MVal → MMem → Prop} {n : Nat} {st : List MVal} {a0 a1 : MVal} {i j h b : Nat} {id : Int} : Rn m ((39, n, 2, [i, j, h, b]) :: is) ls (a1 :: a0 :: (5, id) :: st) μ Q = (if id = 6 then (m_ws st ≤ 8 ∧ Cal h [(5, id), a0, a1] μ (fun r ν => Rn m is ls (m_ps r st) ν Q)) else if id = 7 then (m_ws st ≤ 8 ∧ Cal b [(5, id), a0, a1] μ (fun r ν => Rn m is ls (m_ps r st) ν Q)) else False) := by
  by_cases h6 : id = 6
  · rw [if_pos h6]
    exact rn_ca (by show (if id = 6 then _ else _) = _; rw [if_pos h6])
  · rw [if_neg h6]
    by_cases h7 : id = 7
    · rw [if_pos h7]
      exact rn_ca (by show (if id = 6 then _ else if id = 7 then _ else _) = _; rw [if_neg h6, if_pos h7])
    · rw [if_neg h7]
      exact rn_none (by show (if id = 6 then _ else if id = 7 then _ else _) = _; rw [if_neg h6, if_neg h7])
theorem r_8 {m n : Nat} {is : List MIns} {ls st : List MVal} {μ : MMem} {Q : MVal → MMem → Prop} {c : Int} {e : List Nat} : Rn m ((8, n, c, e) :: is) ls st μ Q = (if (m_l ls n).1 = 0 then Rn m is (m_lp ls n (0, m_i 0 (m_l ls n).2 c)) st μ Q else False) := by
  cases hl : m_l ls n with
  | mk t x =>
    by_cases h : t = 0
    · subst h
      rw [if_pos rfl]
      refine rn_nx ?_
      show (match m_l ls n with | (0, x) => m_nx (m_lp ls n (0, m_i 0 x c)) st μ | _ => none) = _
      rw [hl]
      rfl
    · rw [if_neg h]
      refine rn_none ?_
      show (match m_l ls n with | (0, x) => m_nx (m_lp ls n (0, m_i 0 x c)) st μ | _ => none) = _
      rw [hl]
      split
      · rename_i q; cases q; exact absurd rfl h
      · rfl
theorem t0_0 {ls st : List MVal} {μ : MMem} {Q : MVal → MMem → Prop} : At 0 0 ls st μ Q = Rn 0 B0_0 ls st μ Q := rfl
theorem t1_0 {ls st : List MVal} {μ : MMem} {Q : MVal → MMem → Prop} : At 1 0 ls st μ Q = Rn 1 B1_0 ls st μ Q := rfl
theorem t2_0 {ls st : List MVal} {μ : MMem} {Q : MVal → MMem → Prop} : At 2 0 ls st μ Q = Rn 2 B2_0 ls st μ Q := rfl
theorem t3_0 {ls st : List MVal} {μ : MMem} {Q : MVal → MMem → Prop} : At 3 0 ls st μ Q = Rn 3 B3_0 ls st μ Q := rfl
theorem t3_1 {ls st : List MVal} {μ : MMem} {Q : MVal → MMem → Prop} : At 3 1 ls st μ Q = Rn 3 B3_1 ls st μ Q := rfl
theorem t3_2 {ls st : List MVal} {μ : MMem} {Q : MVal → MMem → Prop} : At 3 2 ls st μ Q = Rn 3 B3_2 ls st μ Q := rfl
theorem t4_0 {ls st : List MVal} {μ : MMem} {Q : MVal → MMem → Prop} : At 4 0 ls st μ Q = Rn 4 B4_0 ls st μ Q := rfl
theorem t4_1 {ls st : List MVal} {μ : MMem} {Q : MVal → MMem → Prop} : At 4 1 ls st μ Q = Rn 4 B4_1 ls st μ Q := rfl
theorem t4_2 {ls st : List MVal} {μ : MMem} {Q : MVal → MMem → Prop} : At 4 2 ls st μ Q = Rn 4 B4_2 ls st μ Q := rfl
theorem t5_0 {ls st : List MVal} {μ : MMem} {Q : MVal → MMem → Prop} : At 5 0 ls st μ Q = Rn 5 B5_0 ls st μ Q := rfl
theorem t5_1 {ls st : List MVal} {μ : MMem} {Q : MVal → MMem → Prop} : At 5 1 ls st μ Q = Rn 5 B5_1 ls st μ Q := rfl
theorem t5_2 {ls st : List MVal} {μ : MMem} {Q : MVal → MMem → Prop} : At 5 2 ls st μ Q = Rn 5 B5_2 ls st μ Q := rfl
theorem t6_0 {ls st : List MVal} {μ : MMem} {Q : MVal → MMem → Prop} : At 6 0 ls st μ Q = Rn 6 B6_0 ls st μ Q := rfl
theorem t6_1 {ls st : List MVal} {μ : MMem} {Q : MVal → MMem → Prop} : At 6 1 ls st μ Q = Rn 6 B6_1 ls st μ Q := rfl
theorem t6_2 {ls st : List MVal} {μ : MMem} {Q : MVal → MMem → Prop} : At 6 2 ls st μ Q = Rn 6 B6_2 ls st μ Q := rfl
theorem t7_0 {ls st : List MVal} {μ : MMem} {Q : MVal → MMem → Prop} : At 7 0 ls st μ Q = Rn 7 B7_0 ls st μ Q := rfl
theorem t7_1 {ls st : List MVal} {μ : MMem} {Q : MVal → MMem → Prop} : At 7 1 ls st μ Q = Rn 7 B7_1 ls st μ Q := rfl
theorem t7_2 {ls st : List MVal} {μ : MMem} {Q : MVal → MMem → Prop} : At 7 2 ls st μ Q = Rn 7 B7_2 ls st μ Q := rfl
theorem t8_0 {ls st : List MVal} {μ : MMem} {Q : MVal → MMem → Prop} : At 8 0 ls st μ Q = Rn 8 B8_0 ls st μ Q := rfl
theorem t8_1 {ls st : List MVal} {μ : MMem} {Q : MVal → MMem → Prop} : At 8 1 ls st μ Q = Rn 8 B8_1 ls st μ Q := rfl
theorem t8_2 {ls st : List MVal} {μ : MMem} {Q : MVal → MMem → Prop} : At 8 2 ls st μ Q = Rn 8 B8_2 ls st μ Q := rfl
theorem t8_3 {ls st : List MVal} {μ : MMem} {Q : MVal → MMem → Prop} : At 8 3 ls st μ Q = Rn 8 B8_3 ls st μ Q := rfl
theorem t9_0 {ls st : List MVal} {μ : MMem} {Q : MVal → MMem → Prop} : At 9 0 ls st μ Q = Rn 9 B9_0 ls st μ Q := rfl
theorem t9_1 {ls st : List MVal} {μ : MMem} {Q : MVal → MMem → Prop} : At 9 1 ls st μ Q = Rn 9 B9_1 ls st μ Q := rfl
theorem t9_2 {ls st : List MVal} {μ : MMem} {Q : MVal → MMem → Prop} : At 9 2 ls st μ Q = Rn 9 B9_2 ls st μ Q := rfl
theorem t10_0 {ls st : List MVal} {μ : MMem} {Q : MVal → MMem → Prop} : At 10 0 ls st μ Q = Rn 10 B10_0 ls st μ Q := rfl
theorem t10_1 {ls st : List MVal} {μ : MMem} {Q : MVal → MMem → Prop} : At 10 1 ls st μ Q = Rn 10 B10_1 ls st μ Q := rfl
theorem t10_2 {ls st : List MVal} {μ : MMem} {Q : MVal → MMem → Prop} : At 10 2 ls st μ Q = Rn 10 B10_2 ls st μ Q := rfl
theorem t10_3 {ls st : List MVal} {μ : MMem} {Q : MVal → MMem → Prop} : At 10 3 ls st μ Q = Rn 10 B10_3 ls st μ Q := rfl
theorem t10_4 {ls st : List MVal} {μ : MMem} {Q : MVal → MMem → Prop} : At 10 4 ls st μ Q = Rn 10 B10_4 ls st μ Q := rfl
theorem t11_0 {ls st : List MVal} {μ : MMem} {Q : MVal → MMem → Prop} : At 11 0 ls st μ Q = Rn 11 B11_0 ls st μ Q := rfl
theorem t11_1 {ls st : List MVal} {μ : MMem} {Q : MVal → MMem → Prop} : At 11 1 ls st μ Q = Rn 11 B11_1 ls st μ Q := rfl
theorem t11_2 {ls st : List MVal} {μ : MMem} {Q : MVal → MMem → Prop} : At 11 2 ls st μ Q = Rn 11 B11_2 ls st μ Q := rfl
theorem t12_0 {ls st : List MVal} {μ : MMem} {Q : MVal → MMem → Prop} : At 12 0 ls st μ Q = Rn 12 B12_0 ls st μ Q := rfl
theorem t13_0 {ls st : List MVal} {μ : MMem} {Q : MVal → MMem → Prop} : At 13 0 ls st μ Q = Rn 13 B13_0 ls st μ Q := rfl
theorem t13_1 {ls st : List MVal} {μ : MMem} {Q : MVal → MMem → Prop} : At 13 1 ls st μ Q = Rn 13 B13_1 ls st μ Q := rfl
theorem t13_2 {ls st : List MVal} {μ : MMem} {Q : MVal → MMem → Prop} : At 13 2 ls st μ Q = Rn 13 B13_2 ls st μ Q := rfl
theorem t13_3 {ls st : List MVal} {μ : MMem} {Q : MVal → MMem → Prop} : At 13 3 ls st μ Q = Rn 13 B13_3 ls st μ Q := rfl
theorem t13_4 {ls st : List MVal} {μ : MMem} {Q : MVal → MMem → Prop} : At 13 4 ls st μ Q = Rn 13 B13_4 ls st μ Q := rfl
theorem t14_0 {ls st : List MVal} {μ : MMem} {Q : MVal → MMem → Prop} : At 14 0 ls st μ Q = Rn 14 B14_0 ls st μ Q := rfl
theorem t14_1 {ls st : List MVal} {μ : MMem} {Q : MVal → MMem → Prop} : At 14 1 ls st μ Q = Rn 14 B14_1 ls st μ Q := rfl
theorem t14_2 {ls st : List MVal} {μ : MMem} {Q : MVal → MMem → Prop} : At 14 2 ls st μ Q = Rn 14 B14_2 ls st μ Q := rfl
theorem t15_0 {ls st : List MVal} {μ : MMem} {Q : MVal → MMem → Prop} : At 15 0 ls st μ Q = Rn 15 B15_0 ls st μ Q := rfl
theorem t15_1 {ls st : List MVal} {μ : MMem} {Q : MVal → MMem → Prop} : At 15 1 ls st μ Q = Rn 15 B15_1 ls st μ Q := rfl
theorem t16_0 {ls st : List MVal} {μ : MMem} {Q : MVal → MMem → Prop} : At 16 0 ls st μ Q = Rn 16 B16_0 ls st μ Q := rfl
theorem t16_1 {ls st : List MVal} {μ : MMem} {Q : MVal → MMem → Prop} : At 16 1 ls st μ Q = Rn 16 B16_1 ls st μ Q := rfl
theorem t16_2 {ls st : List MVal} {μ : MMem} {Q : MVal → MMem → Prop} : At 16 2 ls st μ Q = Rn 16 B16_2 ls st μ Q := rfl
theorem t16_3 {ls st : List MVal} {μ : MMem} {Q : MVal → MMem → Prop} : At 16 3 ls st μ Q = Rn 16 B16_3 ls st μ Q := rfl
theorem t17_0 {ls st : List MVal} {μ : MMem} {Q : MVal → MMem → Prop} : At 17 0 ls st μ Q = Rn 17 B17_0 ls st μ Q := rfl
theorem t17_1 {ls st : List MVal} {μ : MMem} {Q : MVal → MMem → Prop} : At 17 1 ls st μ Q = Rn 17 B17_1 ls st μ Q := rfl
theorem t17_2 {ls st : List MVal} {μ : MMem} {Q : MVal → MMem → Prop} : At 17 2 ls st μ Q = Rn 17 B17_2 ls st μ Q := rfl
theorem t18_0 {ls st : List MVal} {μ : MMem} {Q : MVal → MMem → Prop} : At 18 0 ls st μ Q = Rn 18 B18_0 ls st μ Q := rfl
theorem t18_1 {ls st : List MVal} {μ : MMem} {Q : MVal → MMem → Prop} : At 18 1 ls st μ Q = Rn 18 B18_1 ls st μ Q := rfl
theorem t18_2 {ls st : List MVal} {μ : MMem} {Q : MVal → MMem → Prop} : At 18 2 ls st μ Q = Rn 18 B18_2 ls st μ Q := rfl
theorem t19_0 {ls st : List MVal} {μ : MMem} {Q : MVal → MMem → Prop} : At 19 0 ls st μ Q = Rn 19 B19_0 ls st μ Q := rfl
theorem t19_1 {ls st : List MVal} {μ : MMem} {Q : MVal → MMem → Prop} : At 19 1 ls st μ Q = Rn 19 B19_1 ls st μ Q := rfl
theorem t19_2 {ls st : List MVal} {μ : MMem} {Q : MVal → MMem → Prop} : At 19 2 ls st μ Q = Rn 19 B19_2 ls st μ Q := rfl
theorem t20_0 {ls st : List MVal} {μ : MMem} {Q : MVal → MMem → Prop} : At 20 0 ls st μ Q = Rn 20 B20_0 ls st μ Q := rfl
theorem t20_1 {ls st : List MVal} {μ : MMem} {Q : MVal → MMem → Prop} : At 20 1 ls st μ Q = Rn 20 B20_1 ls st μ Q := rfl
theorem t21_0 {ls st : List MVal} {μ : MMem} {Q : MVal → MMem → Prop} : At 21 0 ls st μ Q = Rn 21 B21_0 ls st μ Q := rfl
theorem t21_1 {ls st : List MVal} {μ : MMem} {Q : MVal → MMem → Prop} : At 21 1 ls st μ Q = Rn 21 B21_1 ls st μ Q := rfl
theorem t21_2 {ls st : List MVal} {μ : MMem} {Q : MVal → MMem → Prop} : At 21 2 ls st μ Q = Rn 21 B21_2 ls st μ Q := rfl
theorem t22_0 {ls st : List MVal} {μ : MMem} {Q : MVal → MMem → Prop} : At 22 0 ls st μ Q = Rn 22 B22_0 ls st μ Q := rfl
theorem t22_1 {ls st : List MVal} {μ : MMem} {Q : MVal → MMem → Prop} : At 22 1 ls st μ Q = Rn 22 B22_1 ls st μ Q := rfl
theorem t23_0 {ls st : List MVal} {μ : MMem} {Q : MVal → MMem → Prop} : At 23 0 ls st μ Q = Rn 23 B23_0 ls st μ Q := rfl
theorem t24_0 {ls st : List MVal} {μ : MMem} {Q : MVal → MMem → Prop} : At 24 0 ls st μ Q = Rn 24 B24_0 ls st μ Q := rfl
theorem t24_1 {ls st : List MVal} {μ : MMem} {Q : MVal → MMem → Prop} : At 24 1 ls st μ Q = Rn 24 B24_1 ls st μ Q := rfl
theorem t24_2 {ls st : List MVal} {μ : MMem} {Q : MVal → MMem → Prop} : At 24 2 ls st μ Q = Rn 24 B24_2 ls st μ Q := rfl
theorem t24_3 {ls st : List MVal} {μ : MMem} {Q : MVal → MMem → Prop} : At 24 3 ls st μ Q = Rn 24 B24_3 ls st μ Q := rfl
theorem t24_4 {ls st : List MVal} {μ : MMem} {Q : MVal → MMem → Prop} : At 24 4 ls st μ Q = Rn 24 B24_4 ls st μ Q := rfl
theorem t24_5 {ls st : List MVal} {μ : MMem} {Q : MVal → MMem → Prop} : At 24 5 ls st μ Q = Rn 24 B24_5 ls st μ Q := rfl
theorem t24_6 {ls st : List MVal} {μ : MMem} {Q : MVal → MMem → Prop} : At 24 6 ls st μ Q = Rn 24 B24_6 ls st μ Q := rfl
theorem t24_7 {ls st : List MVal} {μ : MMem} {Q : MVal → MMem → Prop} : At 24 7 ls st μ Q = Rn 24 B24_7 ls st μ Q := rfl
theorem t24_8 {ls st : List MVal} {μ : MMem} {Q : MVal → MMem → Prop} : At 24 8 ls st μ Q = Rn 24 B24_8 ls st μ Q := rfl
theorem t24_9 {ls st : List MVal} {μ : MMem} {Q : MVal → MMem → Prop} : At 24 9 ls st μ Q = Rn 24 B24_9 ls st μ Q := rfl
theorem t24_10 {ls st : List MVal} {μ : MMem} {Q : MVal → MMem → Prop} : At 24 10 ls st μ Q = Rn 24 B24_10 ls st μ Q := rfl
theorem t24_11 {ls st : List MVal} {μ : MMem} {Q : MVal → MMem → Prop} : At 24 11 ls st μ Q = Rn 24 B24_11 ls st μ Q := rfl
theorem t24_12 {ls st : List MVal} {μ : MMem} {Q : MVal → MMem → Prop} : At 24 12 ls st μ Q = Rn 24 B24_12 ls st μ Q := rfl
theorem t24_13 {ls st : List MVal} {μ : MMem} {Q : MVal → MMem → Prop} : At 24 13 ls st μ Q = Rn 24 B24_13 ls st μ Q := rfl
theorem t24_14 {ls st : List MVal} {μ : MMem} {Q : MVal → MMem → Prop} : At 24 14 ls st μ Q = Rn 24 B24_14 ls st μ Q := rfl
theorem t24_15 {ls st : List MVal} {μ : MMem} {Q : MVal → MMem → Prop} : At 24 15 ls st μ Q = Rn 24 B24_15 ls st μ Q := rfl
theorem t24_16 {ls st : List MVal} {μ : MMem} {Q : MVal → MMem → Prop} : At 24 16 ls st μ Q = Rn 24 B24_16 ls st μ Q := rfl
theorem t24_17 {ls st : List MVal} {μ : MMem} {Q : MVal → MMem → Prop} : At 24 17 ls st μ Q = Rn 24 B24_17 ls st μ Q := rfl
theorem t25_0 {ls st : List MVal} {μ : MMem} {Q : MVal → MMem → Prop} : At 25 0 ls st μ Q = Rn 25 B25_0 ls st μ Q := rfl
theorem t25_1 {ls st : List MVal} {μ : MMem} {Q : MVal → MMem → Prop} : At 25 1 ls st μ Q = Rn 25 B25_1 ls st μ Q := rfl
theorem t25_2 {ls st : List MVal} {μ : MMem} {Q : MVal → MMem → Prop} : At 25 2 ls st μ Q = Rn 25 B25_2 ls st μ Q := rfl
theorem t25_3 {ls st : List MVal} {μ : MMem} {Q : MVal → MMem → Prop} : At 25 3 ls st μ Q = Rn 25 B25_3 ls st μ Q := rfl
theorem t25_4 {ls st : List MVal} {μ : MMem} {Q : MVal → MMem → Prop} : At 25 4 ls st μ Q = Rn 25 B25_4 ls st μ Q := rfl
theorem t25_5 {ls st : List MVal} {μ : MMem} {Q : MVal → MMem → Prop} : At 25 5 ls st μ Q = Rn 25 B25_5 ls st μ Q := rfl
theorem t25_6 {ls st : List MVal} {μ : MMem} {Q : MVal → MMem → Prop} : At 25 6 ls st μ Q = Rn 25 B25_6 ls st μ Q := rfl
theorem t26_0 {ls st : List MVal} {μ : MMem} {Q : MVal → MMem → Prop} : At 26 0 ls st μ Q = Rn 26 B26_0 ls st μ Q := rfl
theorem t26_1 {ls st : List MVal} {μ : MMem} {Q : MVal → MMem → Prop} : At 26 1 ls st μ Q = Rn 26 B26_1 ls st μ Q := rfl
theorem t26_2 {ls st : List MVal} {μ : MMem} {Q : MVal → MMem → Prop} : At 26 2 ls st μ Q = Rn 26 B26_2 ls st μ Q := rfl
theorem t26_3 {ls st : List MVal} {μ : MMem} {Q : MVal → MMem → Prop} : At 26 3 ls st μ Q = Rn 26 B26_3 ls st μ Q := rfl
theorem t26_4 {ls st : List MVal} {μ : MMem} {Q : MVal → MMem → Prop} : At 26 4 ls st μ Q = Rn 26 B26_4 ls st μ Q := rfl
theorem t26_5 {ls st : List MVal} {μ : MMem} {Q : MVal → MMem → Prop} : At 26 5 ls st μ Q = Rn 26 B26_5 ls st μ Q := rfl
theorem t26_6 {ls st : List MVal} {μ : MMem} {Q : MVal → MMem → Prop} : At 26 6 ls st μ Q = Rn 26 B26_6 ls st μ Q := rfl
theorem t26_7 {ls st : List MVal} {μ : MMem} {Q : MVal → MMem → Prop} : At 26 7 ls st μ Q = Rn 26 B26_7 ls st μ Q := rfl
theorem t26_8 {ls st : List MVal} {μ : MMem} {Q : MVal → MMem → Prop} : At 26 8 ls st μ Q = Rn 26 B26_8 ls st μ Q := rfl
theorem t26_9 {ls st : List MVal} {μ : MMem} {Q : MVal → MMem → Prop} : At 26 9 ls st μ Q = Rn 26 B26_9 ls st μ Q := rfl
theorem t27_0 {ls st : List MVal} {μ : MMem} {Q : MVal → MMem → Prop} : At 27 0 ls st μ Q = Rn 27 B27_0 ls st μ Q := rfl
theorem t27_1 {ls st : List MVal} {μ : MMem} {Q : MVal → MMem → Prop} : At 27 1 ls st μ Q = Rn 27 B27_1 ls st μ Q := rfl
theorem t27_2 {ls st : List MVal} {μ : MMem} {Q : MVal → MMem → Prop} : At 27 2 ls st μ Q = Rn 27 B27_2 ls st μ Q := rfl
theorem t27_3 {ls st : List MVal} {μ : MMem} {Q : MVal → MMem → Prop} : At 27 3 ls st μ Q = Rn 27 B27_3 ls st μ Q := rfl
theorem t28_0 {ls st : List MVal} {μ : MMem} {Q : MVal → MMem → Prop} : At 28 0 ls st μ Q = Rn 28 B28_0 ls st μ Q := rfl
theorem t28_1 {ls st : List MVal} {μ : MMem} {Q : MVal → MMem → Prop} : At 28 1 ls st μ Q = Rn 28 B28_1 ls st μ Q := rfl
theorem t28_2 {ls st : List MVal} {μ : MMem} {Q : MVal → MMem → Prop} : At 28 2 ls st μ Q = Rn 28 B28_2 ls st μ Q := rfl
theorem t28_3 {ls st : List MVal} {μ : MMem} {Q : MVal → MMem → Prop} : At 28 3 ls st μ Q = Rn 28 B28_3 ls st μ Q := rfl
theorem t29_0 {ls st : List MVal} {μ : MMem} {Q : MVal → MMem → Prop} : At 29 0 ls st μ Q = Rn 29 B29_0 ls st μ Q := rfl
theorem t29_1 {ls st : List MVal} {μ : MMem} {Q : MVal → MMem → Prop} : At 29 1 ls st μ Q = Rn 29 B29_1 ls st μ Q := rfl
theorem t30_0 {ls st : List MVal} {μ : MMem} {Q : MVal → MMem → Prop} : At 30 0 ls st μ Q = Rn 30 B30_0 ls st μ Q := rfl
theorem t30_1 {ls st : List MVal} {μ : MMem} {Q : MVal → MMem → Prop} : At 30 1 ls st μ Q = Rn 30 B30_1 ls st μ Q := rfl
theorem t30_2 {ls st : List MVal} {μ : MMem} {Q : MVal → MMem → Prop} : At 30 2 ls st μ Q = Rn 30 B30_2 ls st μ Q := rfl
theorem t31_0 {ls st : List MVal} {μ : MMem} {Q : MVal → MMem → Prop} : At 31 0 ls st μ Q = Rn 31 B31_0 ls st μ Q := rfl
theorem t31_1 {ls st : List MVal} {μ : MMem} {Q : MVal → MMem → Prop} : At 31 1 ls st μ Q = Rn 31 B31_1 ls st μ Q := rfl
theorem t31_2 {ls st : List MVal} {μ : MMem} {Q : MVal → MMem → Prop} : At 31 2 ls st μ Q = Rn 31 B31_2 ls st μ Q := rfl
theorem t31_3 {ls st : List MVal} {μ : MMem} {Q : MVal → MMem → Prop} : At 31 3 ls st μ Q = Rn 31 B31_3 ls st μ Q := rfl
theorem t31_4 {ls st : List MVal} {μ : MMem} {Q : MVal → MMem → Prop} : At 31 4 ls st μ Q = Rn 31 B31_4 ls st μ Q := rfl
theorem t31_5 {ls st : List MVal} {μ : MMem} {Q : MVal → MMem → Prop} : At 31 5 ls st μ Q = Rn 31 B31_5 ls st μ Q := rfl
theorem t32_0 {ls st : List MVal} {μ : MMem} {Q : MVal → MMem → Prop} : At 32 0 ls st μ Q = Rn 32 B32_0 ls st μ Q := rfl
theorem t32_1 {ls st : List MVal} {μ : MMem} {Q : MVal → MMem → Prop} : At 32 1 ls st μ Q = Rn 32 B32_1 ls st μ Q := rfl
theorem t32_2 {ls st : List MVal} {μ : MMem} {Q : MVal → MMem → Prop} : At 32 2 ls st μ Q = Rn 32 B32_2 ls st μ Q := rfl
theorem t32_3 {ls st : List MVal} {μ : MMem} {Q : MVal → MMem → Prop} : At 32 3 ls st μ Q = Rn 32 B32_3 ls st μ Q := rfl
theorem t32_4 {ls st : List MVal} {μ : MMem} {Q : MVal → MMem → Prop} : At 32 4 ls st μ Q = Rn 32 B32_4 ls st μ Q := rfl
theorem t32_5 {ls st : List MVal} {μ : MMem} {Q : MVal → MMem → Prop} : At 32 5 ls st μ Q = Rn 32 B32_5 ls st μ Q := rfl
theorem t33_0 {ls st : List MVal} {μ : MMem} {Q : MVal → MMem → Prop} : At 33 0 ls st μ Q = Rn 33 B33_0 ls st μ Q := rfl
theorem t33_1 {ls st : List MVal} {μ : MMem} {Q : MVal → MMem → Prop} : At 33 1 ls st μ Q = Rn 33 B33_1 ls st μ Q := rfl
theorem t33_2 {ls st : List MVal} {μ : MMem} {Q : MVal → MMem → Prop} : At 33 2 ls st μ Q = Rn 33 B33_2 ls st μ Q := rfl
theorem t33_3 {ls st : List MVal} {μ : MMem} {Q : MVal → MMem → Prop} : At 33 3 ls st μ Q = Rn 33 B33_3 ls st μ Q := rfl
theorem t33_4 {ls st : List MVal} {μ : MMem} {Q : MVal → MMem → Prop} : At 33 4 ls st μ Q = Rn 33 B33_4 ls st μ Q := rfl
theorem t34_0 {ls st : List MVal} {μ : MMem} {Q : MVal → MMem → Prop} : At 34 0 ls st μ Q = Rn 34 B34_0 ls st μ Q := rfl
theorem t34_1 {ls st : List MVal} {μ : MMem} {Q : MVal → MMem → Prop} : At 34 1 ls st μ Q = Rn 34 B34_1 ls st μ Q := rfl
theorem t34_2 {ls st : List MVal} {μ : MMem} {Q : MVal → MMem → Prop} : At 34 2 ls st μ Q = Rn 34 B34_2 ls st μ Q := rfl
theorem t34_3 {ls st : List MVal} {μ : MMem} {Q : MVal → MMem → Prop} : At 34 3 ls st μ Q = Rn 34 B34_3 ls st μ Q := rfl
theorem t34_4 {ls st : List MVal} {μ : MMem} {Q : MVal → MMem → Prop} : At 34 4 ls st μ Q = Rn 34 B34_4 ls st μ Q := rfl
theorem t35_0 {ls st : List MVal} {μ : MMem} {Q : MVal → MMem → Prop} : At 35 0 ls st μ Q = Rn 35 B35_0 ls st μ Q := rfl
theorem t35_1 {ls st : List MVal} {μ : MMem} {Q : MVal → MMem → Prop} : At 35 1 ls st μ Q = Rn 35 B35_1 ls st μ Q := rfl
theorem t35_2 {ls st : List MVal} {μ : MMem} {Q : MVal → MMem → Prop} : At 35 2 ls st μ Q = Rn 35 B35_2 ls st μ Q := rfl
theorem t36_0 {ls st : List MVal} {μ : MMem} {Q : MVal → MMem → Prop} : At 36 0 ls st μ Q = Rn 36 B36_0 ls st μ Q := rfl
theorem t36_1 {ls st : List MVal} {μ : MMem} {Q : MVal → MMem → Prop} : At 36 1 ls st μ Q = Rn 36 B36_1 ls st μ Q := rfl
theorem t36_2 {ls st : List MVal} {μ : MMem} {Q : MVal → MMem → Prop} : At 36 2 ls st μ Q = Rn 36 B36_2 ls st μ Q := rfl
theorem t36_3 {ls st : List MVal} {μ : MMem} {Q : MVal → MMem → Prop} : At 36 3 ls st μ Q = Rn 36 B36_3 ls st μ Q := rfl
theorem t37_0 {ls st : List MVal} {μ : MMem} {Q : MVal → MMem → Prop} : At 37 0 ls st μ Q = Rn 37 B37_0 ls st μ Q := rfl
theorem t37_1 {ls st : List MVal} {μ : MMem} {Q : MVal → MMem → Prop} : At 37 1 ls st μ Q = Rn 37 B37_1 ls st μ Q := rfl
theorem t37_2 {ls st : List MVal} {μ : MMem} {Q : MVal → MMem → Prop} : At 37 2 ls st μ Q = Rn 37 B37_2 ls st μ Q := rfl
theorem t38_0 {ls st : List MVal} {μ : MMem} {Q : MVal → MMem → Prop} : At 38 0 ls st μ Q = Rn 38 B38_0 ls st μ Q := rfl
theorem t38_1 {ls st : List MVal} {μ : MMem} {Q : MVal → MMem → Prop} : At 38 1 ls st μ Q = Rn 38 B38_1 ls st μ Q := rfl
theorem t38_2 {ls st : List MVal} {μ : MMem} {Q : MVal → MMem → Prop} : At 38 2 ls st μ Q = Rn 38 B38_2 ls st μ Q := rfl
theorem t39_0 {ls st : List MVal} {μ : MMem} {Q : MVal → MMem → Prop} : At 39 0 ls st μ Q = Rn 39 B39_0 ls st μ Q := rfl
theorem t39_1 {ls st : List MVal} {μ : MMem} {Q : MVal → MMem → Prop} : At 39 1 ls st μ Q = Rn 39 B39_1 ls st μ Q := rfl
theorem t39_2 {ls st : List MVal} {μ : MMem} {Q : MVal → MMem → Prop} : At 39 2 ls st μ Q = Rn 39 B39_2 ls st μ Q := rfl
theorem t39_3 {ls st : List MVal} {μ : MMem} {Q : MVal → MMem → Prop} : At 39 3 ls st μ Q = Rn 39 B39_3 ls st μ Q := rfl
theorem t40_0 {ls st : List MVal} {μ : MMem} {Q : MVal → MMem → Prop} : At 40 0 ls st μ Q = Rn 40 B40_0 ls st μ Q := rfl
theorem t40_1 {ls st : List MVal} {μ : MMem} {Q : MVal → MMem → Prop} : At 40 1 ls st μ Q = Rn 40 B40_1 ls st μ Q := rfl
theorem t40_2 {ls st : List MVal} {μ : MMem} {Q : MVal → MMem → Prop} : At 40 2 ls st μ Q = Rn 40 B40_2 ls st μ Q := rfl
theorem t40_3 {ls st : List MVal} {μ : MMem} {Q : MVal → MMem → Prop} : At 40 3 ls st μ Q = Rn 40 B40_3 ls st μ Q := rfl
theorem t41_0 {ls st : List MVal} {μ : MMem} {Q : MVal → MMem → Prop} : At 41 0 ls st μ Q = Rn 41 B41_0 ls st μ Q := rfl
theorem t41_1 {ls st : List MVal} {μ : MMem} {Q : MVal → MMem → Prop} : At 41 1 ls st μ Q = Rn 41 B41_1 ls st μ Q := rfl
theorem t41_2 {ls st : List MVal} {μ : MMem} {Q : MVal → MMem → Prop} : At 41 2 ls st μ Q = Rn 41 B41_2 ls st μ Q := rfl
theorem t41_3 {ls st : List MVal} {μ : MMem} {Q : MVal → MMem → Prop} : At 41 3 ls st μ Q = Rn 41 B41_3 ls st μ Q := rfl
theorem t42_0 {ls st : List MVal} {μ : MMem} {Q : MVal → MMem → Prop} : At 42 0 ls st μ Q = Rn 42 B42_0 ls st μ Q := rfl
theorem t42_1 {ls st : List MVal} {μ : MMem} {Q : MVal → MMem → Prop} : At 42 1 ls st μ Q = Rn 42 B42_1 ls st μ Q := rfl
theorem t43_0 {ls st : List MVal} {μ : MMem} {Q : MVal → MMem → Prop} : At 43 0 ls st μ Q = Rn 43 B43_0 ls st μ Q := rfl
theorem t43_1 {ls st : List MVal} {μ : MMem} {Q : MVal → MMem → Prop} : At 43 1 ls st μ Q = Rn 43 B43_1 ls st μ Q := rfl
theorem t43_2 {ls st : List MVal} {μ : MMem} {Q : MVal → MMem → Prop} : At 43 2 ls st μ Q = Rn 43 B43_2 ls st μ Q := rfl
theorem t44_0 {ls st : List MVal} {μ : MMem} {Q : MVal → MMem → Prop} : At 44 0 ls st μ Q = Rn 44 B44_0 ls st μ Q := rfl
theorem t44_1 {ls st : List MVal} {μ : MMem} {Q : MVal → MMem → Prop} : At 44 1 ls st μ Q = Rn 44 B44_1 ls st μ Q := rfl
theorem t44_2 {ls st : List MVal} {μ : MMem} {Q : MVal → MMem → Prop} : At 44 2 ls st μ Q = Rn 44 B44_2 ls st μ Q := rfl
theorem t45_0 {ls st : List MVal} {μ : MMem} {Q : MVal → MMem → Prop} : At 45 0 ls st μ Q = Rn 45 B45_0 ls st μ Q := rfl
theorem t45_1 {ls st : List MVal} {μ : MMem} {Q : MVal → MMem → Prop} : At 45 1 ls st μ Q = Rn 45 B45_1 ls st μ Q := rfl
theorem t45_2 {ls st : List MVal} {μ : MMem} {Q : MVal → MMem → Prop} : At 45 2 ls st μ Q = Rn 45 B45_2 ls st μ Q := rfl
theorem t46_0 {ls st : List MVal} {μ : MMem} {Q : MVal → MMem → Prop} : At 46 0 ls st μ Q = Rn 46 B46_0 ls st μ Q := rfl
theorem t46_1 {ls st : List MVal} {μ : MMem} {Q : MVal → MMem → Prop} : At 46 1 ls st μ Q = Rn 46 B46_1 ls st μ Q := rfl
theorem t46_2 {ls st : List MVal} {μ : MMem} {Q : MVal → MMem → Prop} : At 46 2 ls st μ Q = Rn 46 B46_2 ls st μ Q := rfl
theorem t47_0 {ls st : List MVal} {μ : MMem} {Q : MVal → MMem → Prop} : At 47 0 ls st μ Q = Rn 47 B47_0 ls st μ Q := rfl
theorem t47_1 {ls st : List MVal} {μ : MMem} {Q : MVal → MMem → Prop} : At 47 1 ls st μ Q = Rn 47 B47_1 ls st μ Q := rfl
theorem t47_2 {ls st : List MVal} {μ : MMem} {Q : MVal → MMem → Prop} : At 47 2 ls st μ Q = Rn 47 B47_2 ls st μ Q := rfl
theorem t48_0 {ls st : List MVal} {μ : MMem} {Q : MVal → MMem → Prop} : At 48 0 ls st μ Q = Rn 48 B48_0 ls st μ Q := rfl
theorem t48_1 {ls st : List MVal} {μ : MMem} {Q : MVal → MMem → Prop} : At 48 1 ls st μ Q = Rn 48 B48_1 ls st μ Q := rfl
theorem t49_0 {ls st : List MVal} {μ : MMem} {Q : MVal → MMem → Prop} : At 49 0 ls st μ Q = Rn 49 B49_0 ls st μ Q := rfl
theorem t49_1 {ls st : List MVal} {μ : MMem} {Q : MVal → MMem → Prop} : At 49 1 ls st μ Q = Rn 49 B49_1 ls st μ Q := rfl
theorem t49_2 {ls st : List MVal} {μ : MMem} {Q : MVal → MMem → Prop} : At 49 2 ls st μ Q = Rn 49 B49_2 ls st μ Q := rfl
theorem t49_3 {ls st : List MVal} {μ : MMem} {Q : MVal → MMem → Prop} : At 49 3 ls st μ Q = Rn 49 B49_3 ls st μ Q := rfl
theorem t49_4 {ls st : List MVal} {μ : MMem} {Q : MVal → MMem → Prop} : At 49 4 ls st μ Q = Rn 49 B49_4 ls st μ Q := rfl
theorem t49_5 {ls st : List MVal} {μ : MMem} {Q : MVal → MMem → Prop} : At 49 5 ls st μ Q = Rn 49 B49_5 ls st μ Q := rfl
theorem t50_0 {ls st : List MVal} {μ : MMem} {Q : MVal → MMem → Prop} : At 50 0 ls st μ Q = Rn 50 B50_0 ls st μ Q := rfl
theorem t50_1 {ls st : List MVal} {μ : MMem} {Q : MVal → MMem → Prop} : At 50 1 ls st μ Q = Rn 50 B50_1 ls st μ Q := rfl
theorem t50_2 {ls st : List MVal} {μ : MMem} {Q : MVal → MMem → Prop} : At 50 2 ls st μ Q = Rn 50 B50_2 ls st μ Q := rfl
theorem t50_3 {ls st : List MVal} {μ : MMem} {Q : MVal → MMem → Prop} : At 50 3 ls st μ Q = Rn 50 B50_3 ls st μ Q := rfl
theorem t50_4 {ls st : List MVal} {μ : MMem} {Q : MVal → MMem → Prop} : At 50 4 ls st μ Q = Rn 50 B50_4 ls st μ Q := rfl
theorem t50_5 {ls st : List MVal} {μ : MMem} {Q : MVal → MMem → Prop} : At 50 5 ls st μ Q = Rn 50 B50_5 ls st μ Q := rfl
theorem t50_6 {ls st : List MVal} {μ : MMem} {Q : MVal → MMem → Prop} : At 50 6 ls st μ Q = Rn 50 B50_6 ls st μ Q := rfl
theorem t50_7 {ls st : List MVal} {μ : MMem} {Q : MVal → MMem → Prop} : At 50 7 ls st μ Q = Rn 50 B50_7 ls st μ Q := rfl
theorem t51_0 {ls st : List MVal} {μ : MMem} {Q : MVal → MMem → Prop} : At 51 0 ls st μ Q = Rn 51 B51_0 ls st μ Q := rfl
theorem t51_1 {ls st : List MVal} {μ : MMem} {Q : MVal → MMem → Prop} : At 51 1 ls st μ Q = Rn 51 B51_1 ls st μ Q := rfl
theorem t51_2 {ls st : List MVal} {μ : MMem} {Q : MVal → MMem → Prop} : At 51 2 ls st μ Q = Rn 51 B51_2 ls st μ Q := rfl
theorem t51_3 {ls st : List MVal} {μ : MMem} {Q : MVal → MMem → Prop} : At 51 3 ls st μ Q = Rn 51 B51_3 ls st μ Q := rfl
theorem t51_4 {ls st : List MVal} {μ : MMem} {Q : MVal → MMem → Prop} : At 51 4 ls st μ Q = Rn 51 B51_4 ls st μ Q := rfl
theorem t51_5 {ls st : List MVal} {μ : MMem} {Q : MVal → MMem → Prop} : At 51 5 ls st μ Q = Rn 51 B51_5 ls st μ Q := rfl
theorem t52_0 {ls st : List MVal} {μ : MMem} {Q : MVal → MMem → Prop} : At 52 0 ls st μ Q = Rn 52 B52_0 ls st μ Q := rfl
theorem t52_1 {ls st : List MVal} {μ : MMem} {Q : MVal → MMem → Prop} : At 52 1 ls st μ Q = Rn 52 B52_1 ls st μ Q := rfl
theorem t53_0 {ls st : List MVal} {μ : MMem} {Q : MVal → MMem → Prop} : At 53 0 ls st μ Q = Rn 53 B53_0 ls st μ Q := rfl
theorem t53_1 {ls st : List MVal} {μ : MMem} {Q : MVal → MMem → Prop} : At 53 1 ls st μ Q = Rn 53 B53_1 ls st μ Q := rfl
theorem t53_2 {ls st : List MVal} {μ : MMem} {Q : MVal → MMem → Prop} : At 53 2 ls st μ Q = Rn 53 B53_2 ls st μ Q := rfl
theorem t53_3 {ls st : List MVal} {μ : MMem} {Q : MVal → MMem → Prop} : At 53 3 ls st μ Q = Rn 53 B53_3 ls st μ Q := rfl
theorem t53_4 {ls st : List MVal} {μ : MMem} {Q : MVal → MMem → Prop} : At 53 4 ls st μ Q = Rn 53 B53_4 ls st μ Q := rfl
theorem t53_5 {ls st : List MVal} {μ : MMem} {Q : MVal → MMem → Prop} : At 53 5 ls st μ Q = Rn 53 B53_5 ls st μ Q := rfl
theorem t53_6 {ls st : List MVal} {μ : MMem} {Q : MVal → MMem → Prop} : At 53 6 ls st μ Q = Rn 53 B53_6 ls st μ Q := rfl
theorem t53_7 {ls st : List MVal} {μ : MMem} {Q : MVal → MMem → Prop} : At 53 7 ls st μ Q = Rn 53 B53_7 ls st μ Q := rfl
theorem t53_8 {ls st : List MVal} {μ : MMem} {Q : MVal → MMem → Prop} : At 53 8 ls st μ Q = Rn 53 B53_8 ls st μ Q := rfl
theorem t54_0 {ls st : List MVal} {μ : MMem} {Q : MVal → MMem → Prop} : At 54 0 ls st μ Q = Rn 54 B54_0 ls st μ Q := rfl
theorem t54_1 {ls st : List MVal} {μ : MMem} {Q : MVal → MMem → Prop} : At 54 1 ls st μ Q = Rn 54 B54_1 ls st μ Q := rfl
theorem t54_2 {ls st : List MVal} {μ : MMem} {Q : MVal → MMem → Prop} : At 54 2 ls st μ Q = Rn 54 B54_2 ls st μ Q := rfl
theorem t54_3 {ls st : List MVal} {μ : MMem} {Q : MVal → MMem → Prop} : At 54 3 ls st μ Q = Rn 54 B54_3 ls st μ Q := rfl
theorem t55_0 {ls st : List MVal} {μ : MMem} {Q : MVal → MMem → Prop} : At 55 0 ls st μ Q = Rn 55 B55_0 ls st μ Q := rfl
theorem t55_1 {ls st : List MVal} {μ : MMem} {Q : MVal → MMem → Prop} : At 55 1 ls st μ Q = Rn 55 B55_1 ls st μ Q := rfl
theorem t55_2 {ls st : List MVal} {μ : MMem} {Q : MVal → MMem → Prop} : At 55 2 ls st μ Q = Rn 55 B55_2 ls st μ Q := rfl
theorem t55_3 {ls st : List MVal} {μ : MMem} {Q : MVal → MMem → Prop} : At 55 3 ls st μ Q = Rn 55 B55_3 ls st μ Q := rfl
theorem t55_4 {ls st : List MVal} {μ : MMem} {Q : MVal → MMem → Prop} : At 55 4 ls st μ Q = Rn 55 B55_4 ls st μ Q := rfl
theorem t56_0 {ls st : List MVal} {μ : MMem} {Q : MVal → MMem → Prop} : At 56 0 ls st μ Q = Rn 56 B56_0 ls st μ Q := rfl
theorem t56_1 {ls st : List MVal} {μ : MMem} {Q : MVal → MMem → Prop} : At 56 1 ls st μ Q = Rn 56 B56_1 ls st μ Q := rfl
theorem t56_2 {ls st : List MVal} {μ : MMem} {Q : MVal → MMem → Prop} : At 56 2 ls st μ Q = Rn 56 B56_2 ls st μ Q := rfl
theorem t56_3 {ls st : List MVal} {μ : MMem} {Q : MVal → MMem → Prop} : At 56 3 ls st μ Q = Rn 56 B56_3 ls st μ Q := rfl
theorem t57_0 {ls st : List MVal} {μ : MMem} {Q : MVal → MMem → Prop} : At 57 0 ls st μ Q = Rn 57 B57_0 ls st μ Q := rfl
theorem t57_1 {ls st : List MVal} {μ : MMem} {Q : MVal → MMem → Prop} : At 57 1 ls st μ Q = Rn 57 B57_1 ls st μ Q := rfl
theorem t57_2 {ls st : List MVal} {μ : MMem} {Q : MVal → MMem → Prop} : At 57 2 ls st μ Q = Rn 57 B57_2 ls st μ Q := rfl
theorem t58_0 {ls st : List MVal} {μ : MMem} {Q : MVal → MMem → Prop} : At 58 0 ls st μ Q = Rn 58 B58_0 ls st μ Q := rfl
theorem t58_1 {ls st : List MVal} {μ : MMem} {Q : MVal → MMem → Prop} : At 58 1 ls st μ Q = Rn 58 B58_1 ls st μ Q := rfl
theorem t58_2 {ls st : List MVal} {μ : MMem} {Q : MVal → MMem → Prop} : At 58 2 ls st μ Q = Rn 58 B58_2 ls st μ Q := rfl
theorem t59_0 {ls st : List MVal} {μ : MMem} {Q : MVal → MMem → Prop} : At 59 0 ls st μ Q = Rn 59 B59_0 ls st μ Q := rfl
theorem t59_1 {ls st : List MVal} {μ : MMem} {Q : MVal → MMem → Prop} : At 59 1 ls st μ Q = Rn 59 B59_1 ls st μ Q := rfl
theorem t59_2 {ls st : List MVal} {μ : MMem} {Q : MVal → MMem → Prop} : At 59 2 ls st μ Q = Rn 59 B59_2 ls st μ Q := rfl
theorem t60_0 {ls st : List MVal} {μ : MMem} {Q : MVal → MMem → Prop} : At 60 0 ls st μ Q = Rn 60 B60_0 ls st μ Q := rfl
theorem t60_1 {ls st : List MVal} {μ : MMem} {Q : MVal → MMem → Prop} : At 60 1 ls st μ Q = Rn 60 B60_1 ls st μ Q := rfl
theorem t60_2 {ls st : List MVal} {μ : MMem} {Q : MVal → MMem → Prop} : At 60 2 ls st μ Q = Rn 60 B60_2 ls st μ Q := rfl
theorem t60_3 {ls st : List MVal} {μ : MMem} {Q : MVal → MMem → Prop} : At 60 3 ls st μ Q = Rn 60 B60_3 ls st μ Q := rfl
theorem t60_4 {ls st : List MVal} {μ : MMem} {Q : MVal → MMem → Prop} : At 60 4 ls st μ Q = Rn 60 B60_4 ls st μ Q := rfl
theorem t60_5 {ls st : List MVal} {μ : MMem} {Q : MVal → MMem → Prop} : At 60 5 ls st μ Q = Rn 60 B60_5 ls st μ Q := rfl
theorem t61_0 {ls st : List MVal} {μ : MMem} {Q : MVal → MMem → Prop} : At 61 0 ls st μ Q = Rn 61 B61_0 ls st μ Q := rfl
theorem t61_1 {ls st : List MVal} {μ : MMem} {Q : MVal → MMem → Prop} : At 61 1 ls st μ Q = Rn 61 B61_1 ls st μ Q := rfl
theorem t61_2 {ls st : List MVal} {μ : MMem} {Q : MVal → MMem → Prop} : At 61 2 ls st μ Q = Rn 61 B61_2 ls st μ Q := rfl
theorem t61_3 {ls st : List MVal} {μ : MMem} {Q : MVal → MMem → Prop} : At 61 3 ls st μ Q = Rn 61 B61_3 ls st μ Q := rfl
theorem t61_4 {ls st : List MVal} {μ : MMem} {Q : MVal → MMem → Prop} : At 61 4 ls st μ Q = Rn 61 B61_4 ls st μ Q := rfl
theorem t61_5 {ls st : List MVal} {μ : MMem} {Q : MVal → MMem → Prop} : At 61 5 ls st μ Q = Rn 61 B61_5 ls st μ Q := rfl
theorem t62_0 {ls st : List MVal} {μ : MMem} {Q : MVal → MMem → Prop} : At 62 0 ls st μ Q = Rn 62 B62_0 ls st μ Q := rfl
theorem t62_1 {ls st : List MVal} {μ : MMem} {Q : MVal → MMem → Prop} : At 62 1 ls st μ Q = Rn 62 B62_1 ls st μ Q := rfl
theorem t62_2 {ls st : List MVal} {μ : MMem} {Q : MVal → MMem → Prop} : At 62 2 ls st μ Q = Rn 62 B62_2 ls st μ Q := rfl
theorem t62_3 {ls st : List MVal} {μ : MMem} {Q : MVal → MMem → Prop} : At 62 3 ls st μ Q = Rn 62 B62_3 ls st μ Q := rfl
theorem t63_0 {ls st : List MVal} {μ : MMem} {Q : MVal → MMem → Prop} : At 63 0 ls st μ Q = Rn 63 B63_0 ls st μ Q := rfl
theorem t63_1 {ls st : List MVal} {μ : MMem} {Q : MVal → MMem → Prop} : At 63 1 ls st μ Q = Rn 63 B63_1 ls st μ Q := rfl
theorem t63_2 {ls st : List MVal} {μ : MMem} {Q : MVal → MMem → Prop} : At 63 2 ls st μ Q = Rn 63 B63_2 ls st μ Q := rfl
theorem t63_3 {ls st : List MVal} {μ : MMem} {Q : MVal → MMem → Prop} : At 63 3 ls st μ Q = Rn 63 B63_3 ls st μ Q := rfl
theorem t63_4 {ls st : List MVal} {μ : MMem} {Q : MVal → MMem → Prop} : At 63 4 ls st μ Q = Rn 63 B63_4 ls st μ Q := rfl
theorem t63_5 {ls st : List MVal} {μ : MMem} {Q : MVal → MMem → Prop} : At 63 5 ls st μ Q = Rn 63 B63_5 ls st μ Q := rfl
theorem t63_6 {ls st : List MVal} {μ : MMem} {Q : MVal → MMem → Prop} : At 63 6 ls st μ Q = Rn 63 B63_6 ls st μ Q := rfl
theorem t63_7 {ls st : List MVal} {μ : MMem} {Q : MVal → MMem → Prop} : At 63 7 ls st μ Q = Rn 63 B63_7 ls st μ Q := rfl
theorem t63_8 {ls st : List MVal} {μ : MMem} {Q : MVal → MMem → Prop} : At 63 8 ls st μ Q = Rn 63 B63_8 ls st μ Q := rfl
theorem t63_9 {ls st : List MVal} {μ : MMem} {Q : MVal → MMem → Prop} : At 63 9 ls st μ Q = Rn 63 B63_9 ls st μ Q := rfl
theorem t64_0 {ls st : List MVal} {μ : MMem} {Q : MVal → MMem → Prop} : At 64 0 ls st μ Q = Rn 64 B64_0 ls st μ Q := rfl
theorem t64_1 {ls st : List MVal} {μ : MMem} {Q : MVal → MMem → Prop} : At 64 1 ls st μ Q = Rn 64 B64_1 ls st μ Q := rfl
theorem t64_2 {ls st : List MVal} {μ : MMem} {Q : MVal → MMem → Prop} : At 64 2 ls st μ Q = Rn 64 B64_2 ls st μ Q := rfl
theorem t64_3 {ls st : List MVal} {μ : MMem} {Q : MVal → MMem → Prop} : At 64 3 ls st μ Q = Rn 64 B64_3 ls st μ Q := rfl
theorem t64_4 {ls st : List MVal} {μ : MMem} {Q : MVal → MMem → Prop} : At 64 4 ls st μ Q = Rn 64 B64_4 ls st μ Q := rfl
theorem t65_0 {ls st : List MVal} {μ : MMem} {Q : MVal → MMem → Prop} : At 65 0 ls st μ Q = Rn 65 B65_0 ls st μ Q := rfl
theorem t65_1 {ls st : List MVal} {μ : MMem} {Q : MVal → MMem → Prop} : At 65 1 ls st μ Q = Rn 65 B65_1 ls st μ Q := rfl
theorem t65_2 {ls st : List MVal} {μ : MMem} {Q : MVal → MMem → Prop} : At 65 2 ls st μ Q = Rn 65 B65_2 ls st μ Q := rfl
theorem t65_3 {ls st : List MVal} {μ : MMem} {Q : MVal → MMem → Prop} : At 65 3 ls st μ Q = Rn 65 B65_3 ls st μ Q := rfl
theorem t66_0 {ls st : List MVal} {μ : MMem} {Q : MVal → MMem → Prop} : At 66 0 ls st μ Q = Rn 66 B66_0 ls st μ Q := rfl
theorem t67_0 {ls st : List MVal} {μ : MMem} {Q : MVal → MMem → Prop} : At 67 0 ls st μ Q = Rn 67 B67_0 ls st μ Q := rfl
theorem t67_1 {ls st : List MVal} {μ : MMem} {Q : MVal → MMem → Prop} : At 67 1 ls st μ Q = Rn 67 B67_1 ls st μ Q := rfl
theorem t67_2 {ls st : List MVal} {μ : MMem} {Q : MVal → MMem → Prop} : At 67 2 ls st μ Q = Rn 67 B67_2 ls st μ Q := rfl
theorem t67_3 {ls st : List MVal} {μ : MMem} {Q : MVal → MMem → Prop} : At 67 3 ls st μ Q = Rn 67 B67_3 ls st μ Q := rfl
theorem t68_0 {ls st : List MVal} {μ : MMem} {Q : MVal → MMem → Prop} : At 68 0 ls st μ Q = Rn 68 B68_0 ls st μ Q := rfl
theorem t68_1 {ls st : List MVal} {μ : MMem} {Q : MVal → MMem → Prop} : At 68 1 ls st μ Q = Rn 68 B68_1 ls st μ Q := rfl
theorem t68_2 {ls st : List MVal} {μ : MMem} {Q : MVal → MMem → Prop} : At 68 2 ls st μ Q = Rn 68 B68_2 ls st μ Q := rfl
theorem t68_3 {ls st : List MVal} {μ : MMem} {Q : MVal → MMem → Prop} : At 68 3 ls st μ Q = Rn 68 B68_3 ls st μ Q := rfl
theorem t68_4 {ls st : List MVal} {μ : MMem} {Q : MVal → MMem → Prop} : At 68 4 ls st μ Q = Rn 68 B68_4 ls st μ Q := rfl
theorem t69_0 {ls st : List MVal} {μ : MMem} {Q : MVal → MMem → Prop} : At 69 0 ls st μ Q = Rn 69 B69_0 ls st μ Q := rfl
theorem t69_1 {ls st : List MVal} {μ : MMem} {Q : MVal → MMem → Prop} : At 69 1 ls st μ Q = Rn 69 B69_1 ls st μ Q := rfl
theorem t69_2 {ls st : List MVal} {μ : MMem} {Q : MVal → MMem → Prop} : At 69 2 ls st μ Q = Rn 69 B69_2 ls st μ Q := rfl
theorem t69_3 {ls st : List MVal} {μ : MMem} {Q : MVal → MMem → Prop} : At 69 3 ls st μ Q = Rn 69 B69_3 ls st μ Q := rfl
theorem t69_4 {ls st : List MVal} {μ : MMem} {Q : MVal → MMem → Prop} : At 69 4 ls st μ Q = Rn 69 B69_4 ls st μ Q := rfl
theorem t70_0 {ls st : List MVal} {μ : MMem} {Q : MVal → MMem → Prop} : At 70 0 ls st μ Q = Rn 70 B70_0 ls st μ Q := rfl
theorem t70_1 {ls st : List MVal} {μ : MMem} {Q : MVal → MMem → Prop} : At 70 1 ls st μ Q = Rn 70 B70_1 ls st μ Q := rfl
theorem t70_2 {ls st : List MVal} {μ : MMem} {Q : MVal → MMem → Prop} : At 70 2 ls st μ Q = Rn 70 B70_2 ls st μ Q := rfl
theorem t70_3 {ls st : List MVal} {μ : MMem} {Q : MVal → MMem → Prop} : At 70 3 ls st μ Q = Rn 70 B70_3 ls st μ Q := rfl
theorem t70_4 {ls st : List MVal} {μ : MMem} {Q : MVal → MMem → Prop} : At 70 4 ls st μ Q = Rn 70 B70_4 ls st μ Q := rfl
theorem t70_5 {ls st : List MVal} {μ : MMem} {Q : MVal → MMem → Prop} : At 70 5 ls st μ Q = Rn 70 B70_5 ls st μ Q := rfl
theorem t70_6 {ls st : List MVal} {μ : MMem} {Q : MVal → MMem → Prop} : At 70 6 ls st μ Q = Rn 70 B70_6 ls st μ Q := rfl
theorem t70_7 {ls st : List MVal} {μ : MMem} {Q : MVal → MMem → Prop} : At 70 7 ls st μ Q = Rn 70 B70_7 ls st μ Q := rfl
theorem t70_8 {ls st : List MVal} {μ : MMem} {Q : MVal → MMem → Prop} : At 70 8 ls st μ Q = Rn 70 B70_8 ls st μ Q := rfl
theorem t70_9 {ls st : List MVal} {μ : MMem} {Q : MVal → MMem → Prop} : At 70 9 ls st μ Q = Rn 70 B70_9 ls st μ Q := rfl
theorem t71_0 {ls st : List MVal} {μ : MMem} {Q : MVal → MMem → Prop} : At 71 0 ls st μ Q = Rn 71 B71_0 ls st μ Q := rfl
theorem t71_1 {ls st : List MVal} {μ : MMem} {Q : MVal → MMem → Prop} : At 71 1 ls st μ Q = Rn 71 B71_1 ls st μ Q := rfl
theorem t71_2 {ls st : List MVal} {μ : MMem} {Q : MVal → MMem → Prop} : At 71 2 ls st μ Q = Rn 71 B71_2 ls st μ Q := rfl
theorem t71_3 {ls st : List MVal} {μ : MMem} {Q : MVal → MMem → Prop} : At 71 3 ls st μ Q = Rn 71 B71_3 ls st μ Q := rfl
theorem t71_4 {ls st : List MVal} {μ : MMem} {Q : MVal → MMem → Prop} : At 71 4 ls st μ Q = Rn 71 B71_4 ls st μ Q := rfl
theorem t72_0 {ls st : List MVal} {μ : MMem} {Q : MVal → MMem → Prop} : At 72 0 ls st μ Q = Rn 72 B72_0 ls st μ Q := rfl
theorem t72_1 {ls st : List MVal} {μ : MMem} {Q : MVal → MMem → Prop} : At 72 1 ls st μ Q = Rn 72 B72_1 ls st μ Q := rfl
theorem t72_2 {ls st : List MVal} {μ : MMem} {Q : MVal → MMem → Prop} : At 72 2 ls st μ Q = Rn 72 B72_2 ls st μ Q := rfl
theorem t72_3 {ls st : List MVal} {μ : MMem} {Q : MVal → MMem → Prop} : At 72 3 ls st μ Q = Rn 72 B72_3 ls st μ Q := rfl
theorem t73_0 {ls st : List MVal} {μ : MMem} {Q : MVal → MMem → Prop} : At 73 0 ls st μ Q = Rn 73 B73_0 ls st μ Q := rfl
theorem t73_1 {ls st : List MVal} {μ : MMem} {Q : MVal → MMem → Prop} : At 73 1 ls st μ Q = Rn 73 B73_1 ls st μ Q := rfl
theorem t73_2 {ls st : List MVal} {μ : MMem} {Q : MVal → MMem → Prop} : At 73 2 ls st μ Q = Rn 73 B73_2 ls st μ Q := rfl
theorem t73_3 {ls st : List MVal} {μ : MMem} {Q : MVal → MMem → Prop} : At 73 3 ls st μ Q = Rn 73 B73_3 ls st μ Q := rfl
theorem t73_4 {ls st : List MVal} {μ : MMem} {Q : MVal → MMem → Prop} : At 73 4 ls st μ Q = Rn 73 B73_4 ls st μ Q := rfl
theorem t74_0 {ls st : List MVal} {μ : MMem} {Q : MVal → MMem → Prop} : At 74 0 ls st μ Q = Rn 74 B74_0 ls st μ Q := rfl
theorem t74_1 {ls st : List MVal} {μ : MMem} {Q : MVal → MMem → Prop} : At 74 1 ls st μ Q = Rn 74 B74_1 ls st μ Q := rfl
theorem t74_2 {ls st : List MVal} {μ : MMem} {Q : MVal → MMem → Prop} : At 74 2 ls st μ Q = Rn 74 B74_2 ls st μ Q := rfl
theorem t74_3 {ls st : List MVal} {μ : MMem} {Q : MVal → MMem → Prop} : At 74 3 ls st μ Q = Rn 74 B74_3 ls st μ Q := rfl
theorem t75_0 {ls st : List MVal} {μ : MMem} {Q : MVal → MMem → Prop} : At 75 0 ls st μ Q = Rn 75 B75_0 ls st μ Q := rfl
theorem t75_1 {ls st : List MVal} {μ : MMem} {Q : MVal → MMem → Prop} : At 75 1 ls st μ Q = Rn 75 B75_1 ls st μ Q := rfl
theorem t75_2 {ls st : List MVal} {μ : MMem} {Q : MVal → MMem → Prop} : At 75 2 ls st μ Q = Rn 75 B75_2 ls st μ Q := rfl
theorem t75_3 {ls st : List MVal} {μ : MMem} {Q : MVal → MMem → Prop} : At 75 3 ls st μ Q = Rn 75 B75_3 ls st μ Q := rfl
theorem t75_4 {ls st : List MVal} {μ : MMem} {Q : MVal → MMem → Prop} : At 75 4 ls st μ Q = Rn 75 B75_4 ls st μ Q := rfl
theorem t75_5 {ls st : List MVal} {μ : MMem} {Q : MVal → MMem → Prop} : At 75 5 ls st μ Q = Rn 75 B75_5 ls st μ Q := rfl
theorem t75_6 {ls st : List MVal} {μ : MMem} {Q : MVal → MMem → Prop} : At 75 6 ls st μ Q = Rn 75 B75_6 ls st μ Q := rfl
theorem t76_0 {ls st : List MVal} {μ : MMem} {Q : MVal → MMem → Prop} : At 76 0 ls st μ Q = Rn 76 B76_0 ls st μ Q := rfl
theorem t76_1 {ls st : List MVal} {μ : MMem} {Q : MVal → MMem → Prop} : At 76 1 ls st μ Q = Rn 76 B76_1 ls st μ Q := rfl
theorem t76_2 {ls st : List MVal} {μ : MMem} {Q : MVal → MMem → Prop} : At 76 2 ls st μ Q = Rn 76 B76_2 ls st μ Q := rfl
theorem t77_0 {ls st : List MVal} {μ : MMem} {Q : MVal → MMem → Prop} : At 77 0 ls st μ Q = Rn 77 B77_0 ls st μ Q := rfl
theorem t77_1 {ls st : List MVal} {μ : MMem} {Q : MVal → MMem → Prop} : At 77 1 ls st μ Q = Rn 77 B77_1 ls st μ Q := rfl
theorem t77_2 {ls st : List MVal} {μ : MMem} {Q : MVal → MMem → Prop} : At 77 2 ls st μ Q = Rn 77 B77_2 ls st μ Q := rfl
theorem t77_3 {ls st : List MVal} {μ : MMem} {Q : MVal → MMem → Prop} : At 77 3 ls st μ Q = Rn 77 B77_3 ls st μ Q := rfl
theorem t77_4 {ls st : List MVal} {μ : MMem} {Q : MVal → MMem → Prop} : At 77 4 ls st μ Q = Rn 77 B77_4 ls st μ Q := rfl
theorem t78_0 {ls st : List MVal} {μ : MMem} {Q : MVal → MMem → Prop} : At 78 0 ls st μ Q = Rn 78 B78_0 ls st μ Q := rfl
theorem t78_1 {ls st : List MVal} {μ : MMem} {Q : MVal → MMem → Prop} : At 78 1 ls st μ Q = Rn 78 B78_1 ls st μ Q := rfl
theorem t78_2 {ls st : List MVal} {μ : MMem} {Q : MVal → MMem → Prop} : At 78 2 ls st μ Q = Rn 78 B78_2 ls st μ Q := rfl
theorem t79_0 {ls st : List MVal} {μ : MMem} {Q : MVal → MMem → Prop} : At 79 0 ls st μ Q = Rn 79 B79_0 ls st μ Q := rfl
theorem t80_0 {ls st : List MVal} {μ : MMem} {Q : MVal → MMem → Prop} : At 80 0 ls st μ Q = Rn 80 B80_0 ls st μ Q := rfl
theorem t80_1 {ls st : List MVal} {μ : MMem} {Q : MVal → MMem → Prop} : At 80 1 ls st μ Q = Rn 80 B80_1 ls st μ Q := rfl
theorem t80_2 {ls st : List MVal} {μ : MMem} {Q : MVal → MMem → Prop} : At 80 2 ls st μ Q = Rn 80 B80_2 ls st μ Q := rfl
theorem t80_3 {ls st : List MVal} {μ : MMem} {Q : MVal → MMem → Prop} : At 80 3 ls st μ Q = Rn 80 B80_3 ls st μ Q := rfl
theorem t81_0 {ls st : List MVal} {μ : MMem} {Q : MVal → MMem → Prop} : At 81 0 ls st μ Q = Rn 81 B81_0 ls st μ Q := rfl
theorem t81_1 {ls st : List MVal} {μ : MMem} {Q : MVal → MMem → Prop} : At 81 1 ls st μ Q = Rn 81 B81_1 ls st μ Q := rfl
theorem t81_2 {ls st : List MVal} {μ : MMem} {Q : MVal → MMem → Prop} : At 81 2 ls st μ Q = Rn 81 B81_2 ls st μ Q := rfl
theorem t82_0 {ls st : List MVal} {μ : MMem} {Q : MVal → MMem → Prop} : At 82 0 ls st μ Q = Rn 82 B82_0 ls st μ Q := rfl
theorem t82_1 {ls st : List MVal} {μ : MMem} {Q : MVal → MMem → Prop} : At 82 1 ls st μ Q = Rn 82 B82_1 ls st μ Q := rfl
theorem t82_2 {ls st : List MVal} {μ : MMem} {Q : MVal → MMem → Prop} : At 82 2 ls st μ Q = Rn 82 B82_2 ls st μ Q := rfl
theorem t82_3 {ls st : List MVal} {μ : MMem} {Q : MVal → MMem → Prop} : At 82 3 ls st μ Q = Rn 82 B82_3 ls st μ Q := rfl
theorem t83_0 {ls st : List MVal} {μ : MMem} {Q : MVal → MMem → Prop} : At 83 0 ls st μ Q = Rn 83 B83_0 ls st μ Q := rfl
theorem t83_1 {ls st : List MVal} {μ : MMem} {Q : MVal → MMem → Prop} : At 83 1 ls st μ Q = Rn 83 B83_1 ls st μ Q := rfl
theorem t83_2 {ls st : List MVal} {μ : MMem} {Q : MVal → MMem → Prop} : At 83 2 ls st μ Q = Rn 83 B83_2 ls st μ Q := rfl
theorem t83_3 {ls st : List MVal} {μ : MMem} {Q : MVal → MMem → Prop} : At 83 3 ls st μ Q = Rn 83 B83_3 ls st μ Q := rfl
theorem t84_0 {ls st : List MVal} {μ : MMem} {Q : MVal → MMem → Prop} : At 84 0 ls st μ Q = Rn 84 B84_0 ls st μ Q := rfl
theorem t84_1 {ls st : List MVal} {μ : MMem} {Q : MVal → MMem → Prop} : At 84 1 ls st μ Q = Rn 84 B84_1 ls st μ Q := rfl
theorem t84_2 {ls st : List MVal} {μ : MMem} {Q : MVal → MMem → Prop} : At 84 2 ls st μ Q = Rn 84 B84_2 ls st μ Q := rfl
theorem t84_3 {ls st : List MVal} {μ : MMem} {Q : MVal → MMem → Prop} : At 84 3 ls st μ Q = Rn 84 B84_3 ls st μ Q := rfl
theorem t84_4 {ls st : List MVal} {μ : MMem} {Q : MVal → MMem → Prop} : At 84 4 ls st μ Q = Rn 84 B84_4 ls st μ Q := rfl
theorem t84_5 {ls st : List MVal} {μ : MMem} {Q : MVal → MMem → Prop} : At 84 5 ls st μ Q = Rn 84 B84_5 ls st μ Q := rfl
theorem t84_6 {ls st : List MVal} {μ : MMem} {Q : MVal → MMem → Prop} : At 84 6 ls st μ Q = Rn 84 B84_6 ls st μ Q := rfl
theorem t84_7 {ls st : List MVal} {μ : MMem} {Q : MVal → MMem → Prop} : At 84 7 ls st μ Q = Rn 84 B84_7 ls st μ Q := rfl
theorem t85_0 {ls st : List MVal} {μ : MMem} {Q : MVal → MMem → Prop} : At 85 0 ls st μ Q = Rn 85 B85_0 ls st μ Q := rfl
theorem t85_1 {ls st : List MVal} {μ : MMem} {Q : MVal → MMem → Prop} : At 85 1 ls st μ Q = Rn 85 B85_1 ls st μ Q := rfl
theorem t85_2 {ls st : List MVal} {μ : MMem} {Q : MVal → MMem → Prop} : At 85 2 ls st μ Q = Rn 85 B85_2 ls st μ Q := rfl
theorem t85_3 {ls st : List MVal} {μ : MMem} {Q : MVal → MMem → Prop} : At 85 3 ls st μ Q = Rn 85 B85_3 ls st μ Q := rfl
theorem t85_4 {ls st : List MVal} {μ : MMem} {Q : MVal → MMem → Prop} : At 85 4 ls st μ Q = Rn 85 B85_4 ls st μ Q := rfl
theorem t85_5 {ls st : List MVal} {μ : MMem} {Q : MVal → MMem → Prop} : At 85 5 ls st μ Q = Rn 85 B85_5 ls st μ Q := rfl
theorem t86_0 {ls st : List MVal} {μ : MMem} {Q : MVal → MMem → Prop} : At 86 0 ls st μ Q = Rn 86 B86_0 ls st μ Q := rfl
theorem t86_1 {ls st : List MVal} {μ : MMem} {Q : MVal → MMem → Prop} : At 86 1 ls st μ Q = Rn 86 B86_1 ls st μ Q := rfl
theorem t86_2 {ls st : List MVal} {μ : MMem} {Q : MVal → MMem → Prop} : At 86 2 ls st μ Q = Rn 86 B86_2 ls st μ Q := rfl
theorem t86_3 {ls st : List MVal} {μ : MMem} {Q : MVal → MMem → Prop} : At 86 3 ls st μ Q = Rn 86 B86_3 ls st μ Q := rfl
theorem t86_4 {ls st : List MVal} {μ : MMem} {Q : MVal → MMem → Prop} : At 86 4 ls st μ Q = Rn 86 B86_4 ls st μ Q := rfl
theorem t86_5 {ls st : List MVal} {μ : MMem} {Q : MVal → MMem → Prop} : At 86 5 ls st μ Q = Rn 86 B86_5 ls st μ Q := rfl
theorem t86_6 {ls st : List MVal} {μ : MMem} {Q : MVal → MMem → Prop} : At 86 6 ls st μ Q = Rn 86 B86_6 ls st μ Q := rfl
theorem t86_7 {ls st : List MVal} {μ : MMem} {Q : MVal → MMem → Prop} : At 86 7 ls st μ Q = Rn 86 B86_7 ls st μ Q := rfl
theorem t86_8 {ls st : List MVal} {μ : MMem} {Q : MVal → MMem → Prop} : At 86 8 ls st μ Q = Rn 86 B86_8 ls st μ Q := rfl
theorem t86_9 {ls st : List MVal} {μ : MMem} {Q : MVal → MMem → Prop} : At 86 9 ls st μ Q = Rn 86 B86_9 ls st μ Q := rfl
theorem t86_10 {ls st : List MVal} {μ : MMem} {Q : MVal → MMem → Prop} : At 86 10 ls st μ Q = Rn 86 B86_10 ls st μ Q := rfl
theorem t87_0 {ls st : List MVal} {μ : MMem} {Q : MVal → MMem → Prop} : At 87 0 ls st μ Q = Rn 87 B87_0 ls st μ Q := rfl
theorem t87_1 {ls st : List MVal} {μ : MMem} {Q : MVal → MMem → Prop} : At 87 1 ls st μ Q = Rn 87 B87_1 ls st μ Q := rfl
theorem t87_2 {ls st : List MVal} {μ : MMem} {Q : MVal → MMem → Prop} : At 87 2 ls st μ Q = Rn 87 B87_2 ls st μ Q := rfl
theorem t87_3 {ls st : List MVal} {μ : MMem} {Q : MVal → MMem → Prop} : At 87 3 ls st μ Q = Rn 87 B87_3 ls st μ Q := rfl
theorem t87_4 {ls st : List MVal} {μ : MMem} {Q : MVal → MMem → Prop} : At 87 4 ls st μ Q = Rn 87 B87_4 ls st μ Q := rfl
theorem t87_5 {ls st : List MVal} {μ : MMem} {Q : MVal → MMem → Prop} : At 87 5 ls st μ Q = Rn 87 B87_5 ls st μ Q := rfl
theorem t87_6 {ls st : List MVal} {μ : MMem} {Q : MVal → MMem → Prop} : At 87 6 ls st μ Q = Rn 87 B87_6 ls st μ Q := rfl
theorem t87_7 {ls st : List MVal} {μ : MMem} {Q : MVal → MMem → Prop} : At 87 7 ls st μ Q = Rn 87 B87_7 ls st μ Q := rfl
theorem t87_8 {ls st : List MVal} {μ : MMem} {Q : MVal → MMem → Prop} : At 87 8 ls st μ Q = Rn 87 B87_8 ls st μ Q := rfl
theorem t88_0 {ls st : List MVal} {μ : MMem} {Q : MVal → MMem → Prop} : At 88 0 ls st μ Q = Rn 88 B88_0 ls st μ Q := rfl
theorem t88_1 {ls st : List MVal} {μ : MMem} {Q : MVal → MMem → Prop} : At 88 1 ls st μ Q = Rn 88 B88_1 ls st μ Q := rfl
theorem t88_2 {ls st : List MVal} {μ : MMem} {Q : MVal → MMem → Prop} : At 88 2 ls st μ Q = Rn 88 B88_2 ls st μ Q := rfl
theorem t88_3 {ls st : List MVal} {μ : MMem} {Q : MVal → MMem → Prop} : At 88 3 ls st μ Q = Rn 88 B88_3 ls st μ Q := rfl
theorem t88_4 {ls st : List MVal} {μ : MMem} {Q : MVal → MMem → Prop} : At 88 4 ls st μ Q = Rn 88 B88_4 ls st μ Q := rfl
theorem t89_0 {ls st : List MVal} {μ : MMem} {Q : MVal → MMem → Prop} : At 89 0 ls st μ Q = Rn 89 B89_0 ls st μ Q := rfl
theorem t89_1 {ls st : List MVal} {μ : MMem} {Q : MVal → MMem → Prop} : At 89 1 ls st μ Q = Rn 89 B89_1 ls st μ Q := rfl
theorem t89_2 {ls st : List MVal} {μ : MMem} {Q : MVal → MMem → Prop} : At 89 2 ls st μ Q = Rn 89 B89_2 ls st μ Q := rfl
theorem t89_3 {ls st : List MVal} {μ : MMem} {Q : MVal → MMem → Prop} : At 89 3 ls st μ Q = Rn 89 B89_3 ls st μ Q := rfl
theorem t89_4 {ls st : List MVal} {μ : MMem} {Q : MVal → MMem → Prop} : At 89 4 ls st μ Q = Rn 89 B89_4 ls st μ Q := rfl
theorem t89_5 {ls st : List MVal} {μ : MMem} {Q : MVal → MMem → Prop} : At 89 5 ls st μ Q = Rn 89 B89_5 ls st μ Q := rfl
theorem t89_6 {ls st : List MVal} {μ : MMem} {Q : MVal → MMem → Prop} : At 89 6 ls st μ Q = Rn 89 B89_6 ls st μ Q := rfl
theorem t90_0 {ls st : List MVal} {μ : MMem} {Q : MVal → MMem → Prop} : At 90 0 ls st μ Q = Rn 90 B90_0 ls st μ Q := rfl
theorem t91_0 {ls st : List MVal} {μ : MMem} {Q : MVal → MMem → Prop} : At 91 0 ls st μ Q = Rn 91 B91_0 ls st μ Q := rfl
theorem t92_0 {ls st : List MVal} {μ : MMem} {Q : MVal → MMem → Prop} : At 92 0 ls st μ Q = Rn 92 B92_0 ls st μ Q := rfl
theorem t92_1 {ls st : List MVal} {μ : MMem} {Q : MVal → MMem → Prop} : At 92 1 ls st μ Q = Rn 92 B92_1 ls st μ Q := rfl
theorem t92_2 {ls st : List MVal} {μ : MMem} {Q : MVal → MMem → Prop} : At 92 2 ls st μ Q = Rn 92 B92_2 ls st μ Q := rfl
theorem t93_0 {ls st : List MVal} {μ : MMem} {Q : MVal → MMem → Prop} : At 93 0 ls st μ Q = Rn 93 B93_0 ls st μ Q := rfl
theorem t93_1 {ls st : List MVal} {μ : MMem} {Q : MVal → MMem → Prop} : At 93 1 ls st μ Q = Rn 93 B93_1 ls st μ Q := rfl
theorem t93_2 {ls st : List MVal} {μ : MMem} {Q : MVal → MMem → Prop} : At 93 2 ls st μ Q = Rn 93 B93_2 ls st μ Q := rfl
theorem t94_0 {ls st : List MVal} {μ : MMem} {Q : MVal → MMem → Prop} : At 94 0 ls st μ Q = Rn 94 B94_0 ls st μ Q := rfl
theorem t94_1 {ls st : List MVal} {μ : MMem} {Q : MVal → MMem → Prop} : At 94 1 ls st μ Q = Rn 94 B94_1 ls st μ Q := rfl
theorem t94_2 {ls st : List MVal} {μ : MMem} {Q : MVal → MMem → Prop} : At 94 2 ls st μ Q = Rn 94 B94_2 ls st μ Q := rfl
theorem t95_0 {ls st : List MVal} {μ : MMem} {Q : MVal → MMem → Prop} : At 95 0 ls st μ Q = Rn 95 B95_0 ls st μ Q := rfl
theorem t95_1 {ls st : List MVal} {μ : MMem} {Q : MVal → MMem → Prop} : At 95 1 ls st μ Q = Rn 95 B95_1 ls st μ Q := rfl
theorem t95_2 {ls st : List MVal} {μ : MMem} {Q : MVal → MMem → Prop} : At 95 2 ls st μ Q = Rn 95 B95_2 ls st μ Q := rfl
theorem t96_0 {ls st : List MVal} {μ : MMem} {Q : MVal → MMem → Prop} : At 96 0 ls st μ Q = Rn 96 B96_0 ls st μ Q := rfl
theorem t96_1 {ls st : List MVal} {μ : MMem} {Q : MVal → MMem → Prop} : At 96 1 ls st μ Q = Rn 96 B96_1 ls st μ Q := rfl
theorem t96_2 {ls st : List MVal} {μ : MMem} {Q : MVal → MMem → Prop} : At 96 2 ls st μ Q = Rn 96 B96_2 ls st μ Q := rfl
theorem t97_0 {ls st : List MVal} {μ : MMem} {Q : MVal → MMem → Prop} : At 97 0 ls st μ Q = Rn 97 B97_0 ls st μ Q := rfl
theorem t97_1 {ls st : List MVal} {μ : MMem} {Q : MVal → MMem → Prop} : At 97 1 ls st μ Q = Rn 97 B97_1 ls st μ Q := rfl
theorem t97_2 {ls st : List MVal} {μ : MMem} {Q : MVal → MMem → Prop} : At 97 2 ls st μ Q = Rn 97 B97_2 ls st μ Q := rfl
theorem t97_3 {ls st : List MVal} {μ : MMem} {Q : MVal → MMem → Prop} : At 97 3 ls st μ Q = Rn 97 B97_3 ls st μ Q := rfl
theorem t98_0 {ls st : List MVal} {μ : MMem} {Q : MVal → MMem → Prop} : At 98 0 ls st μ Q = Rn 98 B98_0 ls st μ Q := rfl
theorem t98_1 {ls st : List MVal} {μ : MMem} {Q : MVal → MMem → Prop} : At 98 1 ls st μ Q = Rn 98 B98_1 ls st μ Q := rfl
theorem t98_2 {ls st : List MVal} {μ : MMem} {Q : MVal → MMem → Prop} : At 98 2 ls st μ Q = Rn 98 B98_2 ls st μ Q := rfl
theorem t99_0 {ls st : List MVal} {μ : MMem} {Q : MVal → MMem → Prop} : At 99 0 ls st μ Q = Rn 99 B99_0 ls st μ Q := rfl
theorem t100_0 {ls st : List MVal} {μ : MMem} {Q : MVal → MMem → Prop} : At 100 0 ls st μ Q = Rn 100 B100_0 ls st μ Q := rfl
theorem t101_0 {ls st : List MVal} {μ : MMem} {Q : MVal → MMem → Prop} : At 101 0 ls st μ Q = Rn 101 B101_0 ls st μ Q := rfl
theorem t101_1 {ls st : List MVal} {μ : MMem} {Q : MVal → MMem → Prop} : At 101 1 ls st μ Q = Rn 101 B101_1 ls st μ Q := rfl
theorem t101_2 {ls st : List MVal} {μ : MMem} {Q : MVal → MMem → Prop} : At 101 2 ls st μ Q = Rn 101 B101_2 ls st μ Q := rfl
theorem t101_3 {ls st : List MVal} {μ : MMem} {Q : MVal → MMem → Prop} : At 101 3 ls st μ Q = Rn 101 B101_3 ls st μ Q := rfl
theorem t102_0 {ls st : List MVal} {μ : MMem} {Q : MVal → MMem → Prop} : At 102 0 ls st μ Q = Rn 102 B102_0 ls st μ Q := rfl
theorem t102_1 {ls st : List MVal} {μ : MMem} {Q : MVal → MMem → Prop} : At 102 1 ls st μ Q = Rn 102 B102_1 ls st μ Q := rfl
theorem t102_2 {ls st : List MVal} {μ : MMem} {Q : MVal → MMem → Prop} : At 102 2 ls st μ Q = Rn 102 B102_2 ls st μ Q := rfl
theorem t103_0 {ls st : List MVal} {μ : MMem} {Q : MVal → MMem → Prop} : At 103 0 ls st μ Q = Rn 103 B103_0 ls st μ Q := rfl
theorem t104_0 {ls st : List MVal} {μ : MMem} {Q : MVal → MMem → Prop} : At 104 0 ls st μ Q = Rn 104 B104_0 ls st μ Q := rfl
theorem t105_0 {ls st : List MVal} {μ : MMem} {Q : MVal → MMem → Prop} : At 105 0 ls st μ Q = Rn 105 B105_0 ls st μ Q := rfl
theorem t105_1 {ls st : List MVal} {μ : MMem} {Q : MVal → MMem → Prop} : At 105 1 ls st μ Q = Rn 105 B105_1 ls st μ Q := rfl
theorem t105_2 {ls st : List MVal} {μ : MMem} {Q : MVal → MMem → Prop} : At 105 2 ls st μ Q = Rn 105 B105_2 ls st μ Q := rfl
theorem t106_0 {ls st : List MVal} {μ : MMem} {Q : MVal → MMem → Prop} : At 106 0 ls st μ Q = Rn 106 B106_0 ls st μ Q := rfl
theorem t106_1 {ls st : List MVal} {μ : MMem} {Q : MVal → MMem → Prop} : At 106 1 ls st μ Q = Rn 106 B106_1 ls st μ Q := rfl
theorem t106_2 {ls st : List MVal} {μ : MMem} {Q : MVal → MMem → Prop} : At 106 2 ls st μ Q = Rn 106 B106_2 ls st μ Q := rfl
theorem t107_0 {ls st : List MVal} {μ : MMem} {Q : MVal → MMem → Prop} : At 107 0 ls st μ Q = Rn 107 B107_0 ls st μ Q := rfl
theorem t107_1 {ls st : List MVal} {μ : MMem} {Q : MVal → MMem → Prop} : At 107 1 ls st μ Q = Rn 107 B107_1 ls st μ Q := rfl
theorem t107_2 {ls st : List MVal} {μ : MMem} {Q : MVal → MMem → Prop} : At 107 2 ls st μ Q = Rn 107 B107_2 ls st μ Q := rfl
theorem t108_0 {ls st : List MVal} {μ : MMem} {Q : MVal → MMem → Prop} : At 108 0 ls st μ Q = Rn 108 B108_0 ls st μ Q := rfl
theorem t108_1 {ls st : List MVal} {μ : MMem} {Q : MVal → MMem → Prop} : At 108 1 ls st μ Q = Rn 108 B108_1 ls st μ Q := rfl
theorem t108_2 {ls st : List MVal} {μ : MMem} {Q : MVal → MMem → Prop} : At 108 2 ls st μ Q = Rn 108 B108_2 ls st μ Q := rfl
theorem t109_0 {ls st : List MVal} {μ : MMem} {Q : MVal → MMem → Prop} : At 109 0 ls st μ Q = Rn 109 B109_0 ls st μ Q := rfl
theorem t109_1 {ls st : List MVal} {μ : MMem} {Q : MVal → MMem → Prop} : At 109 1 ls st μ Q = Rn 109 B109_1 ls st μ Q := rfl
theorem t109_2 {ls st : List MVal} {μ : MMem} {Q : MVal → MMem → Prop} : At 109 2 ls st μ Q = Rn 109 B109_2 ls st μ Q := rfl
theorem t109_3 {ls st : List MVal} {μ : MMem} {Q : MVal → MMem → Prop} : At 109 3 ls st μ Q = Rn 109 B109_3 ls st μ Q := rfl
theorem t109_4 {ls st : List MVal} {μ : MMem} {Q : MVal → MMem → Prop} : At 109 4 ls st μ Q = Rn 109 B109_4 ls st μ Q := rfl
theorem t110_0 {ls st : List MVal} {μ : MMem} {Q : MVal → MMem → Prop} : At 110 0 ls st μ Q = Rn 110 B110_0 ls st μ Q := rfl
theorem t111_0 {ls st : List MVal} {μ : MMem} {Q : MVal → MMem → Prop} : At 111 0 ls st μ Q = Rn 111 B111_0 ls st μ Q := rfl
theorem t112_0 {ls st : List MVal} {μ : MMem} {Q : MVal → MMem → Prop} : At 112 0 ls st μ Q = Rn 112 B112_0 ls st μ Q := rfl
theorem t112_1 {ls st : List MVal} {μ : MMem} {Q : MVal → MMem → Prop} : At 112 1 ls st μ Q = Rn 112 B112_1 ls st μ Q := rfl
theorem t112_2 {ls st : List MVal} {μ : MMem} {Q : MVal → MMem → Prop} : At 112 2 ls st μ Q = Rn 112 B112_2 ls st μ Q := rfl
theorem t112_3 {ls st : List MVal} {μ : MMem} {Q : MVal → MMem → Prop} : At 112 3 ls st μ Q = Rn 112 B112_3 ls st μ Q := rfl
theorem t112_4 {ls st : List MVal} {μ : MMem} {Q : MVal → MMem → Prop} : At 112 4 ls st μ Q = Rn 112 B112_4 ls st μ Q := rfl
theorem t112_5 {ls st : List MVal} {μ : MMem} {Q : MVal → MMem → Prop} : At 112 5 ls st μ Q = Rn 112 B112_5 ls st μ Q := rfl
theorem t113_0 {ls st : List MVal} {μ : MMem} {Q : MVal → MMem → Prop} : At 113 0 ls st μ Q = Rn 113 B113_0 ls st μ Q := rfl
theorem t113_1 {ls st : List MVal} {μ : MMem} {Q : MVal → MMem → Prop} : At 113 1 ls st μ Q = Rn 113 B113_1 ls st μ Q := rfl
theorem t113_2 {ls st : List MVal} {μ : MMem} {Q : MVal → MMem → Prop} : At 113 2 ls st μ Q = Rn 113 B113_2 ls st μ Q := rfl
theorem t114_0 {ls st : List MVal} {μ : MMem} {Q : MVal → MMem → Prop} : At 114 0 ls st μ Q = Rn 114 B114_0 ls st μ Q := rfl
theorem t114_1 {ls st : List MVal} {μ : MMem} {Q : MVal → MMem → Prop} : At 114 1 ls st μ Q = Rn 114 B114_1 ls st μ Q := rfl
theorem t114_2 {ls st : List MVal} {μ : MMem} {Q : MVal → MMem → Prop} : At 114 2 ls st μ Q = Rn 114 B114_2 ls st μ Q := rfl
theorem t114_3 {ls st : List MVal} {μ : MMem} {Q : MVal → MMem → Prop} : At 114 3 ls st μ Q = Rn 114 B114_3 ls st μ Q := rfl
theorem t114_4 {ls st : List MVal} {μ : MMem} {Q : MVal → MMem → Prop} : At 114 4 ls st μ Q = Rn 114 B114_4 ls st μ Q := rfl
theorem t115_0 {ls st : List MVal} {μ : MMem} {Q : MVal → MMem → Prop} : At 115 0 ls st μ Q = Rn 115 B115_0 ls st μ Q := rfl
theorem t115_1 {ls st : List MVal} {μ : MMem} {Q : MVal → MMem → Prop} : At 115 1 ls st μ Q = Rn 115 B115_1 ls st μ Q := rfl
theorem t115_2 {ls st : List MVal} {μ : MMem} {Q : MVal → MMem → Prop} : At 115 2 ls st μ Q = Rn 115 B115_2 ls st μ Q := rfl
theorem t115_3 {ls st : List MVal} {μ : MMem} {Q : MVal → MMem → Prop} : At 115 3 ls st μ Q = Rn 115 B115_3 ls st μ Q := rfl
theorem t116_0 {ls st : List MVal} {μ : MMem} {Q : MVal → MMem → Prop} : At 116 0 ls st μ Q = Rn 116 B116_0 ls st μ Q := rfl
theorem t116_1 {ls st : List MVal} {μ : MMem} {Q : MVal → MMem → Prop} : At 116 1 ls st μ Q = Rn 116 B116_1 ls st μ Q := rfl
theorem t116_2 {ls st : List MVal} {μ : MMem} {Q : MVal → MMem → Prop} : At 116 2 ls st μ Q = Rn 116 B116_2 ls st μ Q := rfl
theorem t116_3 {ls st : List MVal} {μ : MMem} {Q : MVal → MMem → Prop} : At 116 3 ls st μ Q = Rn 116 B116_3 ls st μ Q := rfl
theorem t117_0 {ls st : List MVal} {μ : MMem} {Q : MVal → MMem → Prop} : At 117 0 ls st μ Q = Rn 117 B117_0 ls st μ Q := rfl
theorem t117_1 {ls st : List MVal} {μ : MMem} {Q : MVal → MMem → Prop} : At 117 1 ls st μ Q = Rn 117 B117_1 ls st μ Q := rfl
theorem t117_2 {ls st : List MVal} {μ : MMem} {Q : MVal → MMem → Prop} : At 117 2 ls st μ Q = Rn 117 B117_2 ls st μ Q := rfl
theorem t118_0 {ls st : List MVal} {μ : MMem} {Q : MVal → MMem → Prop} : At 118 0 ls st μ Q = Rn 118 B118_0 ls st μ Q := rfl
theorem t118_1 {ls st : List MVal} {μ : MMem} {Q : MVal → MMem → Prop} : At 118 1 ls st μ Q = Rn 118 B118_1 ls st μ Q := rfl
theorem t118_2 {ls st : List MVal} {μ : MMem} {Q : MVal → MMem → Prop} : At 118 2 ls st μ Q = Rn 118 B118_2 ls st μ Q := rfl
theorem t118_3 {ls st : List MVal} {μ : MMem} {Q : MVal → MMem → Prop} : At 118 3 ls st μ Q = Rn 118 B118_3 ls st μ Q := rfl
theorem t118_4 {ls st : List MVal} {μ : MMem} {Q : MVal → MMem → Prop} : At 118 4 ls st μ Q = Rn 118 B118_4 ls st μ Q := rfl
theorem t118_5 {ls st : List MVal} {μ : MMem} {Q : MVal → MMem → Prop} : At 118 5 ls st μ Q = Rn 118 B118_5 ls st μ Q := rfl
theorem t118_6 {ls st : List MVal} {μ : MMem} {Q : MVal → MMem → Prop} : At 118 6 ls st μ Q = Rn 118 B118_6 ls st μ Q := rfl
theorem t118_7 {ls st : List MVal} {μ : MMem} {Q : MVal → MMem → Prop} : At 118 7 ls st μ Q = Rn 118 B118_7 ls st μ Q := rfl
theorem t118_8 {ls st : List MVal} {μ : MMem} {Q : MVal → MMem → Prop} : At 118 8 ls st μ Q = Rn 118 B118_8 ls st μ Q := rfl
theorem t118_9 {ls st : List MVal} {μ : MMem} {Q : MVal → MMem → Prop} : At 118 9 ls st μ Q = Rn 118 B118_9 ls st μ Q := rfl
theorem t118_10 {ls st : List MVal} {μ : MMem} {Q : MVal → MMem → Prop} : At 118 10 ls st μ Q = Rn 118 B118_10 ls st μ Q := rfl
theorem t118_11 {ls st : List MVal} {μ : MMem} {Q : MVal → MMem → Prop} : At 118 11 ls st μ Q = Rn 118 B118_11 ls st μ Q := rfl
theorem t119_0 {ls st : List MVal} {μ : MMem} {Q : MVal → MMem → Prop} : At 119 0 ls st μ Q = Rn 119 B119_0 ls st μ Q := rfl
theorem t119_1 {ls st : List MVal} {μ : MMem} {Q : MVal → MMem → Prop} : At 119 1 ls st μ Q = Rn 119 B119_1 ls st μ Q := rfl
theorem t119_2 {ls st : List MVal} {μ : MMem} {Q : MVal → MMem → Prop} : At 119 2 ls st μ Q = Rn 119 B119_2 ls st μ Q := rfl
theorem t119_3 {ls st : List MVal} {μ : MMem} {Q : MVal → MMem → Prop} : At 119 3 ls st μ Q = Rn 119 B119_3 ls st μ Q := rfl
theorem t119_4 {ls st : List MVal} {μ : MMem} {Q : MVal → MMem → Prop} : At 119 4 ls st μ Q = Rn 119 B119_4 ls st μ Q := rfl
theorem t119_5 {ls st : List MVal} {μ : MMem} {Q : MVal → MMem → Prop} : At 119 5 ls st μ Q = Rn 119 B119_5 ls st μ Q := rfl
theorem t120_0 {ls st : List MVal} {μ : MMem} {Q : MVal → MMem → Prop} : At 120 0 ls st μ Q = Rn 120 B120_0 ls st μ Q := rfl
theorem t120_1 {ls st : List MVal} {μ : MMem} {Q : MVal → MMem → Prop} : At 120 1 ls st μ Q = Rn 120 B120_1 ls st μ Q := rfl
theorem t121_0 {ls st : List MVal} {μ : MMem} {Q : MVal → MMem → Prop} : At 121 0 ls st μ Q = Rn 121 B121_0 ls st μ Q := rfl
theorem t121_1 {ls st : List MVal} {μ : MMem} {Q : MVal → MMem → Prop} : At 121 1 ls st μ Q = Rn 121 B121_1 ls st μ Q := rfl
theorem t121_2 {ls st : List MVal} {μ : MMem} {Q : MVal → MMem → Prop} : At 121 2 ls st μ Q = Rn 121 B121_2 ls st μ Q := rfl
theorem t122_0 {ls st : List MVal} {μ : MMem} {Q : MVal → MMem → Prop} : At 122 0 ls st μ Q = Rn 122 B122_0 ls st μ Q := rfl
theorem t122_1 {ls st : List MVal} {μ : MMem} {Q : MVal → MMem → Prop} : At 122 1 ls st μ Q = Rn 122 B122_1 ls st μ Q := rfl
theorem t122_2 {ls st : List MVal} {μ : MMem} {Q : MVal → MMem → Prop} : At 122 2 ls st μ Q = Rn 122 B122_2 ls st μ Q := rfl
theorem t123_0 {ls st : List MVal} {μ : MMem} {Q : MVal → MMem → Prop} : At 123 0 ls st μ Q = Rn 123 B123_0 ls st μ Q := rfl
theorem t123_1 {ls st : List MVal} {μ : MMem} {Q : MVal → MMem → Prop} : At 123 1 ls st μ Q = Rn 123 B123_1 ls st μ Q := rfl
theorem t123_2 {ls st : List MVal} {μ : MMem} {Q : MVal → MMem → Prop} : At 123 2 ls st μ Q = Rn 123 B123_2 ls st μ Q := rfl
theorem t124_0 {ls st : List MVal} {μ : MMem} {Q : MVal → MMem → Prop} : At 124 0 ls st μ Q = Rn 124 B124_0 ls st μ Q := rfl
theorem t124_1 {ls st : List MVal} {μ : MMem} {Q : MVal → MMem → Prop} : At 124 1 ls st μ Q = Rn 124 B124_1 ls st μ Q := rfl
theorem t124_2 {ls st : List MVal} {μ : MMem} {Q : MVal → MMem → Prop} : At 124 2 ls st μ Q = Rn 124 B124_2 ls st μ Q := rfl
theorem t124_3 {ls st : List MVal} {μ : MMem} {Q : MVal → MMem → Prop} : At 124 3 ls st μ Q = Rn 124 B124_3 ls st μ Q := rfl
theorem t124_4 {ls st : List MVal} {μ : MMem} {Q : MVal → MMem → Prop} : At 124 4 ls st μ Q = Rn 124 B124_4 ls st μ Q := rfl
theorem t124_5 {ls st : List MVal} {μ : MMem} {Q : MVal → MMem → Prop} : At 124 5 ls st μ Q = Rn 124 B124_5 ls st μ Q := rfl
theorem t124_6 {ls st : List MVal} {μ : MMem} {Q : MVal → MMem → Prop} : At 124 6 ls st μ Q = Rn 124 B124_6 ls st μ Q := rfl
theorem t124_7 {ls st : List MVal} {μ : MMem} {Q : MVal → MMem → Prop} : At 124 7 ls st μ Q = Rn 124 B124_7 ls st μ Q := rfl
theorem t124_8 {ls st : List MVal} {μ : MMem} {Q : MVal → MMem → Prop} : At 124 8 ls st μ Q = Rn 124 B124_8 ls st μ Q := rfl
theorem t125_0 {ls st : List MVal} {μ : MMem} {Q : MVal → MMem → Prop} : At 125 0 ls st μ Q = Rn 125 B125_0 ls st μ Q := rfl
theorem t125_1 {ls st : List MVal} {μ : MMem} {Q : MVal → MMem → Prop} : At 125 1 ls st μ Q = Rn 125 B125_1 ls st μ Q := rfl
theorem t125_2 {ls st : List MVal} {μ : MMem} {Q : MVal → MMem → Prop} : At 125 2 ls st μ Q = Rn 125 B125_2 ls st μ Q := rfl
theorem t125_3 {ls st : List MVal} {μ : MMem} {Q : MVal → MMem → Prop} : At 125 3 ls st μ Q = Rn 125 B125_3 ls st μ Q := rfl
theorem t125_4 {ls st : List MVal} {μ : MMem} {Q : MVal → MMem → Prop} : At 125 4 ls st μ Q = Rn 125 B125_4 ls st μ Q := rfl
theorem t125_5 {ls st : List MVal} {μ : MMem} {Q : MVal → MMem → Prop} : At 125 5 ls st μ Q = Rn 125 B125_5 ls st μ Q := rfl
theorem t125_6 {ls st : List MVal} {μ : MMem} {Q : MVal → MMem → Prop} : At 125 6 ls st μ Q = Rn 125 B125_6 ls st μ Q := rfl
theorem t125_7 {ls st : List MVal} {μ : MMem} {Q : MVal → MMem → Prop} : At 125 7 ls st μ Q = Rn 125 B125_7 ls st μ Q := rfl
theorem t126_0 {ls st : List MVal} {μ : MMem} {Q : MVal → MMem → Prop} : At 126 0 ls st μ Q = Rn 126 B126_0 ls st μ Q := rfl
theorem t126_1 {ls st : List MVal} {μ : MMem} {Q : MVal → MMem → Prop} : At 126 1 ls st μ Q = Rn 126 B126_1 ls st μ Q := rfl
theorem t126_2 {ls st : List MVal} {μ : MMem} {Q : MVal → MMem → Prop} : At 126 2 ls st μ Q = Rn 126 B126_2 ls st μ Q := rfl
theorem t127_0 {ls st : List MVal} {μ : MMem} {Q : MVal → MMem → Prop} : At 127 0 ls st μ Q = Rn 127 B127_0 ls st μ Q := rfl
theorem t127_1 {ls st : List MVal} {μ : MMem} {Q : MVal → MMem → Prop} : At 127 1 ls st μ Q = Rn 127 B127_1 ls st μ Q := rfl
theorem t127_2 {ls st : List MVal} {μ : MMem} {Q : MVal → MMem → Prop} : At 127 2 ls st μ Q = Rn 127 B127_2 ls st μ Q := rfl
theorem t127_3 {ls st : List MVal} {μ : MMem} {Q : MVal → MMem → Prop} : At 127 3 ls st μ Q = Rn 127 B127_3 ls st μ Q := rfl
theorem t127_4 {ls st : List MVal} {μ : MMem} {Q : MVal → MMem → Prop} : At 127 4 ls st μ Q = Rn 127 B127_4 ls st μ Q := rfl
theorem t127_5 {ls st : List MVal} {μ : MMem} {Q : MVal → MMem → Prop} : At 127 5 ls st μ Q = Rn 127 B127_5 ls st μ Q := rfl
theorem t127_6 {ls st : List MVal} {μ : MMem} {Q : MVal → MMem → Prop} : At 127 6 ls st μ Q = Rn 127 B127_6 ls st μ Q := rfl
theorem t127_7 {ls st : List MVal} {μ : MMem} {Q : MVal → MMem → Prop} : At 127 7 ls st μ Q = Rn 127 B127_7 ls st μ Q := rfl
theorem t128_0 {ls st : List MVal} {μ : MMem} {Q : MVal → MMem → Prop} : At 128 0 ls st μ Q = Rn 128 B128_0 ls st μ Q := rfl
theorem t128_1 {ls st : List MVal} {μ : MMem} {Q : MVal → MMem → Prop} : At 128 1 ls st μ Q = Rn 128 B128_1 ls st μ Q := rfl
theorem t128_2 {ls st : List MVal} {μ : MMem} {Q : MVal → MMem → Prop} : At 128 2 ls st μ Q = Rn 128 B128_2 ls st μ Q := rfl
theorem t128_3 {ls st : List MVal} {μ : MMem} {Q : MVal → MMem → Prop} : At 128 3 ls st μ Q = Rn 128 B128_3 ls st μ Q := rfl
theorem t128_4 {ls st : List MVal} {μ : MMem} {Q : MVal → MMem → Prop} : At 128 4 ls st μ Q = Rn 128 B128_4 ls st μ Q := rfl
theorem t128_5 {ls st : List MVal} {μ : MMem} {Q : MVal → MMem → Prop} : At 128 5 ls st μ Q = Rn 128 B128_5 ls st μ Q := rfl
theorem t128_6 {ls st : List MVal} {μ : MMem} {Q : MVal → MMem → Prop} : At 128 6 ls st μ Q = Rn 128 B128_6 ls st μ Q := rfl
theorem t128_7 {ls st : List MVal} {μ : MMem} {Q : MVal → MMem → Prop} : At 128 7 ls st μ Q = Rn 128 B128_7 ls st μ Q := rfl
theorem t129_0 {ls st : List MVal} {μ : MMem} {Q : MVal → MMem → Prop} : At 129 0 ls st μ Q = Rn 129 B129_0 ls st μ Q := rfl
theorem t129_1 {ls st : List MVal} {μ : MMem} {Q : MVal → MMem → Prop} : At 129 1 ls st μ Q = Rn 129 B129_1 ls st μ Q := rfl
theorem t129_2 {ls st : List MVal} {μ : MMem} {Q : MVal → MMem → Prop} : At 129 2 ls st μ Q = Rn 129 B129_2 ls st μ Q := rfl
theorem t130_0 {ls st : List MVal} {μ : MMem} {Q : MVal → MMem → Prop} : At 130 0 ls st μ Q = Rn 130 B130_0 ls st μ Q := rfl
theorem t130_1 {ls st : List MVal} {μ : MMem} {Q : MVal → MMem → Prop} : At 130 1 ls st μ Q = Rn 130 B130_1 ls st μ Q := rfl
theorem t130_2 {ls st : List MVal} {μ : MMem} {Q : MVal → MMem → Prop} : At 130 2 ls st μ Q = Rn 130 B130_2 ls st μ Q := rfl
theorem t131_0 {ls st : List MVal} {μ : MMem} {Q : MVal → MMem → Prop} : At 131 0 ls st μ Q = Rn 131 B131_0 ls st μ Q := rfl
theorem t132_0 {ls st : List MVal} {μ : MMem} {Q : MVal → MMem → Prop} : At 132 0 ls st μ Q = Rn 132 B132_0 ls st μ Q := rfl
theorem t133_0 {ls st : List MVal} {μ : MMem} {Q : MVal → MMem → Prop} : At 133 0 ls st μ Q = Rn 133 B133_0 ls st μ Q := rfl
theorem t134_0 {ls st : List MVal} {μ : MMem} {Q : MVal → MMem → Prop} : At 134 0 ls st μ Q = Rn 134 B134_0 ls st μ Q := rfl
theorem t134_1 {ls st : List MVal} {μ : MMem} {Q : MVal → MMem → Prop} : At 134 1 ls st μ Q = Rn 134 B134_1 ls st μ Q := rfl
theorem t134_2 {ls st : List MVal} {μ : MMem} {Q : MVal → MMem → Prop} : At 134 2 ls st μ Q = Rn 134 B134_2 ls st μ Q := rfl
theorem t135_0 {ls st : List MVal} {μ : MMem} {Q : MVal → MMem → Prop} : At 135 0 ls st μ Q = Rn 135 B135_0 ls st μ Q := rfl
theorem t135_1 {ls st : List MVal} {μ : MMem} {Q : MVal → MMem → Prop} : At 135 1 ls st μ Q = Rn 135 B135_1 ls st μ Q := rfl
theorem t135_2 {ls st : List MVal} {μ : MMem} {Q : MVal → MMem → Prop} : At 135 2 ls st μ Q = Rn 135 B135_2 ls st μ Q := rfl
theorem t136_0 {ls st : List MVal} {μ : MMem} {Q : MVal → MMem → Prop} : At 136 0 ls st μ Q = Rn 136 B136_0 ls st μ Q := rfl
theorem t137_0 {ls st : List MVal} {μ : MMem} {Q : MVal → MMem → Prop} : At 137 0 ls st μ Q = Rn 137 B137_0 ls st μ Q := rfl
theorem t137_1 {ls st : List MVal} {μ : MMem} {Q : MVal → MMem → Prop} : At 137 1 ls st μ Q = Rn 137 B137_1 ls st μ Q := rfl
theorem t137_2 {ls st : List MVal} {μ : MMem} {Q : MVal → MMem → Prop} : At 137 2 ls st μ Q = Rn 137 B137_2 ls st μ Q := rfl
theorem t137_3 {ls st : List MVal} {μ : MMem} {Q : MVal → MMem → Prop} : At 137 3 ls st μ Q = Rn 137 B137_3 ls st μ Q := rfl
theorem t138_0 {ls st : List MVal} {μ : MMem} {Q : MVal → MMem → Prop} : At 138 0 ls st μ Q = Rn 138 B138_0 ls st μ Q := rfl
theorem t138_1 {ls st : List MVal} {μ : MMem} {Q : MVal → MMem → Prop} : At 138 1 ls st μ Q = Rn 138 B138_1 ls st μ Q := rfl
theorem t139_0 {ls st : List MVal} {μ : MMem} {Q : MVal → MMem → Prop} : At 139 0 ls st μ Q = Rn 139 B139_0 ls st μ Q := rfl
theorem t139_1 {ls st : List MVal} {μ : MMem} {Q : MVal → MMem → Prop} : At 139 1 ls st μ Q = Rn 139 B139_1 ls st μ Q := rfl
theorem t139_2 {ls st : List MVal} {μ : MMem} {Q : MVal → MMem → Prop} : At 139 2 ls st μ Q = Rn 139 B139_2 ls st μ Q := rfl
theorem t139_3 {ls st : List MVal} {μ : MMem} {Q : MVal → MMem → Prop} : At 139 3 ls st μ Q = Rn 139 B139_3 ls st μ Q := rfl
theorem t139_4 {ls st : List MVal} {μ : MMem} {Q : MVal → MMem → Prop} : At 139 4 ls st μ Q = Rn 139 B139_4 ls st μ Q := rfl
theorem t139_5 {ls st : List MVal} {μ : MMem} {Q : MVal → MMem → Prop} : At 139 5 ls st μ Q = Rn 139 B139_5 ls st μ Q := rfl
theorem t139_6 {ls st : List MVal} {μ : MMem} {Q : MVal → MMem → Prop} : At 139 6 ls st μ Q = Rn 139 B139_6 ls st μ Q := rfl
theorem t139_7 {ls st : List MVal} {μ : MMem} {Q : MVal → MMem → Prop} : At 139 7 ls st μ Q = Rn 139 B139_7 ls st μ Q := rfl
theorem t139_8 {ls st : List MVal} {μ : MMem} {Q : MVal → MMem → Prop} : At 139 8 ls st μ Q = Rn 139 B139_8 ls st μ Q := rfl
theorem t140_0 {ls st : List MVal} {μ : MMem} {Q : MVal → MMem → Prop} : At 140 0 ls st μ Q = Rn 140 B140_0 ls st μ Q := rfl
theorem t140_1 {ls st : List MVal} {μ : MMem} {Q : MVal → MMem → Prop} : At 140 1 ls st μ Q = Rn 140 B140_1 ls st μ Q := rfl
theorem t140_2 {ls st : List MVal} {μ : MMem} {Q : MVal → MMem → Prop} : At 140 2 ls st μ Q = Rn 140 B140_2 ls st μ Q := rfl
theorem t141_0 {ls st : List MVal} {μ : MMem} {Q : MVal → MMem → Prop} : At 141 0 ls st μ Q = Rn 141 B141_0 ls st μ Q := rfl
theorem t141_1 {ls st : List MVal} {μ : MMem} {Q : MVal → MMem → Prop} : At 141 1 ls st μ Q = Rn 141 B141_1 ls st μ Q := rfl
theorem t141_2 {ls st : List MVal} {μ : MMem} {Q : MVal → MMem → Prop} : At 141 2 ls st μ Q = Rn 141 B141_2 ls st μ Q := rfl
theorem t141_3 {ls st : List MVal} {μ : MMem} {Q : MVal → MMem → Prop} : At 141 3 ls st μ Q = Rn 141 B141_3 ls st μ Q := rfl
theorem t141_4 {ls st : List MVal} {μ : MMem} {Q : MVal → MMem → Prop} : At 141 4 ls st μ Q = Rn 141 B141_4 ls st μ Q := rfl
theorem t141_5 {ls st : List MVal} {μ : MMem} {Q : MVal → MMem → Prop} : At 141 5 ls st μ Q = Rn 141 B141_5 ls st μ Q := rfl
theorem t142_0 {ls st : List MVal} {μ : MMem} {Q : MVal → MMem → Prop} : At 142 0 ls st μ Q = Rn 142 B142_0 ls st μ Q := rfl
theorem t142_1 {ls st : List MVal} {μ : MMem} {Q : MVal → MMem → Prop} : At 142 1 ls st μ Q = Rn 142 B142_1 ls st μ Q := rfl
theorem t142_2 {ls st : List MVal} {μ : MMem} {Q : MVal → MMem → Prop} : At 142 2 ls st μ Q = Rn 142 B142_2 ls st μ Q := rfl
theorem t142_3 {ls st : List MVal} {μ : MMem} {Q : MVal → MMem → Prop} : At 142 3 ls st μ Q = Rn 142 B142_3 ls st μ Q := rfl
theorem t142_4 {ls st : List MVal} {μ : MMem} {Q : MVal → MMem → Prop} : At 142 4 ls st μ Q = Rn 142 B142_4 ls st μ Q := rfl
theorem t142_5 {ls st : List MVal} {μ : MMem} {Q : MVal → MMem → Prop} : At 142 5 ls st μ Q = Rn 142 B142_5 ls st μ Q := rfl
theorem t143_0 {ls st : List MVal} {μ : MMem} {Q : MVal → MMem → Prop} : At 143 0 ls st μ Q = Rn 143 B143_0 ls st μ Q := rfl
theorem t144_0 {ls st : List MVal} {μ : MMem} {Q : MVal → MMem → Prop} : At 144 0 ls st μ Q = Rn 144 B144_0 ls st μ Q := rfl
theorem t144_1 {ls st : List MVal} {μ : MMem} {Q : MVal → MMem → Prop} : At 144 1 ls st μ Q = Rn 144 B144_1 ls st μ Q := rfl
theorem t144_2 {ls st : List MVal} {μ : MMem} {Q : MVal → MMem → Prop} : At 144 2 ls st μ Q = Rn 144 B144_2 ls st μ Q := rfl
theorem t144_3 {ls st : List MVal} {μ : MMem} {Q : MVal → MMem → Prop} : At 144 3 ls st μ Q = Rn 144 B144_3 ls st μ Q := rfl
theorem t144_4 {ls st : List MVal} {μ : MMem} {Q : MVal → MMem → Prop} : At 144 4 ls st μ Q = Rn 144 B144_4 ls st μ Q := rfl
theorem t144_5 {ls st : List MVal} {μ : MMem} {Q : MVal → MMem → Prop} : At 144 5 ls st μ Q = Rn 144 B144_5 ls st μ Q := rfl
theorem t144_6 {ls st : List MVal} {μ : MMem} {Q : MVal → MMem → Prop} : At 144 6 ls st μ Q = Rn 144 B144_6 ls st μ Q := rfl
theorem t144_7 {ls st : List MVal} {μ : MMem} {Q : MVal → MMem → Prop} : At 144 7 ls st μ Q = Rn 144 B144_7 ls st μ Q := rfl
theorem t144_8 {ls st : List MVal} {μ : MMem} {Q : MVal → MMem → Prop} : At 144 8 ls st μ Q = Rn 144 B144_8 ls st μ Q := rfl
theorem t144_9 {ls st : List MVal} {μ : MMem} {Q : MVal → MMem → Prop} : At 144 9 ls st μ Q = Rn 144 B144_9 ls st μ Q := rfl
theorem t145_0 {ls st : List MVal} {μ : MMem} {Q : MVal → MMem → Prop} : At 145 0 ls st μ Q = Rn 145 B145_0 ls st μ Q := rfl
theorem t145_1 {ls st : List MVal} {μ : MMem} {Q : MVal → MMem → Prop} : At 145 1 ls st μ Q = Rn 145 B145_1 ls st μ Q := rfl
theorem t145_2 {ls st : List MVal} {μ : MMem} {Q : MVal → MMem → Prop} : At 145 2 ls st μ Q = Rn 145 B145_2 ls st μ Q := rfl
theorem t145_3 {ls st : List MVal} {μ : MMem} {Q : MVal → MMem → Prop} : At 145 3 ls st μ Q = Rn 145 B145_3 ls st μ Q := rfl
theorem t145_4 {ls st : List MVal} {μ : MMem} {Q : MVal → MMem → Prop} : At 145 4 ls st μ Q = Rn 145 B145_4 ls st μ Q := rfl
theorem t145_5 {ls st : List MVal} {μ : MMem} {Q : MVal → MMem → Prop} : At 145 5 ls st μ Q = Rn 145 B145_5 ls st μ Q := rfl
theorem t145_6 {ls st : List MVal} {μ : MMem} {Q : MVal → MMem → Prop} : At 145 6 ls st μ Q = Rn 145 B145_6 ls st μ Q := rfl
theorem t145_7 {ls st : List MVal} {μ : MMem} {Q : MVal → MMem → Prop} : At 145 7 ls st μ Q = Rn 145 B145_7 ls st μ Q := rfl
theorem t145_8 {ls st : List MVal} {μ : MMem} {Q : MVal → MMem → Prop} : At 145 8 ls st μ Q = Rn 145 B145_8 ls st μ Q := rfl
theorem t145_9 {ls st : List MVal} {μ : MMem} {Q : MVal → MMem → Prop} : At 145 9 ls st μ Q = Rn 145 B145_9 ls st μ Q := rfl
theorem t145_10 {ls st : List MVal} {μ : MMem} {Q : MVal → MMem → Prop} : At 145 10 ls st μ Q = Rn 145 B145_10 ls st μ Q := rfl
theorem t146_0 {ls st : List MVal} {μ : MMem} {Q : MVal → MMem → Prop} : At 146 0 ls st μ Q = Rn 146 B146_0 ls st μ Q := rfl
theorem t146_1 {ls st : List MVal} {μ : MMem} {Q : MVal → MMem → Prop} : At 146 1 ls st μ Q = Rn 146 B146_1 ls st μ Q := rfl
theorem t146_2 {ls st : List MVal} {μ : MMem} {Q : MVal → MMem → Prop} : At 146 2 ls st μ Q = Rn 146 B146_2 ls st μ Q := rfl
theorem t146_3 {ls st : List MVal} {μ : MMem} {Q : MVal → MMem → Prop} : At 146 3 ls st μ Q = Rn 146 B146_3 ls st μ Q := rfl
theorem t146_4 {ls st : List MVal} {μ : MMem} {Q : MVal → MMem → Prop} : At 146 4 ls st μ Q = Rn 146 B146_4 ls st μ Q := rfl
theorem t146_5 {ls st : List MVal} {μ : MMem} {Q : MVal → MMem → Prop} : At 146 5 ls st μ Q = Rn 146 B146_5 ls st μ Q := rfl
theorem t146_6 {ls st : List MVal} {μ : MMem} {Q : MVal → MMem → Prop} : At 146 6 ls st μ Q = Rn 146 B146_6 ls st μ Q := rfl
theorem t146_7 {ls st : List MVal} {μ : MMem} {Q : MVal → MMem → Prop} : At 146 7 ls st μ Q = Rn 146 B146_7 ls st μ Q := rfl
theorem t146_8 {ls st : List MVal} {μ : MMem} {Q : MVal → MMem → Prop} : At 146 8 ls st μ Q = Rn 146 B146_8 ls st μ Q := rfl
theorem t146_9 {ls st : List MVal} {μ : MMem} {Q : MVal → MMem → Prop} : At 146 9 ls st μ Q = Rn 146 B146_9 ls st μ Q := rfl
theorem t146_10 {ls st : List MVal} {μ : MMem} {Q : MVal → MMem → Prop} : At 146 10 ls st μ Q = Rn 146 B146_10 ls st μ Q := rfl
theorem t146_11 {ls st : List MVal} {μ : MMem} {Q : MVal → MMem → Prop} : At 146 11 ls st μ Q = Rn 146 B146_11 ls st μ Q := rfl
theorem t146_12 {ls st : List MVal} {μ : MMem} {Q : MVal → MMem → Prop} : At 146 12 ls st μ Q = Rn 146 B146_12 ls st μ Q := rfl
theorem t147_0 {ls st : List MVal} {μ : MMem} {Q : MVal → MMem → Prop} : At 147 0 ls st μ Q = Rn 147 B147_0 ls st μ Q := rfl
theorem t147_1 {ls st : List MVal} {μ : MMem} {Q : MVal → MMem → Prop} : At 147 1 ls st μ Q = Rn 147 B147_1 ls st μ Q := rfl
theorem t147_2 {ls st : List MVal} {μ : MMem} {Q : MVal → MMem → Prop} : At 147 2 ls st μ Q = Rn 147 B147_2 ls st μ Q := rfl
theorem t147_3 {ls st : List MVal} {μ : MMem} {Q : MVal → MMem → Prop} : At 147 3 ls st μ Q = Rn 147 B147_3 ls st μ Q := rfl
theorem t147_4 {ls st : List MVal} {μ : MMem} {Q : MVal → MMem → Prop} : At 147 4 ls st μ Q = Rn 147 B147_4 ls st μ Q := rfl
theorem t147_5 {ls st : List MVal} {μ : MMem} {Q : MVal → MMem → Prop} : At 147 5 ls st μ Q = Rn 147 B147_5 ls st μ Q := rfl
theorem t147_6 {ls st : List MVal} {μ : MMem} {Q : MVal → MMem → Prop} : At 147 6 ls st μ Q = Rn 147 B147_6 ls st μ Q := rfl
theorem t148_0 {ls st : List MVal} {μ : MMem} {Q : MVal → MMem → Prop} : At 148 0 ls st μ Q = Rn 148 B148_0 ls st μ Q := rfl
theorem t148_1 {ls st : List MVal} {μ : MMem} {Q : MVal → MMem → Prop} : At 148 1 ls st μ Q = Rn 148 B148_1 ls st μ Q := rfl
theorem t148_2 {ls st : List MVal} {μ : MMem} {Q : MVal → MMem → Prop} : At 148 2 ls st μ Q = Rn 148 B148_2 ls st μ Q := rfl
theorem t148_3 {ls st : List MVal} {μ : MMem} {Q : MVal → MMem → Prop} : At 148 3 ls st μ Q = Rn 148 B148_3 ls st μ Q := rfl
theorem t148_4 {ls st : List MVal} {μ : MMem} {Q : MVal → MMem → Prop} : At 148 4 ls st μ Q = Rn 148 B148_4 ls st μ Q := rfl
theorem t148_5 {ls st : List MVal} {μ : MMem} {Q : MVal → MMem → Prop} : At 148 5 ls st μ Q = Rn 148 B148_5 ls st μ Q := rfl
theorem t148_6 {ls st : List MVal} {μ : MMem} {Q : MVal → MMem → Prop} : At 148 6 ls st μ Q = Rn 148 B148_6 ls st μ Q := rfl
theorem t149_0 {ls st : List MVal} {μ : MMem} {Q : MVal → MMem → Prop} : At 149 0 ls st μ Q = Rn 149 B149_0 ls st μ Q := rfl
theorem t150_0 {ls st : List MVal} {μ : MMem} {Q : MVal → MMem → Prop} : At 150 0 ls st μ Q = Rn 150 B150_0 ls st μ Q := rfl
theorem t151_0 {ls st : List MVal} {μ : MMem} {Q : MVal → MMem → Prop} : At 151 0 ls st μ Q = Rn 151 B151_0 ls st μ Q := rfl
theorem t151_1 {ls st : List MVal} {μ : MMem} {Q : MVal → MMem → Prop} : At 151 1 ls st μ Q = Rn 151 B151_1 ls st μ Q := rfl
theorem t151_2 {ls st : List MVal} {μ : MMem} {Q : MVal → MMem → Prop} : At 151 2 ls st μ Q = Rn 151 B151_2 ls st μ Q := rfl
theorem t151_3 {ls st : List MVal} {μ : MMem} {Q : MVal → MMem → Prop} : At 151 3 ls st μ Q = Rn 151 B151_3 ls st μ Q := rfl
theorem t151_4 {ls st : List MVal} {μ : MMem} {Q : MVal → MMem → Prop} : At 151 4 ls st μ Q = Rn 151 B151_4 ls st μ Q := rfl
theorem t151_5 {ls st : List MVal} {μ : MMem} {Q : MVal → MMem → Prop} : At 151 5 ls st μ Q = Rn 151 B151_5 ls st μ Q := rfl
theorem t152_0 {ls st : List MVal} {μ : MMem} {Q : MVal → MMem → Prop} : At 152 0 ls st μ Q = Rn 152 B152_0 ls st μ Q := rfl
theorem t152_1 {ls st : List MVal} {μ : MMem} {Q : MVal → MMem → Prop} : At 152 1 ls st μ Q = Rn 152 B152_1 ls st μ Q := rfl
theorem t152_2 {ls st : List MVal} {μ : MMem} {Q : MVal → MMem → Prop} : At 152 2 ls st μ Q = Rn 152 B152_2 ls st μ Q := rfl
theorem t153_0 {ls st : List MVal} {μ : MMem} {Q : MVal → MMem → Prop} : At 153 0 ls st μ Q = Rn 153 B153_0 ls st μ Q := rfl
theorem t153_1 {ls st : List MVal} {μ : MMem} {Q : MVal → MMem → Prop} : At 153 1 ls st μ Q = Rn 153 B153_1 ls st μ Q := rfl
theorem t153_2 {ls st : List MVal} {μ : MMem} {Q : MVal → MMem → Prop} : At 153 2 ls st μ Q = Rn 153 B153_2 ls st μ Q := rfl
theorem t153_3 {ls st : List MVal} {μ : MMem} {Q : MVal → MMem → Prop} : At 153 3 ls st μ Q = Rn 153 B153_3 ls st μ Q := rfl
theorem t154_0 {ls st : List MVal} {μ : MMem} {Q : MVal → MMem → Prop} : At 154 0 ls st μ Q = Rn 154 B154_0 ls st μ Q := rfl
theorem t154_1 {ls st : List MVal} {μ : MMem} {Q : MVal → MMem → Prop} : At 154 1 ls st μ Q = Rn 154 B154_1 ls st μ Q := rfl
theorem t154_2 {ls st : List MVal} {μ : MMem} {Q : MVal → MMem → Prop} : At 154 2 ls st μ Q = Rn 154 B154_2 ls st μ Q := rfl
theorem t155_0 {ls st : List MVal} {μ : MMem} {Q : MVal → MMem → Prop} : At 155 0 ls st μ Q = Rn 155 B155_0 ls st μ Q := rfl
theorem t155_1 {ls st : List MVal} {μ : MMem} {Q : MVal → MMem → Prop} : At 155 1 ls st μ Q = Rn 155 B155_1 ls st μ Q := rfl
theorem t155_2 {ls st : List MVal} {μ : MMem} {Q : MVal → MMem → Prop} : At 155 2 ls st μ Q = Rn 155 B155_2 ls st μ Q := rfl
theorem t156_0 {ls st : List MVal} {μ : MMem} {Q : MVal → MMem → Prop} : At 156 0 ls st μ Q = Rn 156 B156_0 ls st μ Q := rfl
theorem t156_1 {ls st : List MVal} {μ : MMem} {Q : MVal → MMem → Prop} : At 156 1 ls st μ Q = Rn 156 B156_1 ls st μ Q := rfl
theorem t156_2 {ls st : List MVal} {μ : MMem} {Q : MVal → MMem → Prop} : At 156 2 ls st μ Q = Rn 156 B156_2 ls st μ Q := rfl
theorem t157_0 {ls st : List MVal} {μ : MMem} {Q : MVal → MMem → Prop} : At 157 0 ls st μ Q = Rn 157 B157_0 ls st μ Q := rfl
theorem t157_1 {ls st : List MVal} {μ : MMem} {Q : MVal → MMem → Prop} : At 157 1 ls st μ Q = Rn 157 B157_1 ls st μ Q := rfl
theorem t157_2 {ls st : List MVal} {μ : MMem} {Q : MVal → MMem → Prop} : At 157 2 ls st μ Q = Rn 157 B157_2 ls st μ Q := rfl
theorem t157_3 {ls st : List MVal} {μ : MMem} {Q : MVal → MMem → Prop} : At 157 3 ls st μ Q = Rn 157 B157_3 ls st μ Q := rfl
theorem t157_4 {ls st : List MVal} {μ : MMem} {Q : MVal → MMem → Prop} : At 157 4 ls st μ Q = Rn 157 B157_4 ls st μ Q := rfl
theorem t157_5 {ls st : List MVal} {μ : MMem} {Q : MVal → MMem → Prop} : At 157 5 ls st μ Q = Rn 157 B157_5 ls st μ Q := rfl
theorem t157_6 {ls st : List MVal} {μ : MMem} {Q : MVal → MMem → Prop} : At 157 6 ls st μ Q = Rn 157 B157_6 ls st μ Q := rfl
theorem t157_7 {ls st : List MVal} {μ : MMem} {Q : MVal → MMem → Prop} : At 157 7 ls st μ Q = Rn 157 B157_7 ls st μ Q := rfl
theorem t158_0 {ls st : List MVal} {μ : MMem} {Q : MVal → MMem → Prop} : At 158 0 ls st μ Q = Rn 158 B158_0 ls st μ Q := rfl
theorem t158_1 {ls st : List MVal} {μ : MMem} {Q : MVal → MMem → Prop} : At 158 1 ls st μ Q = Rn 158 B158_1 ls st μ Q := rfl
theorem t158_2 {ls st : List MVal} {μ : MMem} {Q : MVal → MMem → Prop} : At 158 2 ls st μ Q = Rn 158 B158_2 ls st μ Q := rfl
theorem t159_0 {ls st : List MVal} {μ : MMem} {Q : MVal → MMem → Prop} : At 159 0 ls st μ Q = Rn 159 B159_0 ls st μ Q := rfl
theorem t159_1 {ls st : List MVal} {μ : MMem} {Q : MVal → MMem → Prop} : At 159 1 ls st μ Q = Rn 159 B159_1 ls st μ Q := rfl
theorem t159_2 {ls st : List MVal} {μ : MMem} {Q : MVal → MMem → Prop} : At 159 2 ls st μ Q = Rn 159 B159_2 ls st μ Q := rfl
theorem t160_0 {ls st : List MVal} {μ : MMem} {Q : MVal → MMem → Prop} : At 160 0 ls st μ Q = Rn 160 B160_0 ls st μ Q := rfl
theorem t160_1 {ls st : List MVal} {μ : MMem} {Q : MVal → MMem → Prop} : At 160 1 ls st μ Q = Rn 160 B160_1 ls st μ Q := rfl
theorem t160_2 {ls st : List MVal} {μ : MMem} {Q : MVal → MMem → Prop} : At 160 2 ls st μ Q = Rn 160 B160_2 ls st μ Q := rfl
theorem t161_0 {ls st : List MVal} {μ : MMem} {Q : MVal → MMem → Prop} : At 161 0 ls st μ Q = Rn 161 B161_0 ls st μ Q := rfl
theorem t161_1 {ls st : List MVal} {μ : MMem} {Q : MVal → MMem → Prop} : At 161 1 ls st μ Q = Rn 161 B161_1 ls st μ Q := rfl
theorem t161_2 {ls st : List MVal} {μ : MMem} {Q : MVal → MMem → Prop} : At 161 2 ls st μ Q = Rn 161 B161_2 ls st μ Q := rfl
theorem t161_3 {ls st : List MVal} {μ : MMem} {Q : MVal → MMem → Prop} : At 161 3 ls st μ Q = Rn 161 B161_3 ls st μ Q := rfl
theorem t161_4 {ls st : List MVal} {μ : MMem} {Q : MVal → MMem → Prop} : At 161 4 ls st μ Q = Rn 161 B161_4 ls st μ Q := rfl
theorem t161_5 {ls st : List MVal} {μ : MMem} {Q : MVal → MMem → Prop} : At 161 5 ls st μ Q = Rn 161 B161_5 ls st μ Q := rfl
theorem t162_0 {ls st : List MVal} {μ : MMem} {Q : MVal → MMem → Prop} : At 162 0 ls st μ Q = Rn 162 B162_0 ls st μ Q := rfl
theorem t163_0 {ls st : List MVal} {μ : MMem} {Q : MVal → MMem → Prop} : At 163 0 ls st μ Q = Rn 163 B163_0 ls st μ Q := rfl
theorem t163_1 {ls st : List MVal} {μ : MMem} {Q : MVal → MMem → Prop} : At 163 1 ls st μ Q = Rn 163 B163_1 ls st μ Q := rfl
theorem t163_2 {ls st : List MVal} {μ : MMem} {Q : MVal → MMem → Prop} : At 163 2 ls st μ Q = Rn 163 B163_2 ls st μ Q := rfl
theorem t163_3 {ls st : List MVal} {μ : MMem} {Q : MVal → MMem → Prop} : At 163 3 ls st μ Q = Rn 163 B163_3 ls st μ Q := rfl
theorem t163_4 {ls st : List MVal} {μ : MMem} {Q : MVal → MMem → Prop} : At 163 4 ls st μ Q = Rn 163 B163_4 ls st μ Q := rfl
theorem t163_5 {ls st : List MVal} {μ : MMem} {Q : MVal → MMem → Prop} : At 163 5 ls st μ Q = Rn 163 B163_5 ls st μ Q := rfl
theorem t163_6 {ls st : List MVal} {μ : MMem} {Q : MVal → MMem → Prop} : At 163 6 ls st μ Q = Rn 163 B163_6 ls st μ Q := rfl
theorem t163_7 {ls st : List MVal} {μ : MMem} {Q : MVal → MMem → Prop} : At 163 7 ls st μ Q = Rn 163 B163_7 ls st μ Q := rfl
theorem t163_8 {ls st : List MVal} {μ : MMem} {Q : MVal → MMem → Prop} : At 163 8 ls st μ Q = Rn 163 B163_8 ls st μ Q := rfl
theorem t164_0 {ls st : List MVal} {μ : MMem} {Q : MVal → MMem → Prop} : At 164 0 ls st μ Q = Rn 164 B164_0 ls st μ Q := rfl
theorem t164_1 {ls st : List MVal} {μ : MMem} {Q : MVal → MMem → Prop} : At 164 1 ls st μ Q = Rn 164 B164_1 ls st μ Q := rfl
theorem t164_2 {ls st : List MVal} {μ : MMem} {Q : MVal → MMem → Prop} : At 164 2 ls st μ Q = Rn 164 B164_2 ls st μ Q := rfl
theorem t165_0 {ls st : List MVal} {μ : MMem} {Q : MVal → MMem → Prop} : At 165 0 ls st μ Q = Rn 165 B165_0 ls st μ Q := rfl
theorem t165_1 {ls st : List MVal} {μ : MMem} {Q : MVal → MMem → Prop} : At 165 1 ls st μ Q = Rn 165 B165_1 ls st μ Q := rfl
theorem t165_2 {ls st : List MVal} {μ : MMem} {Q : MVal → MMem → Prop} : At 165 2 ls st μ Q = Rn 165 B165_2 ls st μ Q := rfl
theorem t165_3 {ls st : List MVal} {μ : MMem} {Q : MVal → MMem → Prop} : At 165 3 ls st μ Q = Rn 165 B165_3 ls st μ Q := rfl
theorem t165_4 {ls st : List MVal} {μ : MMem} {Q : MVal → MMem → Prop} : At 165 4 ls st μ Q = Rn 165 B165_4 ls st μ Q := rfl
theorem t166_0 {ls st : List MVal} {μ : MMem} {Q : MVal → MMem → Prop} : At 166 0 ls st μ Q = Rn 166 B166_0 ls st μ Q := rfl
theorem t166_1 {ls st : List MVal} {μ : MMem} {Q : MVal → MMem → Prop} : At 166 1 ls st μ Q = Rn 166 B166_1 ls st μ Q := rfl
theorem t166_2 {ls st : List MVal} {μ : MMem} {Q : MVal → MMem → Prop} : At 166 2 ls st μ Q = Rn 166 B166_2 ls st μ Q := rfl
theorem t166_3 {ls st : List MVal} {μ : MMem} {Q : MVal → MMem → Prop} : At 166 3 ls st μ Q = Rn 166 B166_3 ls st μ Q := rfl
theorem t166_4 {ls st : List MVal} {μ : MMem} {Q : MVal → MMem → Prop} : At 166 4 ls st μ Q = Rn 166 B166_4 ls st μ Q := rfl
theorem t166_5 {ls st : List MVal} {μ : MMem} {Q : MVal → MMem → Prop} : At 166 5 ls st μ Q = Rn 166 B166_5 ls st μ Q := rfl
theorem t166_6 {ls st : List MVal} {μ : MMem} {Q : MVal → MMem → Prop} : At 166 6 ls st μ Q = Rn 166 B166_6 ls st μ Q := rfl
theorem t166_7 {ls st : List MVal} {μ : MMem} {Q : MVal → MMem → Prop} : At 166 7 ls st μ Q = Rn 166 B166_7 ls st μ Q := rfl
theorem t166_8 {ls st : List MVal} {μ : MMem} {Q : MVal → MMem → Prop} : At 166 8 ls st μ Q = Rn 166 B166_8 ls st μ Q := rfl
theorem t167_0 {ls st : List MVal} {μ : MMem} {Q : MVal → MMem → Prop} : At 167 0 ls st μ Q = Rn 167 B167_0 ls st μ Q := rfl
theorem t167_1 {ls st : List MVal} {μ : MMem} {Q : MVal → MMem → Prop} : At 167 1 ls st μ Q = Rn 167 B167_1 ls st μ Q := rfl
theorem t167_2 {ls st : List MVal} {μ : MMem} {Q : MVal → MMem → Prop} : At 167 2 ls st μ Q = Rn 167 B167_2 ls st μ Q := rfl
theorem t168_0 {ls st : List MVal} {μ : MMem} {Q : MVal → MMem → Prop} : At 168 0 ls st μ Q = Rn 168 B168_0 ls st μ Q := rfl
theorem t168_1 {ls st : List MVal} {μ : MMem} {Q : MVal → MMem → Prop} : At 168 1 ls st μ Q = Rn 168 B168_1 ls st μ Q := rfl
theorem t168_2 {ls st : List MVal} {μ : MMem} {Q : MVal → MMem → Prop} : At 168 2 ls st μ Q = Rn 168 B168_2 ls st μ Q := rfl
theorem t169_0 {ls st : List MVal} {μ : MMem} {Q : MVal → MMem → Prop} : At 169 0 ls st μ Q = Rn 169 B169_0 ls st μ Q := rfl
theorem t169_1 {ls st : List MVal} {μ : MMem} {Q : MVal → MMem → Prop} : At 169 1 ls st μ Q = Rn 169 B169_1 ls st μ Q := rfl
theorem t169_2 {ls st : List MVal} {μ : MMem} {Q : MVal → MMem → Prop} : At 169 2 ls st μ Q = Rn 169 B169_2 ls st μ Q := rfl
theorem t170_0 {ls st : List MVal} {μ : MMem} {Q : MVal → MMem → Prop} : At 170 0 ls st μ Q = Rn 170 B170_0 ls st μ Q := rfl
theorem t170_1 {ls st : List MVal} {μ : MMem} {Q : MVal → MMem → Prop} : At 170 1 ls st μ Q = Rn 170 B170_1 ls st μ Q := rfl
theorem t170_2 {ls st : List MVal} {μ : MMem} {Q : MVal → MMem → Prop} : At 170 2 ls st μ Q = Rn 170 B170_2 ls st μ Q := rfl
theorem t171_0 {ls st : List MVal} {μ : MMem} {Q : MVal → MMem → Prop} : At 171 0 ls st μ Q = Rn 171 B171_0 ls st μ Q := rfl
theorem t171_1 {ls st : List MVal} {μ : MMem} {Q : MVal → MMem → Prop} : At 171 1 ls st μ Q = Rn 171 B171_1 ls st μ Q := rfl
theorem t171_2 {ls st : List MVal} {μ : MMem} {Q : MVal → MMem → Prop} : At 171 2 ls st μ Q = Rn 171 B171_2 ls st μ Q := rfl
theorem t171_3 {ls st : List MVal} {μ : MMem} {Q : MVal → MMem → Prop} : At 171 3 ls st μ Q = Rn 171 B171_3 ls st μ Q := rfl
theorem t171_4 {ls st : List MVal} {μ : MMem} {Q : MVal → MMem → Prop} : At 171 4 ls st μ Q = Rn 171 B171_4 ls st μ Q := rfl
theorem t171_5 {ls st : List MVal} {μ : MMem} {Q : MVal → MMem → Prop} : At 171 5 ls st μ Q = Rn 171 B171_5 ls st μ Q := rfl
theorem t171_6 {ls st : List MVal} {μ : MMem} {Q : MVal → MMem → Prop} : At 171 6 ls st μ Q = Rn 171 B171_6 ls st μ Q := rfl
theorem t171_7 {ls st : List MVal} {μ : MMem} {Q : MVal → MMem → Prop} : At 171 7 ls st μ Q = Rn 171 B171_7 ls st μ Q := rfl
theorem t171_8 {ls st : List MVal} {μ : MMem} {Q : MVal → MMem → Prop} : At 171 8 ls st μ Q = Rn 171 B171_8 ls st μ Q := rfl
theorem t171_9 {ls st : List MVal} {μ : MMem} {Q : MVal → MMem → Prop} : At 171 9 ls st μ Q = Rn 171 B171_9 ls st μ Q := rfl
theorem t171_10 {ls st : List MVal} {μ : MMem} {Q : MVal → MMem → Prop} : At 171 10 ls st μ Q = Rn 171 B171_10 ls st μ Q := rfl
theorem t171_11 {ls st : List MVal} {μ : MMem} {Q : MVal → MMem → Prop} : At 171 11 ls st μ Q = Rn 171 B171_11 ls st μ Q := rfl
theorem t171_12 {ls st : List MVal} {μ : MMem} {Q : MVal → MMem → Prop} : At 171 12 ls st μ Q = Rn 171 B171_12 ls st μ Q := rfl
theorem t171_13 {ls st : List MVal} {μ : MMem} {Q : MVal → MMem → Prop} : At 171 13 ls st μ Q = Rn 171 B171_13 ls st μ Q := rfl
theorem t171_14 {ls st : List MVal} {μ : MMem} {Q : MVal → MMem → Prop} : At 171 14 ls st μ Q = Rn 171 B171_14 ls st μ Q := rfl
theorem t171_15 {ls st : List MVal} {μ : MMem} {Q : MVal → MMem → Prop} : At 171 15 ls st μ Q = Rn 171 B171_15 ls st μ Q := rfl
theorem t171_16 {ls st : List MVal} {μ : MMem} {Q : MVal → MMem → Prop} : At 171 16 ls st μ Q = Rn 171 B171_16 ls st μ Q := rfl
theorem t171_17 {ls st : List MVal} {μ : MMem} {Q : MVal → MMem → Prop} : At 171 17 ls st μ Q = Rn 171 B171_17 ls st μ Q := rfl
theorem t172_0 {ls st : List MVal} {μ : MMem} {Q : MVal → MMem → Prop} : At 172 0 ls st μ Q = Rn 172 B172_0 ls st μ Q := rfl
theorem t172_1 {ls st : List MVal} {μ : MMem} {Q : MVal → MMem → Prop} : At 172 1 ls st μ Q = Rn 172 B172_1 ls st μ Q := rfl
theorem t172_2 {ls st : List MVal} {μ : MMem} {Q : MVal → MMem → Prop} : At 172 2 ls st μ Q = Rn 172 B172_2 ls st μ Q := rfl
theorem t173_0 {ls st : List MVal} {μ : MMem} {Q : MVal → MMem → Prop} : At 173 0 ls st μ Q = Rn 173 B173_0 ls st μ Q := rfl
theorem t173_1 {ls st : List MVal} {μ : MMem} {Q : MVal → MMem → Prop} : At 173 1 ls st μ Q = Rn 173 B173_1 ls st μ Q := rfl
theorem t173_2 {ls st : List MVal} {μ : MMem} {Q : MVal → MMem → Prop} : At 173 2 ls st μ Q = Rn 173 B173_2 ls st μ Q := rfl
theorem t173_3 {ls st : List MVal} {μ : MMem} {Q : MVal → MMem → Prop} : At 173 3 ls st μ Q = Rn 173 B173_3 ls st μ Q := rfl
theorem t174_0 {ls st : List MVal} {μ : MMem} {Q : MVal → MMem → Prop} : At 174 0 ls st μ Q = Rn 174 B174_0 ls st μ Q := rfl
theorem t175_0 {ls st : List MVal} {μ : MMem} {Q : MVal → MMem → Prop} : At 175 0 ls st μ Q = Rn 175 B175_0 ls st μ Q := rfl
theorem t175_1 {ls st : List MVal} {μ : MMem} {Q : MVal → MMem → Prop} : At 175 1 ls st μ Q = Rn 175 B175_1 ls st μ Q := rfl
theorem t175_2 {ls st : List MVal} {μ : MMem} {Q : MVal → MMem → Prop} : At 175 2 ls st μ Q = Rn 175 B175_2 ls st μ Q := rfl
theorem t175_3 {ls st : List MVal} {μ : MMem} {Q : MVal → MMem → Prop} : At 175 3 ls st μ Q = Rn 175 B175_3 ls st μ Q := rfl
theorem t175_4 {ls st : List MVal} {μ : MMem} {Q : MVal → MMem → Prop} : At 175 4 ls st μ Q = Rn 175 B175_4 ls st μ Q := rfl
theorem t176_0 {ls st : List MVal} {μ : MMem} {Q : MVal → MMem → Prop} : At 176 0 ls st μ Q = Rn 176 B176_0 ls st μ Q := rfl
theorem t176_1 {ls st : List MVal} {μ : MMem} {Q : MVal → MMem → Prop} : At 176 1 ls st μ Q = Rn 176 B176_1 ls st μ Q := rfl
theorem t176_2 {ls st : List MVal} {μ : MMem} {Q : MVal → MMem → Prop} : At 176 2 ls st μ Q = Rn 176 B176_2 ls st μ Q := rfl
theorem t176_3 {ls st : List MVal} {μ : MMem} {Q : MVal → MMem → Prop} : At 176 3 ls st μ Q = Rn 176 B176_3 ls st μ Q := rfl
theorem t176_4 {ls st : List MVal} {μ : MMem} {Q : MVal → MMem → Prop} : At 176 4 ls st μ Q = Rn 176 B176_4 ls st μ Q := rfl
theorem t177_0 {ls st : List MVal} {μ : MMem} {Q : MVal → MMem → Prop} : At 177 0 ls st μ Q = Rn 177 B177_0 ls st μ Q := rfl
theorem t178_0 {ls st : List MVal} {μ : MMem} {Q : MVal → MMem → Prop} : At 178 0 ls st μ Q = Rn 178 B178_0 ls st μ Q := rfl
theorem t178_1 {ls st : List MVal} {μ : MMem} {Q : MVal → MMem → Prop} : At 178 1 ls st μ Q = Rn 178 B178_1 ls st μ Q := rfl
theorem t178_2 {ls st : List MVal} {μ : MMem} {Q : MVal → MMem → Prop} : At 178 2 ls st μ Q = Rn 178 B178_2 ls st μ Q := rfl
theorem t178_3 {ls st : List MVal} {μ : MMem} {Q : MVal → MMem → Prop} : At 178 3 ls st μ Q = Rn 178 B178_3 ls st μ Q := rfl
theorem t178_4 {ls st : List MVal} {μ : MMem} {Q : MVal → MMem → Prop} : At 178 4 ls st μ Q = Rn 178 B178_4 ls st μ Q := rfl
theorem t178_5 {ls st : List MVal} {μ : MMem} {Q : MVal → MMem → Prop} : At 178 5 ls st μ Q = Rn 178 B178_5 ls st μ Q := rfl
theorem t178_6 {ls st : List MVal} {μ : MMem} {Q : MVal → MMem → Prop} : At 178 6 ls st μ Q = Rn 178 B178_6 ls st μ Q := rfl
theorem t179_0 {ls st : List MVal} {μ : MMem} {Q : MVal → MMem → Prop} : At 179 0 ls st μ Q = Rn 179 B179_0 ls st μ Q := rfl
theorem t179_1 {ls st : List MVal} {μ : MMem} {Q : MVal → MMem → Prop} : At 179 1 ls st μ Q = Rn 179 B179_1 ls st μ Q := rfl
theorem t179_2 {ls st : List MVal} {μ : MMem} {Q : MVal → MMem → Prop} : At 179 2 ls st μ Q = Rn 179 B179_2 ls st μ Q := rfl
theorem t179_3 {ls st : List MVal} {μ : MMem} {Q : MVal → MMem → Prop} : At 179 3 ls st μ Q = Rn 179 B179_3 ls st μ Q := rfl
theorem t179_4 {ls st : List MVal} {μ : MMem} {Q : MVal → MMem → Prop} : At 179 4 ls st μ Q = Rn 179 B179_4 ls st μ Q := rfl
theorem t180_0 {ls st : List MVal} {μ : MMem} {Q : MVal → MMem → Prop} : At 180 0 ls st μ Q = Rn 180 B180_0 ls st μ Q := rfl
theorem t180_1 {ls st : List MVal} {μ : MMem} {Q : MVal → MMem → Prop} : At 180 1 ls st μ Q = Rn 180 B180_1 ls st μ Q := rfl
theorem t180_2 {ls st : List MVal} {μ : MMem} {Q : MVal → MMem → Prop} : At 180 2 ls st μ Q = Rn 180 B180_2 ls st μ Q := rfl
theorem t181_0 {ls st : List MVal} {μ : MMem} {Q : MVal → MMem → Prop} : At 181 0 ls st μ Q = Rn 181 B181_0 ls st μ Q := rfl
theorem t181_1 {ls st : List MVal} {μ : MMem} {Q : MVal → MMem → Prop} : At 181 1 ls st μ Q = Rn 181 B181_1 ls st μ Q := rfl
theorem t181_2 {ls st : List MVal} {μ : MMem} {Q : MVal → MMem → Prop} : At 181 2 ls st μ Q = Rn 181 B181_2 ls st μ Q := rfl
theorem t182_0 {ls st : List MVal} {μ : MMem} {Q : MVal → MMem → Prop} : At 182 0 ls st μ Q = Rn 182 B182_0 ls st μ Q := rfl
theorem t182_1 {ls st : List MVal} {μ : MMem} {Q : MVal → MMem → Prop} : At 182 1 ls st μ Q = Rn 182 B182_1 ls st μ Q := rfl
theorem t182_2 {ls st : List MVal} {μ : MMem} {Q : MVal → MMem → Prop} : At 182 2 ls st μ Q = Rn 182 B182_2 ls st μ Q := rfl
theorem t182_3 {ls st : List MVal} {μ : MMem} {Q : MVal → MMem → Prop} : At 182 3 ls st μ Q = Rn 182 B182_3 ls st μ Q := rfl
theorem t182_4 {ls st : List MVal} {μ : MMem} {Q : MVal → MMem → Prop} : At 182 4 ls st μ Q = Rn 182 B182_4 ls st μ Q := rfl
theorem t182_5 {ls st : List MVal} {μ : MMem} {Q : MVal → MMem → Prop} : At 182 5 ls st μ Q = Rn 182 B182_5 ls st μ Q := rfl
theorem t182_6 {ls st : List MVal} {μ : MMem} {Q : MVal → MMem → Prop} : At 182 6 ls st μ Q = Rn 182 B182_6 ls st μ Q := rfl
theorem t183_0 {ls st : List MVal} {μ : MMem} {Q : MVal → MMem → Prop} : At 183 0 ls st μ Q = Rn 183 B183_0 ls st μ Q := rfl
theorem t183_1 {ls st : List MVal} {μ : MMem} {Q : MVal → MMem → Prop} : At 183 1 ls st μ Q = Rn 183 B183_1 ls st μ Q := rfl
theorem t183_2 {ls st : List MVal} {μ : MMem} {Q : MVal → MMem → Prop} : At 183 2 ls st μ Q = Rn 183 B183_2 ls st μ Q := rfl
theorem t183_3 {ls st : List MVal} {μ : MMem} {Q : MVal → MMem → Prop} : At 183 3 ls st μ Q = Rn 183 B183_3 ls st μ Q := rfl
theorem t183_4 {ls st : List MVal} {μ : MMem} {Q : MVal → MMem → Prop} : At 183 4 ls st μ Q = Rn 183 B183_4 ls st μ Q := rfl
theorem t184_0 {ls st : List MVal} {μ : MMem} {Q : MVal → MMem → Prop} : At 184 0 ls st μ Q = Rn 184 B184_0 ls st μ Q := rfl
theorem t184_1 {ls st : List MVal} {μ : MMem} {Q : MVal → MMem → Prop} : At 184 1 ls st μ Q = Rn 184 B184_1 ls st μ Q := rfl
theorem t184_2 {ls st : List MVal} {μ : MMem} {Q : MVal → MMem → Prop} : At 184 2 ls st μ Q = Rn 184 B184_2 ls st μ Q := rfl
theorem t185_0 {ls st : List MVal} {μ : MMem} {Q : MVal → MMem → Prop} : At 185 0 ls st μ Q = Rn 185 B185_0 ls st μ Q := rfl
theorem t185_1 {ls st : List MVal} {μ : MMem} {Q : MVal → MMem → Prop} : At 185 1 ls st μ Q = Rn 185 B185_1 ls st μ Q := rfl
theorem t185_2 {ls st : List MVal} {μ : MMem} {Q : MVal → MMem → Prop} : At 185 2 ls st μ Q = Rn 185 B185_2 ls st μ Q := rfl
theorem t185_3 {ls st : List MVal} {μ : MMem} {Q : MVal → MMem → Prop} : At 185 3 ls st μ Q = Rn 185 B185_3 ls st μ Q := rfl
theorem t185_4 {ls st : List MVal} {μ : MMem} {Q : MVal → MMem → Prop} : At 185 4 ls st μ Q = Rn 185 B185_4 ls st μ Q := rfl
theorem t185_5 {ls st : List MVal} {μ : MMem} {Q : MVal → MMem → Prop} : At 185 5 ls st μ Q = Rn 185 B185_5 ls st μ Q := rfl
theorem t185_6 {ls st : List MVal} {μ : MMem} {Q : MVal → MMem → Prop} : At 185 6 ls st μ Q = Rn 185 B185_6 ls st μ Q := rfl
theorem t185_7 {ls st : List MVal} {μ : MMem} {Q : MVal → MMem → Prop} : At 185 7 ls st μ Q = Rn 185 B185_7 ls st μ Q := rfl
theorem t185_8 {ls st : List MVal} {μ : MMem} {Q : MVal → MMem → Prop} : At 185 8 ls st μ Q = Rn 185 B185_8 ls st μ Q := rfl
theorem t186_0 {ls st : List MVal} {μ : MMem} {Q : MVal → MMem → Prop} : At 186 0 ls st μ Q = Rn 186 B186_0 ls st μ Q := rfl
theorem t186_1 {ls st : List MVal} {μ : MMem} {Q : MVal → MMem → Prop} : At 186 1 ls st μ Q = Rn 186 B186_1 ls st μ Q := rfl
theorem t186_2 {ls st : List MVal} {μ : MMem} {Q : MVal → MMem → Prop} : At 186 2 ls st μ Q = Rn 186 B186_2 ls st μ Q := rfl
theorem t187_0 {ls st : List MVal} {μ : MMem} {Q : MVal → MMem → Prop} : At 187 0 ls st μ Q = Rn 187 B187_0 ls st μ Q := rfl
theorem t188_0 {ls st : List MVal} {μ : MMem} {Q : MVal → MMem → Prop} : At 188 0 ls st μ Q = Rn 188 B188_0 ls st μ Q := rfl
theorem t188_1 {ls st : List MVal} {μ : MMem} {Q : MVal → MMem → Prop} : At 188 1 ls st μ Q = Rn 188 B188_1 ls st μ Q := rfl
theorem t188_2 {ls st : List MVal} {μ : MMem} {Q : MVal → MMem → Prop} : At 188 2 ls st μ Q = Rn 188 B188_2 ls st μ Q := rfl
theorem t188_3 {ls st : List MVal} {μ : MMem} {Q : MVal → MMem → Prop} : At 188 3 ls st μ Q = Rn 188 B188_3 ls st μ Q := rfl
theorem t188_4 {ls st : List MVal} {μ : MMem} {Q : MVal → MMem → Prop} : At 188 4 ls st μ Q = Rn 188 B188_4 ls st μ Q := rfl
theorem t188_5 {ls st : List MVal} {μ : MMem} {Q : MVal → MMem → Prop} : At 188 5 ls st μ Q = Rn 188 B188_5 ls st μ Q := rfl
theorem t188_6 {ls st : List MVal} {μ : MMem} {Q : MVal → MMem → Prop} : At 188 6 ls st μ Q = Rn 188 B188_6 ls st μ Q := rfl
theorem t188_7 {ls st : List MVal} {μ : MMem} {Q : MVal → MMem → Prop} : At 188 7 ls st μ Q = Rn 188 B188_7 ls st μ Q := rfl
theorem t188_8 {ls st : List MVal} {μ : MMem} {Q : MVal → MMem → Prop} : At 188 8 ls st μ Q = Rn 188 B188_8 ls st μ Q := rfl
theorem t189_0 {ls st : List MVal} {μ : MMem} {Q : MVal → MMem → Prop} : At 189 0 ls st μ Q = Rn 189 B189_0 ls st μ Q := rfl
theorem t189_1 {ls st : List MVal} {μ : MMem} {Q : MVal → MMem → Prop} : At 189 1 ls st μ Q = Rn 189 B189_1 ls st μ Q := rfl
theorem t189_2 {ls st : List MVal} {μ : MMem} {Q : MVal → MMem → Prop} : At 189 2 ls st μ Q = Rn 189 B189_2 ls st μ Q := rfl
theorem t190_0 {ls st : List MVal} {μ : MMem} {Q : MVal → MMem → Prop} : At 190 0 ls st μ Q = Rn 190 B190_0 ls st μ Q := rfl
theorem t190_1 {ls st : List MVal} {μ : MMem} {Q : MVal → MMem → Prop} : At 190 1 ls st μ Q = Rn 190 B190_1 ls st μ Q := rfl
theorem t190_2 {ls st : List MVal} {μ : MMem} {Q : MVal → MMem → Prop} : At 190 2 ls st μ Q = Rn 190 B190_2 ls st μ Q := rfl
theorem t190_3 {ls st : List MVal} {μ : MMem} {Q : MVal → MMem → Prop} : At 190 3 ls st μ Q = Rn 190 B190_3 ls st μ Q := rfl
theorem t190_4 {ls st : List MVal} {μ : MMem} {Q : MVal → MMem → Prop} : At 190 4 ls st μ Q = Rn 190 B190_4 ls st μ Q := rfl
theorem t190_5 {ls st : List MVal} {μ : MMem} {Q : MVal → MMem → Prop} : At 190 5 ls st μ Q = Rn 190 B190_5 ls st μ Q := rfl
theorem t191_0 {ls st : List MVal} {μ : MMem} {Q : MVal → MMem → Prop} : At 191 0 ls st μ Q = Rn 191 B191_0 ls st μ Q := rfl
theorem t191_1 {ls st : List MVal} {μ : MMem} {Q : MVal → MMem → Prop} : At 191 1 ls st μ Q = Rn 191 B191_1 ls st μ Q := rfl
theorem t191_2 {ls st : List MVal} {μ : MMem} {Q : MVal → MMem → Prop} : At 191 2 ls st μ Q = Rn 191 B191_2 ls st μ Q := rfl
theorem t191_3 {ls st : List MVal} {μ : MMem} {Q : MVal → MMem → Prop} : At 191 3 ls st μ Q = Rn 191 B191_3 ls st μ Q := rfl
theorem t191_4 {ls st : List MVal} {μ : MMem} {Q : MVal → MMem → Prop} : At 191 4 ls st μ Q = Rn 191 B191_4 ls st μ Q := rfl
theorem t191_5 {ls st : List MVal} {μ : MMem} {Q : MVal → MMem → Prop} : At 191 5 ls st μ Q = Rn 191 B191_5 ls st μ Q := rfl
theorem t191_6 {ls st : List MVal} {μ : MMem} {Q : MVal → MMem → Prop} : At 191 6 ls st μ Q = Rn 191 B191_6 ls st μ Q := rfl
theorem t191_7 {ls st : List MVal} {μ : MMem} {Q : MVal → MMem → Prop} : At 191 7 ls st μ Q = Rn 191 B191_7 ls st μ Q := rfl
theorem t191_8 {ls st : List MVal} {μ : MMem} {Q : MVal → MMem → Prop} : At 191 8 ls st μ Q = Rn 191 B191_8 ls st μ Q := rfl
theorem t191_9 {ls st : List MVal} {μ : MMem} {Q : MVal → MMem → Prop} : At 191 9 ls st μ Q = Rn 191 B191_9 ls st μ Q := rfl
theorem t192_0 {ls st : List MVal} {μ : MMem} {Q : MVal → MMem → Prop} : At 192 0 ls st μ Q = Rn 192 B192_0 ls st μ Q := rfl
theorem t192_1 {ls st : List MVal} {μ : MMem} {Q : MVal → MMem → Prop} : At 192 1 ls st μ Q = Rn 192 B192_1 ls st μ Q := rfl
theorem t192_2 {ls st : List MVal} {μ : MMem} {Q : MVal → MMem → Prop} : At 192 2 ls st μ Q = Rn 192 B192_2 ls st μ Q := rfl
theorem t193_0 {ls st : List MVal} {μ : MMem} {Q : MVal → MMem → Prop} : At 193 0 ls st μ Q = Rn 193 B193_0 ls st μ Q := rfl
theorem t194_0 {ls st : List MVal} {μ : MMem} {Q : MVal → MMem → Prop} : At 194 0 ls st μ Q = Rn 194 B194_0 ls st μ Q := rfl
theorem t194_1 {ls st : List MVal} {μ : MMem} {Q : MVal → MMem → Prop} : At 194 1 ls st μ Q = Rn 194 B194_1 ls st μ Q := rfl
theorem t194_2 {ls st : List MVal} {μ : MMem} {Q : MVal → MMem → Prop} : At 194 2 ls st μ Q = Rn 194 B194_2 ls st μ Q := rfl
theorem t195_0 {ls st : List MVal} {μ : MMem} {Q : MVal → MMem → Prop} : At 195 0 ls st μ Q = Rn 195 B195_0 ls st μ Q := rfl
theorem t195_1 {ls st : List MVal} {μ : MMem} {Q : MVal → MMem → Prop} : At 195 1 ls st μ Q = Rn 195 B195_1 ls st μ Q := rfl
theorem t195_2 {ls st : List MVal} {μ : MMem} {Q : MVal → MMem → Prop} : At 195 2 ls st μ Q = Rn 195 B195_2 ls st μ Q := rfl
theorem t195_3 {ls st : List MVal} {μ : MMem} {Q : MVal → MMem → Prop} : At 195 3 ls st μ Q = Rn 195 B195_3 ls st μ Q := rfl
theorem t195_4 {ls st : List MVal} {μ : MMem} {Q : MVal → MMem → Prop} : At 195 4 ls st μ Q = Rn 195 B195_4 ls st μ Q := rfl
theorem t195_5 {ls st : List MVal} {μ : MMem} {Q : MVal → MMem → Prop} : At 195 5 ls st μ Q = Rn 195 B195_5 ls st μ Q := rfl
theorem t195_6 {ls st : List MVal} {μ : MMem} {Q : MVal → MMem → Prop} : At 195 6 ls st μ Q = Rn 195 B195_6 ls st μ Q := rfl
theorem t195_7 {ls st : List MVal} {μ : MMem} {Q : MVal → MMem → Prop} : At 195 7 ls st μ Q = Rn 195 B195_7 ls st μ Q := rfl
theorem t195_8 {ls st : List MVal} {μ : MMem} {Q : MVal → MMem → Prop} : At 195 8 ls st μ Q = Rn 195 B195_8 ls st μ Q := rfl
theorem t196_0 {ls st : List MVal} {μ : MMem} {Q : MVal → MMem → Prop} : At 196 0 ls st μ Q = Rn 196 B196_0 ls st μ Q := rfl
theorem t196_1 {ls st : List MVal} {μ : MMem} {Q : MVal → MMem → Prop} : At 196 1 ls st μ Q = Rn 196 B196_1 ls st μ Q := rfl
theorem t196_2 {ls st : List MVal} {μ : MMem} {Q : MVal → MMem → Prop} : At 196 2 ls st μ Q = Rn 196 B196_2 ls st μ Q := rfl
theorem t196_3 {ls st : List MVal} {μ : MMem} {Q : MVal → MMem → Prop} : At 196 3 ls st μ Q = Rn 196 B196_3 ls st μ Q := rfl
theorem t196_4 {ls st : List MVal} {μ : MMem} {Q : MVal → MMem → Prop} : At 196 4 ls st μ Q = Rn 196 B196_4 ls st μ Q := rfl
theorem t196_5 {ls st : List MVal} {μ : MMem} {Q : MVal → MMem → Prop} : At 196 5 ls st μ Q = Rn 196 B196_5 ls st μ Q := rfl
theorem t196_6 {ls st : List MVal} {μ : MMem} {Q : MVal → MMem → Prop} : At 196 6 ls st μ Q = Rn 196 B196_6 ls st μ Q := rfl
theorem t196_7 {ls st : List MVal} {μ : MMem} {Q : MVal → MMem → Prop} : At 196 7 ls st μ Q = Rn 196 B196_7 ls st μ Q := rfl
theorem t196_8 {ls st : List MVal} {μ : MMem} {Q : MVal → MMem → Prop} : At 196 8 ls st μ Q = Rn 196 B196_8 ls st μ Q := rfl
theorem t196_9 {ls st : List MVal} {μ : MMem} {Q : MVal → MMem → Prop} : At 196 9 ls st μ Q = Rn 196 B196_9 ls st μ Q := rfl
theorem t196_10 {ls st : List MVal} {μ : MMem} {Q : MVal → MMem → Prop} : At 196 10 ls st μ Q = Rn 196 B196_10 ls st μ Q := rfl
theorem t197_0 {ls st : List MVal} {μ : MMem} {Q : MVal → MMem → Prop} : At 197 0 ls st μ Q = Rn 197 B197_0 ls st μ Q := rfl
theorem t197_1 {ls st : List MVal} {μ : MMem} {Q : MVal → MMem → Prop} : At 197 1 ls st μ Q = Rn 197 B197_1 ls st μ Q := rfl
theorem t197_2 {ls st : List MVal} {μ : MMem} {Q : MVal → MMem → Prop} : At 197 2 ls st μ Q = Rn 197 B197_2 ls st μ Q := rfl
theorem t197_3 {ls st : List MVal} {μ : MMem} {Q : MVal → MMem → Prop} : At 197 3 ls st μ Q = Rn 197 B197_3 ls st μ Q := rfl
theorem t197_4 {ls st : List MVal} {μ : MMem} {Q : MVal → MMem → Prop} : At 197 4 ls st μ Q = Rn 197 B197_4 ls st μ Q := rfl
theorem t197_5 {ls st : List MVal} {μ : MMem} {Q : MVal → MMem → Prop} : At 197 5 ls st μ Q = Rn 197 B197_5 ls st μ Q := rfl
theorem t197_6 {ls st : List MVal} {μ : MMem} {Q : MVal → MMem → Prop} : At 197 6 ls st μ Q = Rn 197 B197_6 ls st μ Q := rfl
theorem t197_7 {ls st : List MVal} {μ : MMem} {Q : MVal → MMem → Prop} : At 197 7 ls st μ Q = Rn 197 B197_7 ls st μ Q := rfl
theorem t197_8 {ls st : List MVal} {μ : MMem} {Q : MVal → MMem → Prop} : At 197 8 ls st μ Q = Rn 197 B197_8 ls st μ Q := rfl
theorem t197_9 {ls st : List MVal} {μ : MMem} {Q : MVal → MMem → Prop} : At 197 9 ls st μ Q = Rn 197 B197_9 ls st μ Q := rfl
theorem t197_10 {ls st : List MVal} {μ : MMem} {Q : MVal → MMem → Prop} : At 197 10 ls st μ Q = Rn 197 B197_10 ls st μ Q := rfl
theorem t197_11 {ls st : List MVal} {μ : MMem} {Q : MVal → MMem → Prop} : At 197 11 ls st μ Q = Rn 197 B197_11 ls st μ Q := rfl
theorem t197_12 {ls st : List MVal} {μ : MMem} {Q : MVal → MMem → Prop} : At 197 12 ls st μ Q = Rn 197 B197_12 ls st μ Q := rfl
theorem t197_13 {ls st : List MVal} {μ : MMem} {Q : MVal → MMem → Prop} : At 197 13 ls st μ Q = Rn 197 B197_13 ls st μ Q := rfl
theorem t197_14 {ls st : List MVal} {μ : MMem} {Q : MVal → MMem → Prop} : At 197 14 ls st μ Q = Rn 197 B197_14 ls st μ Q := rfl
theorem t197_15 {ls st : List MVal} {μ : MMem} {Q : MVal → MMem → Prop} : At 197 15 ls st μ Q = Rn 197 B197_15 ls st μ Q := rfl
theorem t197_16 {ls st : List MVal} {μ : MMem} {Q : MVal → MMem → Prop} : At 197 16 ls st μ Q = Rn 197 B197_16 ls st μ Q := rfl
theorem t197_17 {ls st : List MVal} {μ : MMem} {Q : MVal → MMem → Prop} : At 197 17 ls st μ Q = Rn 197 B197_17 ls st μ Q := rfl
theorem t197_18 {ls st : List MVal} {μ : MMem} {Q : MVal → MMem → Prop} : At 197 18 ls st μ Q = Rn 197 B197_18 ls st μ Q := rfl
theorem t197_19 {ls st : List MVal} {μ : MMem} {Q : MVal → MMem → Prop} : At 197 19 ls st μ Q = Rn 197 B197_19 ls st μ Q := rfl
theorem t197_20 {ls st : List MVal} {μ : MMem} {Q : MVal → MMem → Prop} : At 197 20 ls st μ Q = Rn 197 B197_20 ls st μ Q := rfl
theorem t197_21 {ls st : List MVal} {μ : MMem} {Q : MVal → MMem → Prop} : At 197 21 ls st μ Q = Rn 197 B197_21 ls st μ Q := rfl
theorem t197_22 {ls st : List MVal} {μ : MMem} {Q : MVal → MMem → Prop} : At 197 22 ls st μ Q = Rn 197 B197_22 ls st μ Q := rfl
theorem t197_23 {ls st : List MVal} {μ : MMem} {Q : MVal → MMem → Prop} : At 197 23 ls st μ Q = Rn 197 B197_23 ls st μ Q := rfl
theorem t197_24 {ls st : List MVal} {μ : MMem} {Q : MVal → MMem → Prop} : At 197 24 ls st μ Q = Rn 197 B197_24 ls st μ Q := rfl
theorem t197_25 {ls st : List MVal} {μ : MMem} {Q : MVal → MMem → Prop} : At 197 25 ls st μ Q = Rn 197 B197_25 ls st μ Q := rfl
theorem t197_26 {ls st : List MVal} {μ : MMem} {Q : MVal → MMem → Prop} : At 197 26 ls st μ Q = Rn 197 B197_26 ls st μ Q := rfl
theorem t197_27 {ls st : List MVal} {μ : MMem} {Q : MVal → MMem → Prop} : At 197 27 ls st μ Q = Rn 197 B197_27 ls st μ Q := rfl
theorem t197_28 {ls st : List MVal} {μ : MMem} {Q : MVal → MMem → Prop} : At 197 28 ls st μ Q = Rn 197 B197_28 ls st μ Q := rfl
theorem t197_29 {ls st : List MVal} {μ : MMem} {Q : MVal → MMem → Prop} : At 197 29 ls st μ Q = Rn 197 B197_29 ls st μ Q := rfl
theorem t197_30 {ls st : List MVal} {μ : MMem} {Q : MVal → MMem → Prop} : At 197 30 ls st μ Q = Rn 197 B197_30 ls st μ Q := rfl
theorem t197_31 {ls st : List MVal} {μ : MMem} {Q : MVal → MMem → Prop} : At 197 31 ls st μ Q = Rn 197 B197_31 ls st μ Q := rfl
theorem t197_32 {ls st : List MVal} {μ : MMem} {Q : MVal → MMem → Prop} : At 197 32 ls st μ Q = Rn 197 B197_32 ls st μ Q := rfl
theorem t197_33 {ls st : List MVal} {μ : MMem} {Q : MVal → MMem → Prop} : At 197 33 ls st μ Q = Rn 197 B197_33 ls st μ Q := rfl
theorem t197_34 {ls st : List MVal} {μ : MMem} {Q : MVal → MMem → Prop} : At 197 34 ls st μ Q = Rn 197 B197_34 ls st μ Q := rfl
theorem t197_35 {ls st : List MVal} {μ : MMem} {Q : MVal → MMem → Prop} : At 197 35 ls st μ Q = Rn 197 B197_35 ls st μ Q := rfl
theorem t197_36 {ls st : List MVal} {μ : MMem} {Q : MVal → MMem → Prop} : At 197 36 ls st μ Q = Rn 197 B197_36 ls st μ Q := rfl
theorem t197_37 {ls st : List MVal} {μ : MMem} {Q : MVal → MMem → Prop} : At 197 37 ls st μ Q = Rn 197 B197_37 ls st μ Q := rfl
theorem t197_38 {ls st : List MVal} {μ : MMem} {Q : MVal → MMem → Prop} : At 197 38 ls st μ Q = Rn 197 B197_38 ls st μ Q := rfl
theorem al_13 : m_al 13 = 60 := rfl
theorem al_14 : m_al 14 = 60 := rfl
theorem al_15 : m_al 15 = 60 := rfl
theorem al_16 : m_al 16 = 60 := rfl
theorem al_18 : m_al 18 = 256 := rfl
theorem al_19 : m_al 19 = 504 := rfl
theorem al_25 : m_al 25 = 6 := rfl
theorem al_26 : m_al 26 = 6 := rfl
theorem al_27 : m_al 27 = 8 := rfl
theorem al_28 : m_al 28 = 8 := rfl
theorem al_29 : m_al 29 = 8 := rfl
theorem al_30 : m_al 30 = 8 := rfl
theorem al_31 : m_al 31 = 8 := rfl
theorem al_32 : m_al 32 = 8 := rfl
theorem al_33 : m_al 33 = 8 := rfl
theorem al_34 : m_al 34 = 8 := rfl
theorem al_35 : m_al 35 = 8 := rfl
theorem al_36 : m_al 36 = 8 := rfl
theorem al_37 : m_al 37 = 8 := rfl
theorem al_38 : m_al 38 = 8 := rfl
theorem al_39 : m_al 39 = 8 := rfl
theorem al_40 : m_al 40 = 17 := rfl
theorem al_41 : m_al 41 = 39 := rfl
theorem al_42 : m_al 42 = 6 := rfl
theorem al_43 : m_al 43 = 8 := rfl
theorem al_44 : m_al 44 = 8 := rfl
theorem al_45 : m_al 45 = 8 := rfl
theorem al_46 : m_al 46 = 8 := rfl
theorem al_48 : m_al 48 = 4 := rfl
theorem al_49 : m_al 49 = 4 := rfl
theorem al_50 : m_al 50 = 240 := rfl
theorem al_51 : m_al 51 = 60 := rfl
theorem al_52 : m_al 52 = 80 := rfl
theorem al_53 : m_al 53 = 2 := rfl
theorem al_54 : m_al 54 = 12 := rfl
theorem al_55 : m_al 55 = 32 := rfl
theorem al_56 : m_al 56 = 24 := rfl
theorem al_57 : m_al 57 = 6 := rfl
theorem al_58 : m_al 58 = 8 := rfl
theorem al_59 : m_al 59 = 8 := rfl
theorem al_60 : m_al 60 = 8 := rfl
theorem al_61 : m_al 61 = 192 := rfl
theorem al_62 : m_al 62 = 192 := rfl
theorem al_63 : m_al 63 = 192 := rfl
theorem al_64 : m_al 64 = 192 := rfl
theorem al_65 : m_al 65 = 192 := rfl
theorem al_66 : m_al 66 = 192 := rfl
theorem al_67 : m_al 67 = 192 := rfl
theorem al_68 : m_al 68 = 24 := rfl
theorem al_69 : m_al 69 = 504 := rfl
theorem al_70 : m_al 70 = 24 := rfl
theorem rf_0_0 : m_rf 0 0 = 1 := rfl
theorem rf_0_1 : m_rf 0 1 = 2 := rfl
theorem rf_0_2 : m_rf 0 2 = 3 := rfl
theorem rf_0_3 : m_rf 0 3 = 4 := rfl
theorem rf_0_4 : m_rf 0 4 = 5 := rfl
theorem rf_0_5 : m_rf 0 5 = 6 := rfl
theorem rf_0_6 : m_rf 0 6 = 7 := rfl
theorem rf_0_7 : m_rf 0 7 = 8 := rfl
theorem rf_0_8 : m_rf 0 8 = 18 := rfl
theorem rf_0_10 : m_rf 0 10 = 19 := rfl
theorem rf_0_11 : m_rf 0 11 = 17 := rfl
theorem rf_1_0 : m_rf 1 0 = 20 := rfl
theorem rf_1_1 : m_rf 1 1 = 2 := rfl
theorem rf_1_2 : m_rf 1 2 = 6 := rfl
theorem rf_2_0 : m_rf 2 0 = 21 := rfl
theorem rf_2_1 : m_rf 2 1 = 4 := rfl
theorem rf_2_2 : m_rf 2 2 = 8 := rfl
theorem rf_3_0 : m_rf 3 0 = 22 := rfl
theorem rf_3_1 : m_rf 3 1 = 3 := rfl
theorem rf_3_2 : m_rf 3 2 = 8 := rfl
theorem rf_4_0 : m_rf 4 0 = 23 := rfl
theorem rf_4_1 : m_rf 4 1 = 3 := rfl
theorem rf_4_2 : m_rf 4 2 = 8 := rfl
theorem rf_5_0 : m_rf 5 0 = 24 := rfl
theorem rf_5_1 : m_rf 5 1 = 3 := rfl
theorem rf_5_2 : m_rf 5 2 = 8 := rfl
theorem rf_6_0 : m_rf 6 0 = 40 := rfl
theorem rf_6_1 : m_rf 6 1 = 1 := rfl
theorem rf_7_0 : m_rf 7 0 = 41 := rfl
theorem rf_7_1 : m_rf 7 1 = 2 := rfl
theorem rf_8_0 : m_rf 8 0 = 1 := rfl
theorem rf_8_1 : m_rf 8 1 = 2 := rfl
theorem rf_8_5 : m_rf 8 5 = 42 := rfl
theorem rf_8_6 : m_rf 8 6 = 43 := rfl
theorem rf_8_7 : m_rf 8 7 = 44 := rfl
theorem rf_8_8 : m_rf 8 8 = 45 := rfl
theorem rf_8_9 : m_rf 8 9 = 46 := rfl
theorem rf_9_0 : m_rf 9 0 = 13 := rfl
theorem rf_10_0 : m_rf 10 0 = 14 := rfl
theorem rf_11_0 : m_rf 11 0 = 15 := rfl
theorem rf_12_0 : m_rf 12 0 = 16 := rfl
theorem rf_47_0 : m_rf 47 0 = 48 := rfl
theorem rf_47_1 : m_rf 47 1 = 49 := rfl
theorem rf_47_2 : m_rf 47 2 = 50 := rfl
theorem rf_47_3 : m_rf 47 3 = 51 := rfl
theorem rf_47_5 : m_rf 47 5 = 52 := rfl
theorem rf_47_6 : m_rf 47 6 = 53 := rfl
theorem rf_47_8 : m_rf 47 8 = 54 := rfl
theorem rf_47_10 : m_rf 47 10 = 55 := rfl
theorem rf_47_12 : m_rf 47 12 = 56 := rfl
theorem rf_47_14 : m_rf 47 14 = 57 := rfl
theorem rf_47_15 : m_rf 47 15 = 58 := rfl
theorem rf_47_16 : m_rf 47 16 = 59 := rfl
theorem rf_47_17 : m_rf 47 17 = 60 := rfl
theorem rf_47_18 : m_rf 47 18 = 61 := rfl
theorem rf_47_19 : m_rf 47 19 = 62 := rfl
theorem rf_47_20 : m_rf 47 20 = 63 := rfl
theorem rf_47_21 : m_rf 47 21 = 64 := rfl
theorem rf_47_22 : m_rf 47 22 = 65 := rfl
theorem rf_47_23 : m_rf 47 23 = 66 := rfl
theorem rf_47_24 : m_rf 47 24 = 67 := rfl
theorem rf_47_26 : m_rf 47 26 = 68 := rfl
theorem rf_47_27 : m_rf 47 27 = 69 := rfl
theorem rf_47_29 : m_rf 47 29 = 70 := rfl
theorem rf_17 (k : Int) : m_rf 17 k = 9 + k := rfl
theorem rf_20 (k : Int) : m_rf 20 k = 25 + k := rfl
theorem rf_21 (k : Int) : m_rf 21 k = 27 + k := rfl
theorem rf_22 (k : Int) : m_rf 22 k = 31 + k := rfl
theorem rf_23 (k : Int) : m_rf 23 k = 34 + k := rfl
theorem rf_24 (k : Int) : m_rf 24 k = 37 + k := rfl
theorem rl_17 : m_rl 17 = 4 := rfl
theorem rl_20 : m_rl 20 = 2 := rfl
theorem rl_21 : m_rl 21 = 4 := rfl
theorem rl_22 : m_rl 22 = 3 := rfl
theorem rl_23 : m_rl 23 = 3 := rfl
theorem rl_24 : m_rl 24 = 3 := rfl
