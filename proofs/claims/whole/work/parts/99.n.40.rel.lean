/-! how the small machine's state stands for the real one's -/
def s_v (φ : Nat → Nat) (v : MVal) : Value := if v.1 = 0 then .int (Int32.ofInt v.2) else if v.1 = 1 then .long (Int64.ofInt v.2) else if v.2 < 0 then .null else .ref (φ v.2.toNat)
def s_R32 (x : Int) : Prop := -2147483648 ≤ x ∧ x < 2147483648
def s_R64 (x : Int) : Prop := -9223372036854775808 ≤ x ∧ x < 9223372036854775808
def s_ok (v : MVal) : Prop :=
  (v.1 = 0 → s_R32 v.2) ∧ (v.1 = 1 → s_R64 v.2) ∧ (2 ≤ v.1 → v.1 ≤ 10 → v.2 < 0 ∨ (v.2 < 71 ∧ n_kd v.2.toNat = v.1)) ∧ (v.1 = 11 → v.2 < 0 ∨ v.2 = 200 ∨ v.2 = 201 ∨ v.2 = 202) ∧ (v.1 = 12 → v.2 < 0 ∨ v.2 = 203) ∧ (v.1 = 13 → v.2 < 0 ∨ v.2 = 204) ∧ v.1 ≤ 14
def s_mo (L : Nat) (xs : Nat → Int32) (μ : MMem) : Prop := (∀ i j, s_R32 (μ i j)) ∧ (1 ≤ μ 8 2 ∧ μ 8 2 ≤ 5) ∧ μ 202 (-1) = (L : Int) ∧ ∀ j : Nat, j < L → μ 202 (j : Int) = (xs j).toInt
def s_fv (φ : Nat → Nat) (μ : MMem) (i k : Nat) : Value :=
  if n_dt (n_T (n_kd i) k).2.2.1 < 2 then .int (Int32.ofInt (if (n_T (n_kd i) k).2.2.2 then m_rf i k else μ i k)) else .ref (φ (if (n_T (n_kd i) k).2.2.2 then m_rf i k else μ i k).toNat)
def s_ce (φ : Nat → Nat) (cI cS cA : ClassId) (μ : MMem) (i : Nat) : va_E :=
  if n_kd i = 2 then .inl (cI, (m_al i).toNat, .inl (fun j => Int32.ofInt (μ i j)))
  else if n_kd i = 3 then .inl (cA, (m_rl i).toNat, .inr (.inr (.inr (.inr (fun j => some (φ (m_rf i j).toNat))))))
  else if n_kd i = 4 then .inl (cS, (m_rl i).toNat, .inr (.inr (.inr (.inr (fun j => some (φ (m_rf i j).toNat))))))
  else .inr (n_ci i, (List.range (n_N (n_kd i))).map (s_fv φ μ i))
def s_ws (φ : Nat → Nat) (cI cS cA : ClassId) (μ : MMem) : va_W := (List.range 71).map (fun i => (φ i, s_ce φ cI cS cA μ i))
def n_nests : List Cond := [.methodLinkNest "BrideDoors$Text" 46 ⟨"BrideDoors", "placeAmong", "(ICI)I"⟩ "BrideDoors", .methodLinkNest "BrideDoors$BrideText" 9 ⟨"BrideDoors", "placeAmong", "(ICI)I"⟩ "BrideDoors", .methodLinkNest "BrideDoors$BrideText" 13 ⟨"BrideDoors", "heightOfSign", "(I)I"⟩ "BrideDoors", .methodLinkNest "BrideDoors$HouseText" 17 ⟨"BrideDoors", "heightOfSign", "(I)I"⟩ "BrideDoors", .methodLinkNest "BrideDoors$Table" 24 ⟨"BrideDoors", "isBelow", "(II)Z"⟩ "BrideDoors", .methodLinkNest "BrideDoors$World" 53 ⟨"BrideDoors", "isSet", "(II)Z"⟩ "BrideDoors", .methodLinkNest "BrideDoors$Sheet" 32 ⟨"BrideDoors", "isBelow", "(II)Z"⟩ "BrideDoors"]
def n_decl : Cond := .declares ⟨"BrideDoors$Text", "valueOf", "(II)I"⟩
abbrev n_tys (cI cS cA : ClassId) : List (ClassId × FieldType) := [(cI, .int), (cS, .object "BrideDoors$Sheet"), (cA, .array .int)]
/-- what stands around the world: the tables, the statics, the constant, the script -/
def s_K (φ : Nat → Nat) (D : va_G) (cI cS cA : ClassId) (L : Nat) (xs : Nat → Int32) (A : Nat → Prop) (U : State) (H : Heap) : Prop :=
  va_K D n_cl (n_tys cI cS cA) U ∧
  va_T .int (φ 200) 4 (fun j => .int (Int32.ofInt (([0, 7, 15, 23] : List Int).getD j 0))) A U H ∧
  va_T .int (φ 201) 3 (fun j => .int (Int32.ofInt (([7, 15, 23] : List Int).getD j 0))) A U H ∧
  va_T .int (φ 202) L (fun j => .int (xs j)) A U H ∧
  va_Z "BrideDoors" "HOUSE_YEARS" "[I" (.ref (φ 200)) A U H ∧ va_Z "BrideDoors" "DOOR_YEARS" "[I" (.ref (φ 201)) A U H ∧ va_Z "java/lang/String" "COMPACT_STRINGS" "Z" (.int 1) A U H ∧
  vk_R "BrideDoors$HouseText" 9 "swt" (φ 203) U ∧
  vk_S 1 [3] [[115, 119, 116]] (fun _ => φ 203) (fun _ => φ 204) A U H ∧
  (∀ w ∈ n_nests, va_Nw w U) ∧ va_Nw n_decl U
theorem s_nest_warm {s U : State} (hW : s.WarmedH U.vm) (h : ∀ w ∈ n_nests, va_Nw w s) : ∀ w ∈ n_nests, va_Nw w U := by
  intro w hw
  have h1 := h w hw
  simp only [n_nests, List.mem_cons, List.not_mem_nil, or_false] at hw
  rcases hw with rfl | rfl | rfl | rfl | rfl | rfl | rfl <;> exact va_Nw.warmM hW h1
theorem s_K.go {φ : Nat → Nat} {D : va_G} {cI cS cA : ClassId} {L : Nat} {xs : Nat → Int32} {A : Nat → Prop} {s U : State} {H0 H : Heap} (h : s_K φ D cI cS cA L xs A s H0) (hW : s.WarmedH U.vm) (hq : ∀ a : Nat, a < H0.size → ¬ A a → H[a]? = H0[a]?) : s_K φ D cI cS cA L xs A U H := by
  obtain ⟨h1, h2, h3, h4, h5, h6, h7, h8, h9, h10, h11⟩ := h
  exact ⟨h1.moved hW.alike, (h2.kept hq).moved hW.alike, (h3.kept hq).moved hW.alike, (h4.kept hq).moved hW.alike, (h5.kept hq).moved hW.alike, (h6.kept hq).moved hW.alike, (h7.kept hq).moved hW.alike, h8.warm hW, (h9.kept hq).moved hW.alike, s_nest_warm hW h10, va_Nw.warmD hW h11⟩
theorem s_K.narrow {φ : Nat → Nat} {D : va_G} {cI cS cA : ClassId} {L : Nat} {xs : Nat → Int32} {A B : Nat → Prop} {U : State} {H : Heap} (h : s_K φ D cI cS cA L xs A U H) (hAB : ∀ q, B q → A q) : s_K φ D cI cS cA L xs B U H := by
  obtain ⟨h1, h2, h3, h4, h5, h6, h7, h8, h9, h10, h11⟩ := h
  exact ⟨h1, h2.narrow hAB, h3.narrow hAB, h4.narrow hAB, h5.narrow hAB, h6.narrow hAB, h7.narrow hAB, h8, h9.narrow hAB, h10, h11⟩
/-- the locals -/
def s_L (φ : Nat → Nat) (lsA : Array Slot) (nL : Nat) (ls : List MVal) : Prop :=
  lsA.size = nL ∧ lv_wf lsA ∧ ∀ i, (m_l ls i).1 ≠ 14 → s_ok (m_l ls i) ∧ lsA[i]? = some (.val (s_v φ (m_l ls i)))
def s_pr (φ : Nat → Nat) (nL : Nat) (ls : List MVal) : List (Nat × Value) := ((List.range nL).filter (fun i => (m_l ls i).1 ≠ 14)).map (fun i => (i, s_v φ (m_l ls i)))
theorem s_L.has {φ : Nat → Nat} {lsA : Array Slot} {nL : Nat} {ls : List MVal} (h : s_L φ lsA nL ls) : lv_has lsA nL (s_pr φ nL ls) := by
  refine ⟨h.1, h.2.1, fun q hq => ?_⟩
  obtain ⟨i, hi, rfl⟩ := List.mem_map.mp hq
  have h1 := (List.mem_filter.mp hi).2
  exact (h.2.2 i (by simpa using h1)).2
theorem m_l_lp (ls : List MVal) : ∀ (n i : Nat) (v : MVal), m_l (m_lp ls n v) i = if n < ls.length then (if i = n then v else if i + 1 = n ∧ (m_l ls i).1 = 1 then (14, 0) else m_l ls i) else (if i + 1 = n ∧ (m_l ls i).1 = 1 then (14, 0) else m_l ls i) := by
  induction ls with
  | nil => intro n i v; simp [m_lp, m_l]
  | cons a r ih =>
    intro n i v
    cases n with
    | zero =>
      cases i with
      | zero => simp [m_lp, m_l]
      | succ i => simp [m_lp, m_l]
    | succ n =>
      cases i with
      | zero =>
        cases n with
        | zero => simp only [m_lp, m_l]; by_cases h : a.1 = 1 <;> simp [h]
        | succ n => simp [m_lp, m_l]
      | succ i =>
        simp only [m_lp, m_l, List.length_cons, Nat.add_lt_add_iff_right, Nat.add_right_cancel_iff]
        rw [ih]
theorem s_cat (φ : Nat → Nat) (v : MVal) : (s_v φ v).category = if v.1 = 1 then 2 else 1 := by
  unfold s_v
  by_cases h0 : v.1 = 0
  · simp [h0, Value.category]
  · by_cases h1 : v.1 = 1
    · simp [h1, Value.category]
    · by_cases h2 : v.2 < 0 <;> simp [h0, h1, h2, Value.category]
theorem s_sum (φ : Nat → Nat) (st : List MVal) : ((st.map (s_v φ)).map fun v => v.category).sum = m_ws st := by
  induction st with
  | nil => rfl
  | cons a r ih => simp only [List.map_cons, List.sum_cons, ih, s_cat, m_ws]
theorem s_L.put {φ : Nat → Nat} {lsA lsB : Array Slot} {nL n : Nat} {ls : List MVal} {v : MVal} (h : s_L φ lsA nL ls) (hv : s_ok v) (h1 : v.1 ≠ 1)
    (hb : lv_has lsB nL ((n, s_v φ v) :: (s_pr φ nL ls).filter (fun q => !(q.1 == n) && !(q.1 + 1 == n && q.2.category == 2)))) (hn : n < nL) : s_L φ lsB nL (m_lp ls n v) := by
  refine ⟨hb.1, hb.2.1, fun i hi => ?_⟩
  have key : ∀ hx : (m_l ls i).1 ≠ 14, i ≠ n → ¬ (i + 1 = n ∧ (m_l ls i).1 = 1) → s_ok (m_l ls i) ∧ lsB[i]? = some (.val (s_v φ (m_l ls i))) := by
    intro hx hin hno
    refine ⟨(h.2.2 i hx).1, ?_⟩
    have hlt : i < nL := by have := lv_lt (h.2.2 i hx).2; rw [h.1] at this; exact this
    refine hb.2.2 (i, s_v φ (m_l ls i)) (List.mem_cons_of_mem _ (List.mem_filter.mpr ⟨List.mem_map.mpr ⟨i, List.mem_filter.mpr ⟨List.mem_range.mpr hlt, by simpa using hx⟩, rfl⟩, ?_⟩))
    simp only [s_cat, Bool.and_eq_true, Bool.not_eq_true', beq_eq_false_iff_ne, Bool.and_eq_false_iff, ne_eq]
    refine ⟨hin, ?_⟩
    by_cases e : i + 1 = n
    · right
      have : (m_l ls i).1 ≠ 1 := fun q => hno ⟨e, q⟩
      simp [this]
    · exact Or.inl e
  rw [m_l_lp] at hi ⊢
  by_cases hl : n < ls.length
  · rw [if_pos hl] at hi ⊢
    by_cases e : i = n
    · rw [if_pos e] at hi ⊢
      subst e
      exact ⟨hv, hb.2.2 _ List.mem_cons_self⟩
    · rw [if_neg e] at hi ⊢
      by_cases e2 : i + 1 = n ∧ (m_l ls i).1 = 1
      · rw [if_pos e2] at hi; exact absurd rfl hi
      · rw [if_neg e2] at hi ⊢; exact key hi e e2
  · rw [if_neg hl] at hi ⊢
    by_cases e2 : i + 1 = n ∧ (m_l ls i).1 = 1
    · rw [if_pos e2] at hi; exact absurd rfl hi
    · rw [if_neg e2] at hi ⊢
      have e : i ≠ n := by
        intro e
        subst e
        have : m_l ls i = (14, 0) := by
          have : ∀ (l : List MVal) (j : Nat), l.length ≤ j → m_l l j = (14, 0) := by
            intro l
            induction l with
            | nil => intro j _; rfl
            | cons a r ih => intro j hj; cases j with
              | zero => simp at hj
              | succ j => exact ih j (by simpa using hj)
          exact this _ _ (Nat.not_lt.mp hl)
        rw [this] at hi
        exact hi rfl
      exact key hi e e2
theorem s_L.put2 {φ : Nat → Nat} {lsA lsB : Array Slot} {nL n : Nat} {ls : List MVal} {v : MVal} (h : s_L φ lsA nL ls) (hv : s_ok v) 
    (hb : lv_has lsB nL ((n, s_v φ v) :: (s_pr φ nL ls).filter (fun q => !(q.1 == n) && (!(q.1 == n + 1) && !(q.1 + 1 == n && q.2.category == 2))))) (hn : n + 1 < nL) : s_L φ lsB nL (m_lq ls n v) := by
  have out : ∀ (l : List MVal) (j : Nat), l.length ≤ j → m_l l j = (14, 0) := by
    intro l
    induction l with
    | nil => intro j _; rfl
    | cons a r ih => intro j hj; cases j with
      | zero => simp at hj
      | succ j => exact ih j (by simpa using hj)
  refine ⟨hb.1, hb.2.1, fun i hi => ?_⟩
  have key : ∀ hx : (m_l ls i).1 ≠ 14, i ≠ n → i ≠ n + 1 → ¬ (i + 1 = n ∧ (m_l ls i).1 = 1) → s_ok (m_l ls i) ∧ lsB[i]? = some (.val (s_v φ (m_l ls i))) := by
    intro hx hin hin2 hno
    refine ⟨(h.2.2 i hx).1, ?_⟩
    have hlt : i < nL := by have := lv_lt (h.2.2 i hx).2; rw [h.1] at this; exact this
    refine hb.2.2 (i, s_v φ (m_l ls i)) (List.mem_cons_of_mem _ (List.mem_filter.mpr ⟨List.mem_map.mpr ⟨i, List.mem_filter.mpr ⟨List.mem_range.mpr hlt, by simpa using hx⟩, rfl⟩, ?_⟩))
    simp only [s_cat, Bool.and_eq_true, Bool.not_eq_true', beq_eq_false_iff_ne, Bool.and_eq_false_iff, ne_eq]
    refine ⟨hin, hin2, ?_⟩
    by_cases e : i + 1 = n
    · right
      have : (m_l ls i).1 ≠ 1 := fun q => hno ⟨e, q⟩
      simp [this]
    · exact Or.inl e
  have len : ∀ (l : List MVal) (j : Nat) (w : MVal), (m_lp l j w).length = l.length := by
    intro l
    induction l with
    | nil => intro j w; simp [m_lp]
    | cons a r ih => intro j w; cases j with
      | zero => simp [m_lp]
      | succ j => simp [m_lp, ih]
  unfold m_lq at hi ⊢
  have e1 := m_l_lp ls (n + 1) i (14, 0)
  rw [m_l_lp, len] at hi ⊢
  by_cases hl : n < ls.length
  · rw [if_pos hl] at hi ⊢
    by_cases e : i = n
    · rw [if_pos e] at hi ⊢
      subst e
      exact ⟨hv, hb.2.2 _ List.mem_cons_self⟩
    · rw [if_neg e] at hi ⊢
      have e1' : m_l (m_lp ls (n + 1) (14, 0)) i = if i = n + 1 then (14, 0) else m_l ls i := by
        rw [e1]
        have hno : ¬ (i + 1 = n + 1 ∧ (m_l ls i).1 = 1) := fun q => e (by omega)
        by_cases hl2 : n + 1 < ls.length
        · rw [if_pos hl2, if_neg hno]
        · rw [if_neg hl2, if_neg hno]
          by_cases e3 : i = n + 1
          · rw [if_pos e3, e3]; exact out _ _ (Nat.not_lt.mp hl2)
          · rw [if_neg e3]
      rw [e1'] at hi ⊢
      by_cases e3 : i = n + 1
      · rw [if_pos e3] at hi
        simp at hi
      · rw [if_neg e3] at hi ⊢
        by_cases e2 : i + 1 = n ∧ (m_l ls i).1 = 1
        · rw [if_pos e2] at hi; exact absurd rfl hi
        · rw [if_neg e2] at hi ⊢; exact key hi e e3 e2
  · rw [if_neg hl] at hi ⊢
    have hno : ¬ (i + 1 = n + 1 ∧ (m_l ls i).1 = 1) := by
      rintro ⟨q, q2⟩
      have : i = n := by omega
      subst this
      rw [out _ _ (Nat.not_lt.mp hl)] at q2
      cases q2
    have e1' : m_l (m_lp ls (n + 1) (14, 0)) i = m_l ls i := by
      rw [e1, if_neg (by omega), if_neg hno]
    rw [e1'] at hi ⊢
    by_cases e2 : i + 1 = n ∧ (m_l ls i).1 = 1
    · rw [if_pos e2] at hi; exact absurd rfl hi
    · rw [if_neg e2] at hi ⊢
      refine key hi (fun e => ?_) (fun e => ?_) e2
      · subst e; rw [out _ _ (Nat.not_lt.mp hl)] at hi; exact hi rfl
      · subst e; rw [out _ _ (by omega)] at hi; exact hi rfl
