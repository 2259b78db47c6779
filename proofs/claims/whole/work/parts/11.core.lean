/-! The small machine: values are (tag, number), memory is by cell and place. -/
abbrev MVal : Type := Nat × Int
abbrev MMem : Type := Int → Int → Int
abbrev MRes : Type := MVal × MMem
abbrev MOut : Type := Nat × Nat × List MVal × List MVal × List MVal × MMem
def m_w (μ : MMem) (i k v : Int) : MMem := fun a b => if a = i ∧ b = k then v else μ a b
def m_l : List MVal → Nat → MVal
  | [], _ => (14, 0)
  | a :: _, 0 => a
  | _ :: r, n + 1 => m_l r n
def m_lp : List MVal → Nat → MVal → List MVal
  | [], _, _ => []
  | _ :: r, 0, v => v :: r
  | a :: r, n + 1, v => (if n = 0 ∧ a.1 = 1 then (14, 0) else a) :: m_lp r n v
def m_lq (ls : List MVal) (n : Nat) (v : MVal) : List MVal := m_lp (m_lp ls (n + 1) (14, 0)) n v
def m_en : Nat → List MVal → List MVal
  | n, [] => List.replicate n (14, 0)
  | n, a :: r => if a.1 = 1 then a :: (14, 0) :: m_en (n - 2) r else a :: m_en (n - 1) r
def m_ws : List MVal → Nat
  | [] => 0
  | a :: r => (if a.1 = 1 then 2 else 1) + m_ws r
def m_ps (r : MVal) (st : List MVal) : List MVal := if r.1 = 14 then st else r :: st
def m_i (k : Nat) (x y : Int) : Int :=
  match k with
  | 0 => (Int32.ofInt x + Int32.ofInt y).toInt
  | 1 => (Int32.ofInt x - Int32.ofInt y).toInt
  | 2 => (Int32.ofInt x * Int32.ofInt y).toInt
  | 3 => (Int32.ofInt x &&& Int32.ofInt y).toInt
  | 4 => (Int32.ofInt x ||| Int32.ofInt y).toInt
  | 5 => (Int32.ofInt x <<< (Int32.ofInt y &&& 31)).toInt
  | 6 => (Int32.ofInt x >>> (Int32.ofInt y &&& 31)).toInt
  | _ => ((Int32.ofInt x).toUInt32 >>> ((Int32.ofInt y).toUInt32 &&& Int32.toUInt32 31)).toInt32.toInt
def m_id (k : Nat) (x y : Int) : Int :=
  match k with
  | 0 => (Int32.ofInt x / Int32.ofInt y).toInt
  | _ => (Int32.ofInt x - Int32.ofInt x / Int32.ofInt y * Int32.ofInt y).toInt
def m_lb (k : Nat) (x y : Int) : Int :=
  match k with
  | 0 => (Int64.ofInt x + Int64.ofInt y).toInt
  | 1 => (Int64.ofInt x - Int64.ofInt y).toInt
  | _ => (Int64.ofInt x * Int64.ofInt y).toInt
def m_ld (k : Nat) (x y : Int) : Int :=
  match k with
  | 0 => (Int64.ofInt x / Int64.ofInt y).toInt
  | _ => (Int64.ofInt x - Int64.ofInt x / Int64.ofInt y * Int64.ofInt y).toInt
def m_ls (x y : Int) : Int := (Int64.ofInt x <<< ((Int32.ofInt y).toInt64 &&& 63)).toInt
def m_c (k : Nat) (x : Int) : Int :=
  match k with
  | 0 => (Int32.ofInt x).toInt8.toInt32.toInt
  | 1 => (Int32.ofInt x).toInt16.toInt32.toInt
  | _ => ((Int32.ofInt x).toUInt32 % 65536).toInt32.toInt
def m_cmp (x y : Int) : Int := if x < y then -1 else if x = y then 0 else 1
def m_cn (k x y : Int) : Bool :=
  if k = 0 then decide (x = y) else if k = 1 then decide (x ≠ y) else if k = 2 then decide (x < y)
  else if k = 3 then decide (y ≤ x) else if k = 4 then decide (y < x) else decide (x ≤ y)
def m_st : Int → List Nat → Nat → Int → Nat
  | _, [], d, _ => d
  | low, l :: r, d, x => if x = low then l else m_st (low + 1) r d x
def m_sl : List Nat → Nat → Int → Nat
  | k :: l :: r, d, x => if x = (k : Int) then l else m_sl r d x
  | _, d, _ => d
def m_cp (μ : MMem) (a i b j n : Int) : MMem := fun u v => if u = b ∧ j ≤ v ∧ v < j + n then μ a (i + (v - j)) else μ u v
/-- the last n of a stack, in the order of the parameters, and what lies below -/
def m_tk : Nat → List MVal → List MVal → Option (List MVal × List MVal)
  | 0, st, acc => some (acc, st)
  | _ + 1, [], _ => none
  | n + 1, a :: st, acc => m_tk n st (a :: acc)
/-- how long the arrays of ints are, by their cells -/
def m_al (id : Int) : Int := (m_als.getD id.toNat 0 : Nat)
def m_rf (id k : Int) : Int :=
  if id = 17 then 9 + k else if id = 20 then 25 + k else if id = 21 then 27 + k else if id = 22 then 31 + k else if id = 23 then 34 + k else if id = 24 then 37 + k
  else (m_rfs.getD id.toNat []).getD k.toNat 0
/-- how many rows an array of references has -/
def m_rl (id : Int) : Int := if id = 17 then 4 else if id = 20 then 2 else if id = 21 then 4 else 3
/-- arrays that nobody writes: the two of the class, the script -/
def m_ol (μ : MMem) (id : Int) : Int := if id = 200 then 4 else if id = 201 then 3 else μ 202 (-1)
def m_oc (μ : MMem) (id k : Int) : Int := if id = 200 then ([0, 7, 15, 23] : List Int).getD k.toNat 0 else if id = 201 then ([7, 15, 23] : List Int).getD k.toNat 0 else μ 202 k
def m_bc (k : Int) : Int := ([115, 119, 116] : List Int).getD k.toNat 0
def m_nx (ls st : List MVal) (μ : MMem) : Option MOut := some (0, 0, [], ls, st, μ)
def m_ju (l : Nat) (ls st : List MVal) (μ : MMem) : Option MOut := some (1, l, [], ls, st, μ)
def m_ca (z : Nat) (as ls st : List MVal) (μ : MMem) : Option MOut := if m_ws st ≤ 8 then some (2, z, as, ls, st, μ) else none
def m_re (r : MVal) (μ : MMem) : Option MOut := some (3, 0, [], [], [r], μ)
/-- straight instructions -/
def m_opA (op n : Nat) (c : Int) (ls st : List MVal) (μ : MMem) : Option MOut :=
  match op with
  | 0 => m_nx ls ((0, c) :: st) μ
  | 1 => m_nx ls ((1, c) :: st) μ
  | 2 => if (m_l ls n).1 = 0 then m_nx ls (m_l ls n :: st) μ else none
  | 3 => if (m_l ls n).1 = 1 then m_nx ls (m_l ls n :: st) μ else none
  | 4 => if 2 ≤ (m_l ls n).1 ∧ (m_l ls n).1 ≤ 13 then m_nx ls (m_l ls n :: st) μ else none
  | 5 => match st with
    | (0, x) :: st => m_nx (m_lp ls n (0, x)) st μ
    | _ => none
  | 6 => match st with
    | (1, x) :: st => m_nx (m_lq ls n (1, x)) st μ
    | _ => none
  | 7 => match st with
    | (t, x) :: st => if 2 ≤ t ∧ t ≤ 13 then m_nx (m_lp ls n (t, x)) st μ else none
    | _ => none
  | 8 => match m_l ls n with
    | (0, x) => m_nx (m_lp ls n (0, m_i 0 x c)) st μ
    | _ => none
  | 9 => match st with
    | (0, y) :: (0, x) :: st => m_nx ls ((0, m_i n x y) :: st) μ
    | _ => none
  | 10 => match st with
    | (0, y) :: (0, x) :: st => if y ≠ 0 then m_nx ls ((0, m_id n x y) :: st) μ else none
    | _ => none
  | 11 => match st with
    | (1, y) :: (1, x) :: st => m_nx ls ((1, m_lb n x y) :: st) μ
    | _ => none
  | 12 => match st with
    | (1, y) :: (1, x) :: st => if y ≠ 0 then m_nx ls ((1, m_ld n x y) :: st) μ else none
    | _ => none
  | 13 => match st with
    | (0, y) :: (1, x) :: st => m_nx ls ((1, m_ls x y) :: st) μ
    | _ => none
  | 14 => match st with
    | (0, x) :: st => m_nx ls ((0, m_c n x) :: st) μ
    | _ => none
  | 15 => match st with
    | (0, x) :: st => m_nx ls ((1, x) :: st) μ
    | _ => none
  | 16 => match st with
    | (1, y) :: (1, x) :: st => m_nx ls ((0, m_cmp x y) :: st) μ
    | _ => none
  | 17 => match st with
    | (t, x) :: st => if t ≠ 1 then m_nx ls ((t, x) :: (t, x) :: st) μ else none
    | _ => none
  | 18 => match st with
    | (t, _) :: st => if t ≠ 1 then m_nx ls st μ else none
    | _ => none
  | _ => match st with
    | (t, x) :: (u, y) :: st => if t ≠ 1 ∧ u ≠ 1 then m_nx ls ((t, x) :: (u, y) :: (t, x) :: (u, y) :: st) μ else none
    | _ => none
/-- jumps -/
def m_opB (op n : Nat) (c : Int) (e : List Nat) (ls st : List MVal) (μ : MMem) : Option MOut :=
  match op with
  | 20 => match st with
    | (0, x) :: st => if m_cn c x 0 then m_ju n ls st μ else m_nx ls st μ
    | _ => none
  | 21 => match st with
    | (0, y) :: (0, x) :: st => if m_cn c x y then m_ju n ls st μ else m_nx ls st μ
    | _ => none
  | 22 => match st with
    | (t, x) :: st => if 2 ≤ t ∧ t ≤ 13 then (if (c = 0 ∧ x < 0) ∨ (c = 1 ∧ 0 ≤ x) then m_ju n ls st μ else m_nx ls st μ) else none
    | _ => none
  | 23 => m_ju n ls st μ
  | 24 => m_ju n ls st μ
  | 25 => match st with
    | (0, x) :: st => m_ju (m_st c e n x) ls st μ
    | _ => none
  | _ => match st with
    | (0, x) :: st => m_ju (m_sl e n x) ls st μ
    | _ => none
/-- the heap -/
def m_opC (op n : Nat) (c : Int) (e : List Nat) (ls st : List MVal) (μ : MMem) : Option MOut :=
  match op with
  | 27 => match st, e with
    | (t, id) :: st, [_, ot, rt, _] => if t = ot ∧ 0 ≤ id then m_nx ls ((rt, μ id c) :: st) μ else none
    | _, _ => none
  | 28 => match st, e with
    | (t, id) :: st, [_, ot, rt, _] => if t = ot ∧ 0 ≤ id then m_nx ls ((rt, m_rf id c) :: st) μ else none
    | _, _ => none
  | 29 => match st, e with
    | (u, v) :: (t, id) :: st, [_, ot, vt, _] => if t = ot ∧ 0 ≤ id ∧ ((u = vt ∧ vt ≠ 1) ∨ (u = 0 ∧ vt = 1 ∧ (v = 0 ∨ v = 1))) ∧ (u = 0 ∨ 0 ≤ v) then m_nx ls st (m_w μ id c v) else none
    | _, _ => none
  | 30 => if n = 2 then m_nx ls ((0, 1) :: st) μ else if n = 1 then m_nx ls ((11, 201) :: st) μ else m_nx ls ((11, 200) :: st) μ
  | 31 => match st with
    | (0, j) :: (2, id) :: st => if 0 ≤ id ∧ 0 ≤ j ∧ j < m_al id then m_nx ls ((0, μ id j) :: st) μ else none
    | (0, j) :: (11, id) :: st => if 0 ≤ id ∧ 0 ≤ j ∧ j < m_ol μ id then m_nx ls ((0, m_oc μ id j) :: st) μ else none
    | _ => none
  | 32 => match st with
    | (0, v) :: (0, j) :: (2, id) :: st => if 0 ≤ id ∧ 0 ≤ j ∧ j < m_al id then m_nx ls st (m_w μ id j v) else none
    | _ => none
  | 33 => match st with
    | (2, id) :: st => if 0 ≤ id then m_nx ls ((0, m_al id) :: st) μ else none
    | (11, id) :: st => if 0 ≤ id then m_nx ls ((0, m_ol μ id) :: st) μ else none
    | (13, id) :: st => if 0 ≤ id then m_nx ls ((0, 3) :: st) μ else none
    | _ => none
  | 34 => match st with
    | (0, j) :: (3, id) :: st => if 0 ≤ id ∧ 0 ≤ j ∧ j < m_rl id then m_nx ls ((2, m_rf id j) :: st) μ else none
    | (0, j) :: (4, id) :: st => if 0 ≤ id ∧ 0 ≤ j ∧ j < m_rl id then m_nx ls ((6, m_rf id j) :: st) μ else none
    | _ => none
  | 35 => match st with
    | (0, j) :: (13, id) :: st => if 0 ≤ id ∧ 0 ≤ j ∧ j < 3 then m_nx ls ((0, m_bc j) :: st) μ else none
    | _ => none
  | 45 => m_nx ls ((5, -1) :: st) μ
  | 46 => m_nx ls ((12, 203) :: st) μ
  | _ => match st with
    | (12, id) :: st => if 0 ≤ id then (if n = 0 then m_nx ls ((13, 204) :: st) μ else m_nx ls ((0, 0) :: st) μ) else none
    | _ => none
/-- calls and returns -/
def m_opD (op n : Nat) (c : Int) (e : List Nat) (ls st : List MVal) (μ : MMem) : Option MOut :=
  match op with
  | 36 => match m_tk c.toNat st [] with
    | some (as, st) => m_ca n as ls st μ
    | none => none
  | 40 => match st with
    | (0, n) :: (0, j) :: (2, b) :: (0, i) :: (2, a) :: st => if (0 ≤ a ∧ 0 ≤ b ∧ 0 ≤ i ∧ 0 ≤ j ∧ 0 ≤ n ∧ i + n ≤ m_al a ∧ j + n ≤ m_al b) ∧ m_ws st ≤ 8 then m_nx ls st (m_cp μ a i b j n) else none
    | _ => none
  | 41 => match st with
    | [(0, x)] => if n = 0 ∨ x = 0 ∨ x = 1 then m_re (0, x) μ else none
    | _ => none
  | 42 => match st with
    | [(1, x)] => m_re (1, x) μ
    | _ => none
  | 43 => match st with
    | [(t, x)] => if 2 ≤ t ∧ t ≤ 13 then m_re (t, x) μ else none
    | _ => none
  | 44 => match st with
    | [] => m_re (14, 0) μ
    | _ => none
  | 50 => match st with
    | (0, y) :: (0, x) :: st => if m_ws st ≤ 8 then m_nx ls ((0, if x < y then y else x) :: st) μ else none
    | _ => none
  | 51 => match st with
    | (0, y) :: (0, x) :: st => if m_ws st ≤ 8 then m_nx ls ((0, if y < x then y else x) :: st) μ else none
    | _ => none
  | 39 => match m_tk c.toNat st [], e with
    | some (as, (5, id) :: st), [_, _, h, b] => if id = 6 then m_ca h ((5, id) :: as) ls st μ else if id = 7 then m_ca b ((5, id) :: as) ls st μ else none
    | _, _ => none
  | 37 => match m_tk c.toNat st [], e with
    | some (as, (t, id) :: st), [_, _, tg] => if t = tg ∧ 0 ≤ id then m_ca n ((t, id) :: as) ls st μ else none
    | _, _ => none
  | 38 => match m_tk c.toNat st [] with
    | some (as, (t, id) :: st) => if t = 5 ∧ 0 ≤ id then m_ca n ((t, id) :: as) ls st μ else none
    | _ => none
  | 48 => match m_tk c.toNat st [] with
    | some (as, (t, id) :: st) => if t = 12 ∧ id = 203 then m_ca n ((t, id) :: as) ls st μ else none
    | _ => none
  | _ => none
def m_op (i : MIns) (ls st : List MVal) (μ : MMem) : Option MOut :=
  if i.1 < 20 then m_opA i.1 i.2.1 i.2.2.1 ls st μ
  else if i.1 < 27 then m_opB i.1 i.2.1 i.2.2.1 i.2.2.2 ls st μ
  else if i.1 < 36 ∨ (45 ≤ i.1 ∧ i.1 < 48) then m_opC i.1 i.2.1 i.2.2.1 i.2.2.2 ls st μ
  else m_opD i.1 i.2.1 i.2.2.1 i.2.2.2 ls st μ
def m_bl (m l : Nat) : List MIns := (m_prog.getD m []).getD l []
def m_mx (m : Nat) : Nat := m_mxs.getD m 0
def m_ex : Nat → Nat → List MIns → List MVal → List MVal → MMem → Option MRes
  | 0, _, _, _, _, _ => none
  | _ + 1, _, [], _, _, _ => none
  | f + 1, m, i :: is, ls, st, μ => match m_op i ls st μ with
    | none => none
    | some (k, l, as, ls, st, μ) =>
      if k = 0 then m_ex f m is ls st μ
      else if k = 1 then m_ex f m (m_bl m l) ls st μ
      else if k = 2 then (if m_ws as ≤ m_mx l then (match m_ex f l (m_bl l 0) (m_en (m_mx l) as) [] μ with
        | none => none
        | some r => m_ex f m is ls (m_ps r.1 st) r.2) else none)
      else match st with
        | [] => none
        | r :: _ => some (r, μ)
theorem m_mono : ∀ (f m : Nat) (is : List MIns) (ls st : List MVal) (μ : MMem) (r : MRes), m_ex f m is ls st μ = some r → m_ex (f + 1) m is ls st μ = some r
  | 0, _, _, _, _, _, _, h => by simp [m_ex] at h
  | f + 1, _, [], _, _, _, _, h => by simp [m_ex] at h
  | f + 1, m, i :: is, ls, st, μ, r, h => by
    rw [m_ex] at h ⊢
    cases ho : m_op i ls st μ with
    | none => rw [ho] at h; cases h
    | some o =>
      obtain ⟨k, l, as, ls', st', μ'⟩ := o
      rw [ho] at h
      dsimp only at h ⊢
      by_cases h0 : k = 0
      · rw [if_pos h0] at h ⊢
        exact m_mono f _ _ _ _ _ _ h
      · rw [if_neg h0] at h ⊢
        by_cases h1 : k = 1
        · rw [if_pos h1] at h ⊢
          exact m_mono f _ _ _ _ _ _ h
        · rw [if_neg h1] at h ⊢
          by_cases h2 : k = 2
          · rw [if_pos h2] at h ⊢
            by_cases hw : m_ws as ≤ m_mx l
            case neg => rw [if_neg hw] at h; cases h
            rw [if_pos hw] at h ⊢
            cases hc : m_ex f l (m_bl l 0) (m_en (m_mx l) as) [] μ' with
            | none => rw [hc] at h; cases h
            | some q =>
              rw [hc] at h
              rw [m_mono f _ _ _ _ _ _ hc]
              exact m_mono f _ _ _ _ _ _ h
          · rw [if_neg h2] at h ⊢
            exact h
theorem m_more {f g m : Nat} {is : List MIns} {ls st : List MVal} {μ : MMem} {r : MRes} (h : m_ex f m is ls st μ = some r) (hg : f ≤ g) : m_ex g m is ls st μ = some r := by
  induction g with
  | zero => have : f = 0 := by omega
            subst this; exact h
  | succ g ih =>
    by_cases e : f = g + 1
    · subst e; exact h
    · exact m_mono _ _ _ _ _ _ _ (ih (by omega))
theorem m_same {f g m : Nat} {is : List MIns} {ls st : List MVal} {μ : MMem} {r q : MRes} (h : m_ex f m is ls st μ = some r) (h2 : m_ex g m is ls st μ = some q) : r = q := by
  have a := m_more h (Nat.le_max_left f g)
  have b := m_more h2 (Nat.le_max_right f g)
  exact Option.some.inj (a.symm.trans b)
def Rn (m : Nat) (is : List MIns) (ls st : List MVal) (μ : MMem) (Q : MVal → MMem → Prop) : Prop := ∃ (f : Nat) (r : MRes), m_ex f m is ls st μ = some r ∧ Q r.1 r.2
def At (m l : Nat) (ls st : List MVal) (μ : MMem) (Q : MVal → MMem → Prop) : Prop := Rn m (m_bl m l) ls st μ Q
def Cal (m : Nat) (as : List MVal) (μ : MMem) (Q : MVal → MMem → Prop) : Prop := m_ws as ≤ m_mx m ∧ Rn m (m_bl m 0) (m_en (m_mx m) as) [] μ Q
def Ret (m : Nat) (as : List MVal) (μ : MMem) (r : MVal) (μ' : MMem) : Prop := m_ws as ≤ m_mx m ∧ ∃ f : Nat, m_ex f m (m_bl m 0) (m_en (m_mx m) as) [] μ = some (r, μ')
theorem cal_ret {m : Nat} {as : List MVal} {μ μ' : MMem} {r : MVal} (hw : m_ws as ≤ m_mx m) (h : Rn m (m_bl m 0) (m_en (m_mx m) as) [] μ (fun a b => a = r ∧ b = μ')) : Ret m as μ r μ' := by
  obtain ⟨f, q, h1, h2, h3⟩ := h
  refine ⟨hw, f, ?_⟩
  rw [h1, ← h2, ← h3]
theorem ret_cal {m : Nat} {as : List MVal} {μ μ' : MMem} {r : MVal} (h : Ret m as μ r μ') (Q : MVal → MMem → Prop) : Cal m as μ Q = Q r μ' := by
  obtain ⟨hw, f, hf⟩ := h
  refine propext ⟨?_, fun q => ⟨hw, f, _, hf, q⟩⟩
  rintro ⟨-, g, q, h1, h2⟩
  have e := m_same hf h1
  rw [← e] at h2
  exact h2
theorem rn_mono {m : Nat} {is : List MIns} {ls st : List MVal} {μ : MMem} {Q Q' : MVal → MMem → Prop} (h : Rn m is ls st μ Q) (hq : ∀ r μ', Q r μ' → Q' r μ') : Rn m is ls st μ Q' := by
  obtain ⟨f, r, h1, h2⟩ := h
  exact ⟨f, r, h1, hq _ _ h2⟩
theorem rn_none {m : Nat} {i : MIns} {is : List MIns} {ls st : List MVal} {μ : MMem} {Q : MVal → MMem → Prop} (h : m_op i ls st μ = none) : Rn m (i :: is) ls st μ Q = False := by
  refine propext ⟨?_, False.elim⟩
  rintro ⟨f, r, h1, -⟩
  cases f with
  | zero => simp [m_ex] at h1
  | succ f => rw [m_ex, h] at h1; cases h1
theorem rn_nx {m : Nat} {i : MIns} {is : List MIns} {ls st ls' st' : List MVal} {μ μ' : MMem} {Q : MVal → MMem → Prop} (h : m_op i ls st μ = m_nx ls' st' μ') : Rn m (i :: is) ls st μ Q = Rn m is ls' st' μ' Q := by
  have e : ∀ f, m_ex (f + 1) m (i :: is) ls st μ = m_ex f m is ls' st' μ' := fun f => by rw [m_ex, h]; rfl
  refine propext ⟨?_, ?_⟩
  · rintro ⟨f, r, h1, h2⟩
    cases f with
    | zero => simp [m_ex] at h1
    | succ f => exact ⟨f, r, (e f) ▸ h1, h2⟩
  · rintro ⟨f, r, h1, h2⟩
    exact ⟨f + 1, r, (e f).trans h1, h2⟩
theorem rn_ju {m l : Nat} {i : MIns} {is : List MIns} {ls st ls' st' : List MVal} {μ μ' : MMem} {Q : MVal → MMem → Prop} (h : m_op i ls st μ = m_ju l ls' st' μ') : Rn m (i :: is) ls st μ Q = At m l ls' st' μ' Q := by
  have e : ∀ f, m_ex (f + 1) m (i :: is) ls st μ = m_ex f m (m_bl m l) ls' st' μ' := fun f => by rw [m_ex, h]; rfl
  refine propext ⟨?_, ?_⟩
  · rintro ⟨f, r, h1, h2⟩
    cases f with
    | zero => simp [m_ex] at h1
    | succ f => exact ⟨f, r, (e f) ▸ h1, h2⟩
  · rintro ⟨f, r, h1, h2⟩
    exact ⟨f + 1, r, (e f).trans h1, h2⟩
theorem rn_re {m : Nat} {i : MIns} {is : List MIns} {ls st : List MVal} {μ μ' : MMem} {r : MVal} {Q : MVal → MMem → Prop} (h : m_op i ls st μ = m_re r μ') : Rn m (i :: is) ls st μ Q = Q r μ' := by
  have e : ∀ f, m_ex (f + 1) m (i :: is) ls st μ = some (r, μ') := fun f => by rw [m_ex, h]; rfl
  refine propext ⟨?_, ?_⟩
  · rintro ⟨f, q, h1, h2⟩
    cases f with
    | zero => simp [m_ex] at h1
    | succ f =>
      have h3 := (e f).symm.trans h1
      cases h3
      exact h2
  · intro q
    exact ⟨1, (r, μ'), e 0, q⟩
theorem rn_ca {m z : Nat} {i : MIns} {is : List MIns} {as ls st ls' st' : List MVal} {μ μ' : MMem} {Q : MVal → MMem → Prop} (h : m_op i ls st μ = m_ca z as ls' st' μ') : Rn m (i :: is) ls st μ Q = (m_ws st' ≤ 8 ∧ Cal z as μ' (fun r ν => Rn m is ls' (m_ps r st') ν Q)) := by
  by_cases hw : m_ws st' ≤ 8
  · by_cases ha : m_ws as ≤ m_mx z
    · have e : ∀ f, m_ex (f + 1) m (i :: is) ls st μ = (match m_ex f z (m_bl z 0) (m_en (m_mx z) as) [] μ' with
          | none => none
          | some r => m_ex f m is ls' (m_ps r.1 st') r.2) := fun f => by
        rw [m_ex, h, m_ca, if_pos hw]
        show (if m_ws as ≤ m_mx z then _ else _) = _
        rw [if_pos ha]
      refine propext ⟨?_, ?_⟩
      · rintro ⟨f, r, h1, h2⟩
        cases f with
        | zero => simp [m_ex] at h1
        | succ f =>
          rw [e f] at h1
          refine ⟨hw, ha, ?_⟩
          cases hc : m_ex f z (m_bl z 0) (m_en (m_mx z) as) [] μ' with
          | none => rw [hc] at h1; cases h1
          | some q => rw [hc] at h1; exact ⟨f, q, hc, f, r, h1, h2⟩
      · rintro ⟨-, -, f, q, h1, g, r, h2, h3⟩
        refine ⟨max f g + 1, r, ?_, h3⟩
        rw [e, m_more h1 (Nat.le_max_left f g)]
        exact m_more h2 (Nat.le_max_right f g)
    · have e : ∀ f, m_ex (f + 1) m (i :: is) ls st μ = none := fun f => by
        rw [m_ex, h, m_ca, if_pos hw]
        show (if m_ws as ≤ m_mx z then _ else _) = _
        rw [if_neg ha]
      refine propext ⟨?_, fun q => absurd q.2.1 ha⟩
      rintro ⟨f, r, h1, -⟩
      cases f with
      | zero => simp [m_ex] at h1
      | succ f => rw [e f] at h1; cases h1
  · have e : m_op i ls st μ = none := by rw [h, m_ca, if_neg hw]
    rw [rn_none e]
    exact propext ⟨False.elim, fun q => hw q.1⟩
