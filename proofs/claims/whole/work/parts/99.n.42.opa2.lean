section SA2
variable {p : Program} {l : Launch} {e : Env} {R : Room} {s : State} {m : MethodId} {args : Array Value} {below : List Frame} {meth : Method} {c : Code} {H : Heap} {locs : List Loc} {cells slots : Nat} {Q : State → Prop}
variable {φ : Nat → Nat} {k pc n : Nat} {z : Int} {ex : List Nat} {ls st : List MVal} {μ : MMem} {lsA : Array Slot}
theorem s_ofI (a : Int32) : Int32.ofInt a.toInt = a := Int32.ofInt_toInt a
theorem s_ofJ (a : Int64) : Int64.ofInt a.toInt = a := Int64.ofInt_toInt a
theorem s_bin {x y : Int} (hx : p.tables.exec = Jvm.exec) (hb : c.code = n_c k) (hd : decode (n_c k) pc = .ok (k_enc k pc (9, n, z, ex)))
    (kk : W p l e R s m args below meth c H locs cells slots Q (F0 m (pc + (k_enc k pc (9, n, z, ex)).2) lsA (s_v φ (0, m_i n x y) :: st.map (s_v φ)))) : W p l e R s m args below meth c H locs cells slots Q (F0 m pc lsA (s_v φ (0, y) :: s_v φ (0, x) :: st.map (s_v φ))) := by
  simp only [s_v0] at kk ⊢
  match n, hd, kk with
  | 0, hd, kk => exact lv_iadd hx hb hd (by rw [show m_i 0 x y = (Int32.ofInt x + Int32.ofInt y).toInt from rfl, s_ofI] at kk; exact kk)
  | 1, hd, kk => exact lv_isub hx hb hd (by rw [show m_i 1 x y = (Int32.ofInt x - Int32.ofInt y).toInt from rfl, s_ofI] at kk; exact kk)
  | 2, hd, kk => exact lv_imul hx hb hd (by rw [show m_i 2 x y = (Int32.ofInt x * Int32.ofInt y).toInt from rfl, s_ofI] at kk; exact kk)
  | 3, hd, kk => exact lv_iand hx hb hd (by rw [show m_i 3 x y = (Int32.ofInt x &&& Int32.ofInt y).toInt from rfl, s_ofI] at kk; exact kk)
  | 4, hd, kk => exact lv_ior hx hb hd (by rw [show m_i 4 x y = (Int32.ofInt x ||| Int32.ofInt y).toInt from rfl, s_ofI] at kk; exact kk)
  | 5, hd, kk => exact lv_ishl hx hb hd (by rw [show m_i 5 x y = (Int32.ofInt x <<< (Int32.ofInt y &&& 31)).toInt from rfl, s_ofI] at kk; exact kk)
  | 6, hd, kk => exact lv_ishr hx hb hd (by rw [show m_i 6 x y = (Int32.ofInt x >>> (Int32.ofInt y &&& 31)).toInt from rfl, s_ofI] at kk; exact kk)
  | n + 7, hd, kk =>
    have he : k_enc k pc (9, n + 7, z, ex) = (.iushr, 1) := by simp [k_enc]
    rw [he] at hd kk
    exact lv_iushr hx hb hd rfl (by rw [show m_i (n + 7) x y = ((Int32.ofInt x).toUInt32 >>> ((Int32.ofInt y).toUInt32 &&& Int32.toUInt32 31)).toInt32.toInt from rfl, s_ofI] at kk; exact kk)
theorem s_ne {y : Int} (h : s_R32 y) (hy : y ≠ 0) : ¬ Int32.ofInt y = 0 := by
  intro q
  have := congrArg Int32.toInt q
  rw [s_toI h] at this
  exact hy this
theorem s_neJ {y : Int} (h : s_R64 y) (hy : y ≠ 0) : ¬ Int64.ofInt y = 0 := by
  intro q
  have := congrArg Int64.toInt q
  rw [s_toJ h] at this
  exact hy this
theorem s_div {x y : Int} (hx : p.tables.exec = Jvm.exec) (hb : c.code = n_c k) (hr : s_R32 y) (hy : y ≠ 0) (hd : decode (n_c k) pc = .ok (k_enc k pc (10, n, z, ex)))
    (kk : W p l e R s m args below meth c H locs cells slots Q (F0 m (pc + (k_enc k pc (10, n, z, ex)).2) lsA (s_v φ (0, m_id n x y) :: st.map (s_v φ)))) : W p l e R s m args below meth c H locs cells slots Q (F0 m pc lsA (s_v φ (0, y) :: s_v φ (0, x) :: st.map (s_v φ))) := by
  simp only [s_v0] at kk ⊢
  match n, hd, kk with
  | 0, hd, kk => exact lv_idiv hx hb hd (s_ne hr hy) (by rw [show m_id 0 x y = (Int32.ofInt x / Int32.ofInt y).toInt from rfl, s_ofI] at kk; exact kk)
  | n + 1, hd, kk => exact lv_irem hx hb hd (s_ne hr hy) (by rw [show m_id (n + 1) x y = (Int32.ofInt x - Int32.ofInt x / Int32.ofInt y * Int32.ofInt y).toInt from rfl, s_ofI] at kk; exact kk)
theorem s_binl {x y : Int} (hx : p.tables.exec = Jvm.exec) (hb : c.code = n_c k) (hd : decode (n_c k) pc = .ok (k_enc k pc (11, n, z, ex)))
    (kk : W p l e R s m args below meth c H locs cells slots Q (F0 m (pc + (k_enc k pc (11, n, z, ex)).2) lsA (s_v φ (1, m_lb n x y) :: st.map (s_v φ)))) : W p l e R s m args below meth c H locs cells slots Q (F0 m pc lsA (s_v φ (1, y) :: s_v φ (1, x) :: st.map (s_v φ))) := by
  simp only [s_v1] at kk ⊢
  match n, hd, kk with
  | 0, hd, kk => exact lv_ladd hx hb hd (by rw [show m_lb 0 x y = (Int64.ofInt x + Int64.ofInt y).toInt from rfl, s_ofJ] at kk; exact kk)
  | 1, hd, kk => exact lv_lsub hx hb hd (by rw [show m_lb 1 x y = (Int64.ofInt x - Int64.ofInt y).toInt from rfl, s_ofJ] at kk; exact kk)
  | n + 2, hd, kk => exact lv_lmul hx hb hd (by rw [show m_lb (n + 2) x y = (Int64.ofInt x * Int64.ofInt y).toInt from rfl, s_ofJ] at kk; exact kk)
theorem s_divl {x y : Int} (hx : p.tables.exec = Jvm.exec) (hb : c.code = n_c k) (hr : s_R64 y) (hy : y ≠ 0) (hd : decode (n_c k) pc = .ok (k_enc k pc (12, n, z, ex)))
    (kk : W p l e R s m args below meth c H locs cells slots Q (F0 m (pc + (k_enc k pc (12, n, z, ex)).2) lsA (s_v φ (1, m_ld n x y) :: st.map (s_v φ)))) : W p l e R s m args below meth c H locs cells slots Q (F0 m pc lsA (s_v φ (1, y) :: s_v φ (1, x) :: st.map (s_v φ))) := by
  simp only [s_v1] at kk ⊢
  match n, hd, kk with
  | 0, hd, kk => exact lv_ldiv hx hb hd (s_neJ hr hy) (by rw [show m_ld 0 x y = (Int64.ofInt x / Int64.ofInt y).toInt from rfl, s_ofJ] at kk; exact kk)
  | n + 1, hd, kk => exact lv_lrem hx hb hd (s_neJ hr hy) (by rw [show m_ld (n + 1) x y = (Int64.ofInt x - Int64.ofInt x / Int64.ofInt y * Int64.ofInt y).toInt from rfl, s_ofJ] at kk; exact kk)
theorem s_conv {x : Int} (hx : p.tables.exec = Jvm.exec) (hb : c.code = n_c k) (hd : decode (n_c k) pc = .ok (k_enc k pc (14, n, z, ex)))
    (kk : W p l e R s m args below meth c H locs cells slots Q (F0 m (pc + (k_enc k pc (14, n, z, ex)).2) lsA (s_v φ (0, m_c n x) :: st.map (s_v φ)))) : W p l e R s m args below meth c H locs cells slots Q (F0 m pc lsA (s_v φ (0, x) :: st.map (s_v φ))) := by
  simp only [s_v0] at kk ⊢
  match n, hd, kk with
  | 0, hd, kk => exact lv_i2b hx hb hd rfl (by rw [show m_c 0 x = (Int32.ofInt x).toInt8.toInt32.toInt from rfl, s_ofI] at kk; exact kk)
  | 1, hd, kk => exact lv_i2s hx hb hd rfl (by rw [show m_c 1 x = (Int32.ofInt x).toInt16.toInt32.toInt from rfl, s_ofI] at kk; exact kk)
  | n + 2, hd, kk => exact lv_i2c hx hb hd rfl (by rw [show m_c (n + 2) x = ((Int32.ofInt x).toUInt32 % 65536).toInt32.toInt from rfl, s_ofI] at kk; exact kk)
theorem s_cst (hx : p.tables.exec = Jvm.exec) (hb : c.code = n_c k) (hown : s.vm.findClass (n_own k) = some m.cls) (hts : ∀ w ∈ n_tg, w.before args s = true) (hd : decode (n_c k) pc = .ok (k_enc k pc (0, n, z, ex))) (hs : k_sd k (0, n, z, ex) = true)
    (kk : W p l e R s m args below meth c H locs cells slots Q (F0 m (pc + (k_enc k pc (0, n, z, ex)).2) lsA (s_v φ (0, z) :: st.map (s_v φ)))) : W p l e R s m args below meth c H locs cells slots Q (F0 m pc lsA (st.map (s_v φ))) := by
  simp only [s_v0] at kk
  have hs2 : (n_s32 z && (if n = 0 then true else if n = 1 then decide ((Int8.ofInt z).toInt32 = Int32.ofInt z) else if n = 2 then decide ((Int16.ofInt z).toInt32 = Int32.ofInt z) else n_at (ex.getD 1 0) (.constant (n_own k) (n_e0 ex) (Int32.ofInt z)))) = true := hs
  rw [Bool.and_eq_true] at hs2
  obtain ⟨-, hs2⟩ := hs2
  match n, hd, kk, hs2 with
  | 0, hd, kk, hs2 => exact lv_iconst hx hb hd rfl kk
  | 1, hd, kk, hs2 => exact lv_bipush hx hb hd (by simpa using hs2) kk
  | 2, hd, kk, hs2 => exact lv_sipush hx hb hd (by simpa using hs2) kk
  | 3, hd, kk, hs2 => exact lv_ldc hx hb hown (hts _ (n_in (by simpa using hs2))) hd kk
  | n + 4, hd, kk, hs2 =>
    have he : k_enc k pc (0, n + 4, z, ex) = (.ldc_w (n_e0 ex), 3) := by simp [k_enc]
    rw [he] at hd kk
    rw [if_neg (by omega), if_neg (by omega), if_neg (by omega)] at hs2
    exact lv_ldcw hx hb hown (hts _ (n_in hs2)) hd kk
theorem s_cstl (hx : p.tables.exec = Jvm.exec) (hb : c.code = n_c k) (hown : s.vm.findClass (n_own k) = some m.cls) (hts : ∀ w ∈ n_tg, w.before args s = true) (hd : decode (n_c k) pc = .ok (k_enc k pc (1, n, z, ex))) (hs : k_sd k (1, n, z, ex) = true)
    (kk : W p l e R s m args below meth c H locs cells slots Q (F0 m (pc + (k_enc k pc (1, n, z, ex)).2) lsA (s_v φ (1, z) :: st.map (s_v φ)))) : W p l e R s m args below meth c H locs cells slots Q (F0 m pc lsA (st.map (s_v φ))) := by
  simp only [s_v1] at kk
  have hs2 : (n_s64 z && (if n = 0 then decide (z = 0 ∨ z = 1) else n_at (ex.getD 1 0) (.constantLong (n_own k) (n_e0 ex) (Int64.ofInt z)))) = true := hs
  rw [Bool.and_eq_true] at hs2
  obtain ⟨-, hs2⟩ := hs2
  match n, hd, kk, hs2 with
  | 0, hd, kk, hs2 =>
    have hz : z = 0 ∨ z = 1 := by simpa using hs2
    rcases hz with rfl | rfl
    · exact lv_lconst hx hb hd rfl kk
    · exact lv_lconst hx hb hd rfl kk
  | n + 1, hd, kk, hs2 =>
    rw [if_neg (by omega)] at hs2
    exact lv_ldc2 hx hb hown (hts _ (n_in hs2)) hd kk
theorem s_lcmp {x y : Int} (h1 : s_R64 x) (h2 : s_R64 y) : (lg_cmp (Int64.ofInt x) (Int64.ofInt y)) = Int32.ofInt (m_cmp x y) := by
  have e1 : (Int64.ofInt y < Int64.ofInt x) ↔ y < x := by rw [Int64.lt_iff_toInt_lt, s_toJ h1, s_toJ h2]
  have e2 : (Int64.ofInt x < Int64.ofInt y) ↔ x < y := by rw [Int64.lt_iff_toInt_lt, s_toJ h1, s_toJ h2]
  have e3 : (Int64.ofInt x = Int64.ofInt y) ↔ x = y := by rw [← Int64.toInt_inj, s_toJ h1, s_toJ h2]
  unfold lg_cmp m_cmp
  simp only [e1, e2, e3]
  by_cases ha : y < x
  · have hn1 : ¬ x < y := by omega
    have hn2 : ¬ x = y := by omega
    simp [ha, hn1, hn2]
  · by_cases hb : x < y
    · have hn2 : ¬ x = y := by omega
      simp [ha, hb, hn2]
    · have hn2 : x = y := by omega
      simp [hn2]
end SA2
