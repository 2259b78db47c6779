theorem m_l0 {x y : Int} (h1 : -9223372036854775808 ≤ x + y) (h2 : x + y < 9223372036854775808) : m_lb 0 x y = x + y := by
  show (Int64.ofInt x + Int64.ofInt y).toInt = x + y
  rw [Int64.toInt_add, Int64.toInt_ofInt, Int64.toInt_ofInt]
  show Int.bmod (Int.bmod x Int64.size + Int.bmod y Int64.size) Int64.size = _
  rw [← Int.add_bmod]
  exact wl_id h1 h2
theorem m_l2 {x y : Int} (h1 : -9223372036854775808 ≤ x * y) (h2 : x * y < 9223372036854775808) : m_lb 2 x y = x * y := by
  show (Int64.ofInt x * Int64.ofInt y).toInt = x * y
  rw [Int64.toInt_mul, Int64.toInt_ofInt, Int64.toInt_ofInt]
  show Int.bmod (Int.bmod x Int64.size * Int.bmod y Int64.size) Int64.size = _
  rw [← Int.mul_bmod]
  exact wl_id h1 h2
theorem tdiv_in {x y : Int} (hx : 0 ≤ x) (hy : 0 < y) : x.tdiv y = x / y ∧ 0 ≤ x / y ∧ x / y ≤ x := by
  refine ⟨Int.tdiv_eq_ediv_of_nonneg hx, Int.ediv_nonneg hx (by omega), ?_⟩
  exact Int.ediv_le_self y hx
theorem m_ld0 {x y : Int} (hx : 0 ≤ x) (hx2 : x < 9223372036854775808) (hy : 0 < y) (hy2 : y < 9223372036854775808) : m_ld 0 x y = x / y := by
  show (Int64.ofInt x / Int64.ofInt y).toInt = x / y
  have h := tdiv_in hx hy
  rw [Int64.toInt_div, Int64.toInt_ofInt, Int64.toInt_ofInt]
  show Int.bmod ((Int.bmod x Int64.size).tdiv (Int.bmod y Int64.size)) Int64.size = _
  rw [wl_id (x := x) (by omega) hx2, wl_id (x := y) (by omega) hy2, h.1]
  exact wl_id (by omega) (by omega)
theorem m_ld1 {x y : Int} (hx : 0 ≤ x) (hx2 : x < 9223372036854775808) (hy : 0 < y) (hy2 : y < 9223372036854775808) : m_ld 1 x y = x % y := by
  show (Int64.ofInt x - Int64.ofInt x / Int64.ofInt y * Int64.ofInt y).toInt = x % y
  have h := m_ld0 hx hx2 hy hy2
  have h' : (Int64.ofInt x / Int64.ofInt y).toInt = x / y := h
  have hm := Int.emod_nonneg x (show y ≠ 0 by omega)
  have hm2 := Int.emod_lt_of_pos x hy
  have e := Int.emod_def x y
  rw [Int64.toInt_sub, Int64.toInt_mul, h', Int64.toInt_ofInt, Int64.toInt_ofInt]
  show Int.bmod (Int.bmod x Int64.size - Int.bmod (x / y * Int.bmod y Int64.size) Int64.size) Int64.size = _
  rw [wl_id (x := y) (by omega) hy2, ← Int.sub_bmod, Int.mul_comm, ← e]
  exact wl_id (by omega) (by omega)
theorem m_id0 {x y : Int} (hx : 0 ≤ x) (hx2 : x < 2147483648) (hy : 0 < y) (hy2 : y < 2147483648) : m_id 0 x y = x / y := by
  show (Int32.ofInt x / Int32.ofInt y).toInt = x / y
  have h := tdiv_in hx hy
  rw [Int32.toInt_div, Int32.toInt_ofInt, Int32.toInt_ofInt]
  show Int.bmod ((Int.bmod x Int32.size).tdiv (Int.bmod y Int32.size)) Int32.size = _
  rw [wr_id (x := x) (by omega) hx2, wr_id (x := y) (by omega) hy2, h.1]
  exact wr_id (by omega) (by omega)
theorem m_id1 {x y : Int} (hx : 0 ≤ x) (hx2 : x < 2147483648) (hy : 0 < y) (hy2 : y < 2147483648) : m_id 1 x y = x % y := by
  show (Int32.ofInt x - Int32.ofInt x / Int32.ofInt y * Int32.ofInt y).toInt = x % y
  have h := m_id0 hx hx2 hy hy2
  have h' : (Int32.ofInt x / Int32.ofInt y).toInt = x / y := h
  have hm := Int.emod_nonneg x (show y ≠ 0 by omega)
  have hm2 := Int.emod_lt_of_pos x hy
  have e := Int.emod_def x y
  rw [Int32.toInt_sub, Int32.toInt_mul, h', Int32.toInt_ofInt, Int32.toInt_ofInt]
  show Int.bmod (Int.bmod x Int32.size - Int.bmod (x / y * Int.bmod y Int32.size) Int32.size) Int32.size = _
  rw [wr_id (x := y) (by omega) hy2, ← Int.sub_bmod, Int.mul_comm, ← e]
  exact wr_id (by omega) (by omega)
theorem m_ls1 : ∀ p : Fin 33, m_ls 1 (p.val : Int) = 2 ^ p.val := by decide +kernel
theorem m_sh1 : ∀ p : Fin 9, m_i 5 1 (p.val : Int) = 2 ^ p.val := by decide +kernel
