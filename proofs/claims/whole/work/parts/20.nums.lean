theorem wr_id {x : Int} (h1 : -2147483648 ≤ x) (h2 : x < 2147483648) : Int.bmod x Int32.size = x := by
  have e : Int32.size = 4294967296 := rfl
  rw [e]
  exact Int.bmod_eq_of_le (by omega) (by omega)
theorem wl_id {x : Int} (h1 : -9223372036854775808 ≤ x) (h2 : x < 9223372036854775808) : Int.bmod x Int64.size = x := by
  have e : Int64.size = 18446744073709551616 := rfl
  rw [e]
  exact Int.bmod_eq_of_le (by omega) (by omega)
theorem m_i0 {x y : Int} (h1 : -2147483648 ≤ x + y) (h2 : x + y < 2147483648) : m_i 0 x y = x + y := by
  show (Int32.ofInt x + Int32.ofInt y).toInt = x + y
  rw [Int32.toInt_add, Int32.toInt_ofInt, Int32.toInt_ofInt]
  show Int.bmod (Int.bmod x Int32.size + Int.bmod y Int32.size) Int32.size = _
  rw [← Int.add_bmod]
  exact wr_id h1 h2
theorem m_i1 {x y : Int} (h1 : -2147483648 ≤ x - y) (h2 : x - y < 2147483648) : m_i 1 x y = x - y := by
  show (Int32.ofInt x - Int32.ofInt y).toInt = x - y
  rw [Int32.toInt_sub, Int32.toInt_ofInt, Int32.toInt_ofInt]
  show Int.bmod (Int.bmod x Int32.size - Int.bmod y Int32.size) Int32.size = _
  rw [← Int.sub_bmod]
  exact wr_id h1 h2
theorem m_i2 {x y : Int} (h1 : -2147483648 ≤ x * y) (h2 : x * y < 2147483648) : m_i 2 x y = x * y := by
  show (Int32.ofInt x * Int32.ofInt y).toInt = x * y
  rw [Int32.toInt_mul, Int32.toInt_ofInt, Int32.toInt_ofInt]
  show Int.bmod (Int.bmod x Int32.size * Int.bmod y Int32.size) Int32.size = _
  rw [← Int.mul_bmod]
  exact wr_id h1 h2
