/-! bits: the first rows are the kit's own, pasted from laws/BITS.to-paste -/
def bt (x : Int32) (i : Nat) : Bool := x.toBitVec.getLsbD i
theorem b_ext {x y : Int32} (h : ∀ i, i < 32 → bt x i = bt y i) : x = y := Int32.toBitVec_inj.mp (BitVec.eq_of_getLsbD_eq (fun i hi => h i hi))
theorem b_or (x y : Int32) (i : Nat) : bt (x ||| y) i = (bt x i || bt y i) := by unfold bt; rw [Int32.toBitVec_or, BitVec.getLsbD_or]
theorem b_and (x y : Int32) (i : Nat) : bt (x &&& y) i = (bt x i && bt y i) := by unfold bt; rw [Int32.toBitVec_and, BitVec.getLsbD_and]
theorem b_big {x : Int32} {i : Nat} (h : 32 ≤ i) : bt x i = false := BitVec.getLsbD_of_ge _ _ h
theorem b_0 (i : Nat) : bt 0 i = false := BitVec.getLsbD_zero
theorem s_l : ∀ n, n < 32 → ((nI n &&& 31).toBitVec.smod 32).toNat = n := by decide +kernel
theorem b_shl (n : Nat) (hn : n < 32) (x : Int32) {i : Nat} (hi : i < 32) : bt (x <<< (nI n &&& 31)) i = (decide (n ≤ i) && bt x (i - n)) := by
  unfold bt
  rw [Int32.toBitVec_shiftLeft]
  show (x.toBitVec <<< ((nI n &&& 31).toBitVec.smod 32).toNat).getLsbD i = _
  rw [s_l n hn, BitVec.getLsbD_shiftLeft]
  rcases Nat.lt_or_ge i n with h | h
  · simp [h, Nat.not_le.mpr h]
  · simp [hi, h, Nat.not_lt.mpr h]
theorem b_sshr (n : Nat) (hn : n < 32) (x : Int32) {i : Nat} (hi : i < 32) : bt (x >>> (nI n &&& 31)) i = if n + i < 32 then bt x (n + i) else bt x 31 := by
  unfold bt
  rw [Int32.toBitVec_shiftRight]
  show (x.toBitVec.sshiftRight ((nI n &&& 31).toBitVec.smod 32).toNat).getLsbD i = _
  rw [s_l n hn, BitVec.getLsbD_sshiftRight, BitVec.msb_eq_getLsbD_last]
  simp [hi]
theorem ofI_nI {i : Int} (h : 0 ≤ i) : Int32.ofInt i = nI i.toNat := by
  unfold nI
  conv => lhs; rw [show i = ((i.toNat : Nat) : Int) by omega]
  exact Int32.toBitVec_inj.mp (BitVec.ofInt_natCast 32 i.toNat)
theorem oI (a : Int32) : Int32.ofInt a.toInt = a := Int32.ofInt_toInt a
theorem bt1 (y : Int32) : ((y &&& 1).toInt != 0) = bt y 0 := by
  rw [pk_and y 1 (by rfl)]
  unfold bt
  have e : y.toBitVec.getLsbD 0 = decide (y.toBitVec.toNat % 2 = 1) := by
    rw [BitVec.getLsbD, Nat.testBit_zero]
  rw [e, show (2 : Nat) ^ 1 = 2 from rfl]
  rcases Nat.mod_two_eq_zero_or_one y.toBitVec.toNat with q | q
  · rw [q]; rfl
  · rw [q]; rfl
theorem tb_bt {b i : Int} (h0 : 0 ≤ i) (h1 : i < 32) : tb b i = bt (Int32.ofInt b) i.toNat := by
  have e : tb b i = ((Int32.ofInt b >>> (Int32.ofInt i &&& 31) &&& 1).toInt != 0) := by
    show ((Int32.ofInt (Int32.ofInt b >>> (Int32.ofInt i &&& 31)).toInt &&& Int32.ofInt 1).toInt != 0) = _
    rw [oI]
    rfl
  rw [e, bt1, ofI_nI h0, b_sshr _ (by omega) _ (by decide), if_pos (by omega)]
  rfl
theorem tb_or {a b i : Int} (h0 : 0 ≤ i) (h1 : i < 32) : tb (m_i 4 a b) i = (tb a i || tb b i) := by
  rw [tb_bt h0 h1, tb_bt h0 h1, tb_bt h0 h1]
  show bt (Int32.ofInt (Int32.ofInt a ||| Int32.ofInt b).toInt) _ = _
  rw [oI, b_or]
theorem bt_one : ∀ i, i < 32 → bt 1 i = decide (i = 0) := by decide +kernel
theorem tb_sh {k i : Int} (hk0 : 0 ≤ k) (hk1 : k < 32) (h0 : 0 ≤ i) (h1 : i < 32) : tb (m_i 5 1 k) i = decide (k = i) := by
  rw [tb_bt h0 h1]
  show bt (Int32.ofInt (Int32.ofInt 1 <<< (Int32.ofInt k &&& 31)).toInt) _ = _
  rw [oI, ofI_nI hk0, b_shl _ (by omega) _ (by omega)]
  have e : Int32.ofInt 1 = 1 := rfl
  rw [e, bt_one _ (by omega)]
  by_cases h : k = i
  · subst h; simp
  · have : ¬ (k.toNat ≤ i.toNat ∧ i.toNat - k.toNat = 0) := by omega
    simp only [h, decide_false]
    by_cases q : k.toNat ≤ i.toNat
    · have q2 : ¬ i.toNat - k.toNat = 0 := fun w => this ⟨q, w⟩
      simp [q2]
    · simp [q]
theorem tb_0 {i : Int} (h0 : 0 ≤ i) (h1 : i < 32) : tb 0 i = false := by
  rw [tb_bt h0 h1]
  have e : Int32.ofInt 0 = 0 := rfl
  rw [e, b_0]
/-- the years in which something is told -/
def bzB (T : MMem) : Nat → Int
  | 0 => 0
  | n + 1 => m_i 4 (bzB T n) (m_i 5 1 (T 4 n))
def bzE (T : MMem) : Nat → Int
  | 0 => bzB T (nb T)
  | n + 1 => m_i 4 (bzE T n) (m_i 5 1 (T 8 n))
theorem bzB_tb {T : MMem} (hT : TW T) {y : Int} (hy : 0 ≤ y ∧ y < 24) : ∀ n : Nat, n ≤ nb T → tb (bzB T n) y = false → ∀ j : Nat, j < n → T 4 j ≠ y
  | 0, _, _, j, hj => by omega
  | n + 1, hn, h, j, hj => by
    have hb := nb_le hT
    have hr := hT.2.2.2.2.1 n (by omega) (by omega)
    rw [bzB, tb_or (by omega) (by omega), tb_sh (by omega) (by omega) (by omega) (by omega)] at h
    simp only [Bool.or_eq_false_iff, decide_eq_false_iff_not] at h
    by_cases e : j = n
    · subst e; exact h.2
    · exact bzB_tb hT hy n (by omega) h.1 j (by omega)
theorem bzE_tb {T : MMem} (hT : TW T) {y : Int} (hy : 0 ≤ y ∧ y < 24) : ∀ n : Nat, n ≤ ne T → tb (bzE T n) y = false → (∀ j : Nat, j < n → T 8 j ≠ y) ∧ ∀ j : Nat, j < nb T → T 4 j ≠ y
  | 0, _, h => ⟨fun j hj => by omega, bzB_tb hT hy (nb T) (Nat.le_refl _) h⟩
  | n + 1, hn, h => by
    have hb := ne_le hT
    have hr := hT.2.2.2.2.2 n (by omega) (by omega)
    rw [bzE, tb_or (by omega) (by omega), tb_sh (by omega) (by omega) (by omega) (by omega)] at h
    simp only [Bool.or_eq_false_iff, decide_eq_false_iff_not] at h
    have ih := bzE_tb hT hy n (by omega) h.1
    refine ⟨fun j hj => ?_, ih.2⟩
    by_cases e : j = n
    · subst e; exact h.2
    · exact ih.1 j (by omega)
theorem evN_none {T σ : MMem} {y : Int} : ∀ n : Nat, (∀ j : Nat, j < n → T 8 j ≠ y) → evN T σ y n = σ
  | 0, _ => rfl
  | n + 1, h => by
    rw [evN, if_neg (fun q => h n (by omega) q.1)]
    exact evN_none n (fun j hj => h j (by omega))
theorem brN_none {T σ : MMem} {y : Int} : ∀ n : Nat, (∀ j : Nat, j < n → T 4 j ≠ y) → brN T σ y n = σ
  | 0, _ => rfl
  | n + 1, h => by
    rw [brN, if_neg (fun q => h n (by omega) q)]
    exact brN_none n (fun j hj => h j (by omega))
theorem yearS_none {T σ : MMem} (hT : TW T) {y : Int} (hy : 0 ≤ y ∧ y < 24) (h : tb (bzE T (ne T)) y = false) : yearS T σ y = σ := by
  have h1 := bzE_tb hT hy (ne T) (Nat.le_refl _) h
  unfold yearS
  rw [evN_none _ h1.1, brN_none _ h1.2]
theorem evN_SI {T σ : MMem} (hT : TW T) (h : SI T σ) (y : Int) : ∀ n : Nat, SI T (evN T σ y n)
  | 0 => h
  | n + 1 => by
    rw [evN]
    split
    · exact happ_SI hT (evN_SI hT h y n) _ _
    · exact evN_SI hT h y n
theorem brN_SI {T σ : MMem} (hT : TW T) (h : SI T σ) (y : Int) : ∀ n : Nat, n ≤ nb T → SI T (brN T σ y n)
  | 0, _ => h
  | n + 1, hn => by
    have hb := nb_le hT
    rw [brN]
    split
    · exact comeS_SI hT (brN_SI hT h y n (by omega)) ⟨by omega, by omega⟩
    · exact brN_SI hT h y n (by omega)
theorem yearS_SI {T σ : MMem} (hT : TW T) (h : SI T σ) (y : Int) : SI T (yearS T σ y) := brN_SI hT (evN_SI hT h y _) y _ (Nat.le_refl _)
/-- who has not come yet: from a year on, there from a bride on -/
def ZC (T σ : MMem) (y : Int) (b : Int) : Prop := ∀ k, 0 ≤ k → k < T 0 1 → (y < T 4 k ∨ (T 4 k = y ∧ b ≤ k)) → σ 1 k = 0 ∧ σ 2 k = 0 ∧ σ 3 k = 0
theorem happ_ZC {T σ : MMem} {y b : Int} (h : ZC T σ y b) (kind i : Int) : ZC T (happ T σ kind i) y b := by
  intro k h0 h1 h2
  have hk := h k h0 h1 h2
  unfold happ
  split
  · simp [sawS, hk]
  · split
    · split
      · exact hk
      · rcases hiN_in T σ i (nb T) with q | q
        · contradiction
        · have e : ¬ k = hiN T σ i (nb T) := fun e => by rw [← e] at q; omega
          simp [m_w, e, hk]
    · split
      · exact hk
      · rcases loN_in T σ i (nb T) with q | q
        · contradiction
        · have e : ¬ k = loN T σ i (nb T) := fun e => by rw [← e] at q; omega
          simp [m_w, e, hk]
theorem evN_ZC {T σ : MMem} {y b y' : Int} (h : ZC T σ y b) : ∀ n : Nat, ZC T (evN T σ y' n) y b
  | 0 => h
  | n + 1 => by
    rw [evN]
    split
    · exact happ_ZC (evN_ZC h n) _ _
    · exact evN_ZC h n
theorem comeS_ZC {T σ : MMem} {y : Int} {k : Int} (hy : T 4 k = y) (h : ZC T σ y k) : ZC T (comeS T σ k) y (k + 1) := by
  intro j h0 h1 h2
  have hj := h j h0 h1 (by omega)
  have e : ¬ j = k := by intro e; subst e; omega
  unfold comeS
  split
  · exact hj
  · split
    · simp [m_w, e, hj]
    · simp [m_w, e, hj]
