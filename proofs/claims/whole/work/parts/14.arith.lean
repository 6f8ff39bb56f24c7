/-! division, remainder, bits: of iI -/
theorem tdiv_rng {x y : Int} (hx : -2147483648 ≤ x ∧ x < 2147483648) (hy : 0 < y) : -2147483648 ≤ x.tdiv y ∧ x.tdiv y < 2147483648 := by
  rw [Int.tdiv_eq_ediv]
  rcases Int.le_total 0 x with h | h
  · have h1 := Int.ediv_le_self y h
    have h2 : 0 ≤ x / y := Int.ediv_nonneg h (by omega)
    rw [if_pos (Or.inl h)]
    omega
  · have h1 : x ≤ x / y := by
      rw [Int.le_ediv_iff_mul_le hy]
      have : x * y ≤ x * 1 := Int.mul_le_mul_of_nonpos_left h (by omega)
      omega
    have h2 : x / y ≤ 0 := by
      have : x / y ≤ 0 / y := Int.ediv_le_ediv hy h
      simpa using this
    have h3 : y.sign = 1 := Int.sign_eq_one_of_pos hy
    split <;> omega
theorem iI_ne0 {y : Int} (hy : 0 < y ∧ y < 2147483648) : ¬ iI y = 0 := by
  rw [iI_zero, iI_eq (by omega) (by omega)]
  omega
theorem iI_div {x y : Int} (hx : -2147483648 ≤ x ∧ x < 2147483648) (hy : 0 < y ∧ y < 2147483648) : iI x / iI y = iI (x.tdiv y) := by
  apply Int32.toInt_inj.mp
  have hne : iI y ≠ -1 := by
    intro h
    have h2 : (iI y).toInt = (-1 : Int32).toInt := by rw [h]
    rw [iI_toInt (by omega)] at h2
    have : (-1 : Int32).toInt = -1 := by decide
    omega
  rw [Int32.toInt_div_of_ne_right _ _ hne, iI_toInt hx, iI_toInt (by omega), iI_toInt (tdiv_rng hx hy.1)]
theorem iI_rem {x y : Int} (hx : -2147483648 ≤ x ∧ x < 2147483648) (hy : 0 < y ∧ y < 2147483648) : iI x - iI x / iI y * iI y = iI (x.tmod y) := by
  rw [iI_div hx hy, iI_mul, iI_sub, Int.tmod_def, Int.mul_comm]
def zxor (a b : Int) : Int := (iI a ^^^ iI b).toInt
theorem iI_xor (a b : Int) : iI a ^^^ iI b = iI (zxor a b) := iI_of _
theorem zxor_rng (a b : Int) : -2147483648 ≤ zxor a b ∧ zxor a b < 2147483648 := iI_rng _
theorem neg_msb (x : Int32) : x.toBitVec.msb = decide (x.toInt < 0) := by
  rw [BitVec.msb_eq_toInt]
  rfl
theorem zxor_neg {a b : Int} (ha : -2147483648 ≤ a ∧ a < 2147483648) (hb : 0 ≤ b ∧ b < 2147483648) : zxor a b < 0 ↔ a < 0 := by
  have h := neg_msb (iI a ^^^ iI b)
  rw [Int32.toBitVec_xor, BitVec.msb_xor, neg_msb, neg_msb, iI_toInt ha, iI_toInt (by omega)] at h
  have hb' : decide (b < 0) = false := decide_eq_false (by omega)
  rw [hb', Bool.xor_false] at h
  unfold zxor
  exact (decide_eq_decide.mp h).symm
theorem fdiv_lo {a b : Int} (hb : 0 < b) (h : 0 ≤ a ∨ b ∣ a) : a.tdiv b = a / b := by
  rw [Int.tdiv_eq_ediv, if_pos h]; omega
theorem fdiv_hi {a b : Int} (hb : 0 < b) (h : ¬ (0 ≤ a ∨ b ∣ a)) : a.tdiv b - 1 = a / b := by
  rw [Int.tdiv_eq_ediv, if_neg h, Int.sign_eq_one_of_pos hb]; omega
theorem tdiv_mul_rng {a b : Int} (ha : -2147483648 ≤ a ∧ a < 2147483648) (hb : 0 < b) : -2147483648 ≤ a.tdiv b * b ∧ a.tdiv b * b < 2147483648 := by
  have h1 := Int.tmod_def a b
  have h2 : a.tdiv b * b = a - a.tmod b := by rw [Int.mul_comm]; omega
  rcases Int.le_total 0 a with h | h
  · have := Int.tmod_nonneg b h
    have h3 : a.tmod b ≤ a := by
      rw [Int.tmod_eq_emod_of_nonneg h]
      have h5 := Int.ediv_nonneg h (show (0 : Int) ≤ b by omega)
      have h4 := Int.emod_add_mul_ediv a b
      have : 0 ≤ b * (a / b) := Int.mul_nonneg (by omega) h5
      omega
    omega
  · have h3 : (-a).tmod b = -(a.tmod b) := Int.neg_tmod a b
    have h4 := Int.tmod_nonneg b (show 0 ≤ -a by omega)
    have h5 : (-a).tmod b ≤ -a := by
      rw [Int.tmod_eq_emod_of_nonneg (by omega)]
      have h6 := Int.ediv_nonneg (show 0 ≤ -a by omega) (show (0 : Int) ≤ b by omega)
      have h7 := Int.emod_add_mul_ediv (-a) b
      have : 0 ≤ b * (-a / b) := Int.mul_nonneg (by omega) h6
      omega
    omega
