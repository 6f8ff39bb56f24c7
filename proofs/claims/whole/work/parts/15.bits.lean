/-! bits of iI: and with a mask, shifts, or of parts that don't overlap -/
theorem iI_nI (n : Nat) : iI (n : Int) = nI n := (iI_nat n).symm
theorem iI_ofNN {c : Int} (h : 0 ≤ c) : iI c = nI c.toNat := by
  rw [← iI_nI, Int.toNat_of_nonneg h]
theorem nx_or (a b : Nat) : nI a ||| nI b = nI (a ||| b) := by
  apply Int32.toBitVec_inj.mp
  rw [Int32.toBitVec_or]
  show BitVec.ofNat 32 a ||| BitVec.ofNat 32 b = BitVec.ofNat 32 (a ||| b)
  rw [BitVec.ofNat_or]
theorem nx_and (a b : Nat) : nI a &&& nI b = nI (a &&& b) := by
  apply Int32.toBitVec_inj.mp
  rw [Int32.toBitVec_and]
  show BitVec.ofNat 32 a &&& BitVec.ofNat 32 b = BitVec.ofNat 32 (a &&& b)
  rw [BitVec.ofNat_and]
theorem s_l : ∀ n, n < 32 → ((nI n &&& 31).toBitVec.smod 32).toNat = n := by decide +kernel
theorem iI_mask {c : Int} (k : Nat) (h : 0 ≤ c ∧ c < 2147483648) {m : Int} (hm : m = 2 ^ k - 1) (hk : k ≤ 30) : iI c &&& iI m = iI (c % 2 ^ k) := by
  have h1 : m = ((2 ^ k - 1 : Nat) : Int) := by
    rw [hm, Int.natCast_sub Nat.one_le_two_pow]
    simp
  rw [iI_ofNN h.1, h1, iI_nI, nx_and, Nat.and_two_pow_sub_one_eq_mod, ← iI_nI]
  congr 1
  rw [Int.natCast_emod, Int.toNat_of_nonneg h.1]
  simp
theorem iI_shr {c : Int} (k : Nat) (hk : k < 32) (h : 0 ≤ c ∧ c < 2147483648) {y : Int} (hy : y = k) : iI c >>> (iI y &&& 31) = iI (c / 2 ^ k) := by
  rw [hy, iI_nI, iI_ofNN h.1, pk_shrN (by omega) _ k (s_l k hk), ← iI_nI]
  congr 1
  rw [Int.natCast_ediv, Int.toNat_of_nonneg h.1]
  simp
theorem iI_shl {c : Int} (k : Nat) (hk : k < 32) (h : 0 ≤ c) (h2 : c * 2 ^ k < 4294967296) {y : Int} (hy : y = k) : iI c <<< (iI y &&& 31) = iI (c * 2 ^ k) := by
  have h3 : c.toNat * 2 ^ k < 2 ^ 32 := by
    have : ((c.toNat * 2 ^ k : Nat) : Int) < 4294967296 := by
      rw [Int.natCast_mul, Int.toNat_of_nonneg h]
      simpa using h2
    omega
  rw [hy, iI_nI, iI_ofNN h, pk_shlN _ k (s_l k hk) h3, ← iI_nI]
  congr 1
  rw [Int.natCast_mul, Int.toNat_of_nonneg h]
  simp
theorem iI_or {a b : Int} (k : Nat) (ha : 0 ≤ a) (hb : 0 ≤ b ∧ b < 2 ^ k) : iI (a * 2 ^ k) ||| iI b = iI (a * 2 ^ k + b) := by
  have hp : (0 : Int) ≤ a * 2 ^ k := Int.mul_nonneg ha (by have := Int.pow_nonneg (n := 2) (m := k) (by decide : (0 : Int) ≤ 2); exact this)
  have e1 : (a * 2 ^ k).toNat = 2 ^ k * a.toNat := by
    have : ((a * 2 ^ k).toNat : Int) = ((2 ^ k * a.toNat : Nat) : Int) := by
      rw [Int.toNat_of_nonneg hp, Int.natCast_mul, Int.toNat_of_nonneg ha, Int.mul_comm]
      simp
    exact Int.ofNat.inj this
  have hb2 : b.toNat < 2 ^ k := by
    have : (b.toNat : Int) < ((2 ^ k : Nat) : Int) := by
      rw [Int.toNat_of_nonneg hb.1]
      simpa using hb.2
    omega
  rw [iI_ofNN hp, iI_ofNN hb.1, nx_or, e1, ← Nat.two_pow_add_eq_or_of_lt hb2, ← iI_nI]
  congr 1
  rw [Int.natCast_add, Int.toNat_of_nonneg hb.1, ← e1, Int.toNat_of_nonneg hp]
theorem iI_or0 {b : Int} : iI 0 ||| iI b = iI b := by
  rw [← iI_zero, Int32.zero_or]
