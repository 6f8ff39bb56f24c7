/-! sets as ints; the fewest changes of colour, and who may come next -/
def bt (z : Int) (j : Nat) : Prop := z.toNat.testBit j = true
theorem bt_div {z : Int} (h : 0 ≤ z) (j : Nat) : z / 2 ^ j % 2 = 1 ↔ bt z j := by
  unfold bt
  rw [Nat.testBit_eq_decide_div_mod_eq, decide_eq_true_iff]
  have e : z = ((z.toNat : Nat) : Int) := by omega
  have e2 : z / 2 ^ j % 2 = ((z.toNat / 2 ^ j % 2 : Nat) : Int) := by
    rw [Int.natCast_emod, Int.natCast_ediv, Int.natCast_pow, ← e]
    rfl
  rw [e2]
  omega
theorem bt_div0 {z : Int} (h : 0 ≤ z) (j : Nat) : z / 2 ^ j % 2 = 0 ↔ ¬ bt z j := by
  rw [← bt_div h j]
  omega
theorem orB : ∀ z : Nat, z < 1024 → ∀ k : Nat, k < 10 → z.testBit k = false → z ||| 2 ^ k = z + 2 ^ k ∧ z + 2 ^ k < 1024 := by decide +kernel
theorem iI_orN {a b : Int} (ha : 0 ≤ a) (hb : 0 ≤ b) : iI a ||| iI b = iI ((a.toNat ||| b.toNat : Nat) : Int) := by
  rw [iI_ofNN ha, iI_ofNN hb, iI_nI]
  apply Int32.toBitVec_inj.mp
  apply BitVec.eq_of_toNat_eq
  show (BitVec.ofNat 32 a.toNat ||| BitVec.ofNat 32 b.toNat).toNat = (BitVec.ofNat 32 (a.toNat ||| b.toNat)).toNat
  rw [BitVec.toNat_or, BitVec.toNat_ofNat, BitVec.toNat_ofNat, BitVec.toNat_ofNat, Nat.or_mod_two_pow]
theorem pw (k : Nat) : ((2 : Int) ^ k).toNat = 2 ^ k := by
  have e : (2 : Int) ^ k = ((2 ^ k : Nat) : Int) := by
    rw [Int.natCast_pow]
    rfl
  rw [e]
  rfl
theorem pw_pos (k : Nat) : (0 : Int) < 2 ^ k := Int.pow_pos (by decide)
theorem pw_le {k : Nat} (h : k ≤ 10) : (2 : Int) ^ k ≤ 1024 := by
  have e : (2 : Int) ^ k = ((2 ^ k : Nat) : Int) := by
    rw [Int.natCast_pow]
    rfl
  have h2 : 2 ^ k ≤ 2 ^ 10 := Nat.pow_le_pow_right (by decide) h
  rw [e]
  omega
theorem bt_up {z : Int} {k : Nat} (hz : 0 ≤ z ∧ z < 1024) (hk : k < 10) (h : ¬ bt z k) : iI z ||| iI (2 ^ k) = iI (z + 2 ^ k) ∧ (0 ≤ z + 2 ^ k ∧ z + 2 ^ k < 1024) ∧ ∀ j, bt (z + 2 ^ k) j ↔ (bt z j ∨ j = k) := by
  have hf : z.toNat.testBit k = false := by
    unfold bt at h
    cases q : z.toNat.testBit k
    · rfl
    · exact absurd q h
  obtain ⟨o1, o2⟩ := orB z.toNat (by omega) k hk hf
  have hp := pw_pos k
  have hw := pw k
  have e : (z + 2 ^ k).toNat = z.toNat ||| 2 ^ k := by
    rw [o1]
    omega
  refine ⟨?_, by omega, fun j => ?_⟩
  · rw [iI_orN hz.1 (by omega), hw, ← e]
    congr 1
    omega
  · unfold bt
    rw [e, Nat.testBit_or, Nat.testBit_two_pow, Bool.or_eq_true, decide_eq_true_iff]
    exact or_congr Iff.rfl eq_comm
theorem bt_or {a : Int} {k : Nat} (ha : 0 ≤ a ∧ a < 256) (hk : k < 8) : ∃ w : Int, iI a ||| iI (2 ^ k) = iI w ∧ (0 ≤ w ∧ w < 256) ∧ ∀ j, bt w j ↔ (bt a j ∨ j = k) := by
  have hp := pw_pos k
  have hlt : a.toNat ||| 2 ^ k < 2 ^ 8 := Nat.or_lt_two_pow (by omega) (Nat.pow_lt_pow_right (by decide) hk)
  refine ⟨((a.toNat ||| 2 ^ k : Nat) : Int), ?_, by omega, fun j => ?_⟩
  · rw [iI_orN ha.1 (by omega), pw]
  · unfold bt
    rw [Int.toNat_natCast, Nat.testBit_or, Nat.testBit_two_pow, Bool.or_eq_true, decide_eq_true_iff]
    exact or_congr Iff.rfl eq_comm
theorem iI_not {z : Int} (hz : 0 ≤ z ∧ z < 1024) : iI z ^^^ iI (-1) = iI (4294967295 - z) := by
  apply Int32.toBitVec_inj.mp
  have e : (iI z ^^^ iI (-1)).toBitVec = ~~~ (iI z).toBitVec := by
    show (iI z).toBitVec ^^^ (iI (-1)).toBitVec = _
    rw [show (iI (-1)).toBitVec = BitVec.allOnes 32 by decide, BitVec.xor_allOnes]
  rw [e]
  apply BitVec.eq_of_toNat_eq
  rw [BitVec.toNat_not, iI_tn, iI_tn]
  omega
/-- a set that is in another one -/
theorem bt_sub {a z : Int} (ha : 0 ≤ a ∧ a < 1024) (hz : 0 ≤ z ∧ z < 1024) : ∃ w : Int, iI a &&& iI (4294967295 - z) = iI w ∧ (0 ≤ w ∧ w < 1024) ∧ (w = 0 ↔ ∀ j, j < 10 → bt a j → bt z j) := by
  have hn : (4294967295 - z).toNat = 2 ^ 32 - (z.toNat + 1) := by omega
  have hle : a.toNat &&& (2 ^ 32 - (z.toNat + 1)) ≤ a.toNat := Nat.and_le_left
  refine ⟨((a.toNat &&& (2 ^ 32 - (z.toNat + 1)) : Nat) : Int), ?_, by omega, ?_⟩
  · rw [iI_andN ha.1 (by omega), hn]
  · have key : ∀ j, (a.toNat &&& (2 ^ 32 - (z.toNat + 1))).testBit j = (a.toNat.testBit j && (decide (j < 32) && !z.toNat.testBit j)) := fun j => by
      rw [Nat.testBit_and, Nat.testBit_two_pow_sub_succ (by omega)]
    constructor
    · intro h j hj hb
      have h0 : a.toNat &&& (2 ^ 32 - (z.toNat + 1)) = 0 := by omega
      have k := key j
      rw [h0, Nat.zero_testBit] at k
      unfold bt at hb ⊢
      rw [hb] at k
      cases q : z.toNat.testBit j
      · rw [q] at k
        simp [show j < 32 by omega] at k
      · rfl
    · intro h
      have h0 : a.toNat &&& (2 ^ 32 - (z.toNat + 1)) = 0 := by
        apply Nat.eq_of_testBit_eq
        intro j
        rw [key j, Nat.zero_testBit]
        by_cases hj : j < 10
        · cases q : a.toNat.testBit j
          · rfl
          · have := h j hj q
            unfold bt at this
            rw [this]
            simp
        · have : a.toNat.testBit j = false := Nat.testBit_lt_two_pow (Nat.lt_of_lt_of_le (show a.toNat < 2 ^ 10 by omega) (Nat.pow_le_pow_right (by decide) (by omega)))
          rw [this]
          rfl
      omega
theorem bt_full {S : Int} {n : Nat} (hn : n ≤ 10) (hS : 0 ≤ S ∧ S ≤ 2 ^ n - 1) (h : ∀ j, j < n → bt S j) : S = 2 ^ n - 1 := by
  have hw := pw n
  have hp := pw_pos n
  have e : S.toNat = 2 ^ n - 1 := by
    apply Nat.eq_of_testBit_eq
    intro j
    rw [Nat.testBit_two_pow_sub_one]
    by_cases hj : j < n
    · rw [decide_eq_true hj]
      exact h j hj
    · rw [decide_eq_false hj]
      exact Nat.testBit_lt_two_pow (Nat.lt_of_lt_of_le (show S.toNat < 2 ^ n by omega) (Nat.pow_le_pow_right (by decide) (by omega)))
  omega
theorem bt_all {n j : Nat} (h : j < n) : bt (2 ^ n - 1) j := by
  have hw := pw n
  have hp := pw_pos n
  unfold bt
  rw [show ((2 : Int) ^ n - 1).toNat = 2 ^ n - 1 by omega, Nat.testBit_two_pow_sub_one, decide_eq_true h]
theorem bt_0 (j : Nat) : ¬ bt 0 j := by
  unfold bt
  show ¬ (0 : Nat).testBit j = true
  rw [Nat.zero_testBit]
  decide
/-- the first place at which P fails -/
theorem least_ex {P : Nat → Prop} : ∀ n : Nat, (∃ k, k < n ∧ ¬ P k) → ∃ k, k < n ∧ ¬ P k ∧ ∀ j, j < k → P j
  | 0, h => by
    obtain ⟨k, h, -⟩ := h
    omega
  | n + 1, h => by
    by_cases c : ∃ k, k < n ∧ ¬ P k
    · obtain ⟨k, a, b⟩ := least_ex n c
      exact ⟨k, by omega, b⟩
    · obtain ⟨k, a, b⟩ := h
      have e : k = n := by
        by_cases q : k < n
        · exact absurd ⟨k, q, b⟩ c
        · omega
      subst e
      refine ⟨k, a, b, fun j hj => Classical.byContradiction (fun z => c ⟨j, hj, z⟩)⟩
noncomputable def pop (S : Int) : Nat → Int
  | 0 => 0
  | j + 1 => pop S j + pif (bt S j) 1 0
theorem pop_rng (S : Int) : ∀ n : Nat, 0 ≤ pop S n ∧ pop S n ≤ (n : Int)
  | 0 => by
    show (0 : Int) ≤ 0 ∧ (0 : Int) ≤ 0
    omega
  | n + 1 => by
    have h := pop_rng S n
    show 0 ≤ pop S n + pif (bt S n) 1 0 ∧ pop S n + pif (bt S n) 1 0 ≤ ((n + 1 : Nat) : Int)
    by_cases c : bt S n
    · rw [pif_pos c]
      omega
    · rw [pif_neg c]
      omega
theorem pop_lt {S : Int} {k : Nat} (hb : ¬ bt S k) : ∀ n : Nat, k < n → pop S n < (n : Int)
  | 0, h => by omega
  | n + 1, h => by
    have r := pop_rng S n
    show pop S n + pif (bt S n) 1 0 < ((n + 1 : Nat) : Int)
    by_cases c : k = n
    · subst c
      rw [pif_neg hb]
      omega
    · have z := pop_lt hb n (by omega)
      by_cases q : bt S n
      · rw [pif_pos q]
        omega
      · rw [pif_neg q]
        omega
theorem pop_add {S : Int} {k : Nat} (hS : 0 ≤ S ∧ S < 1024) (hk : k < 10) (hb : ¬ bt S k) : ∀ n : Nat, pop (S + 2 ^ k) n = pop S n + (if k < n then 1 else 0)
  | 0 => rfl
  | n + 1 => by
    have u := (bt_up hS hk hb).2.2 n
    show pop (S + 2 ^ k) n + pif (bt (S + 2 ^ k) n) 1 0 = pop S n + pif (bt S n) 1 0 + _
    rw [pop_add hS hk hb n]
    by_cases c : n = k
    · subst c
      rw [pif_pos (u.mpr (Or.inr rfl)), pif_neg hb, if_neg (by omega), if_pos (by omega)]
    · by_cases q : bt S n
      · rw [pif_pos (u.mpr (Or.inl q)), pif_pos q]
        split <;> split <;> omega
      · rw [pif_neg (fun z => (u.mp z).elim q c), pif_neg q]
        split <;> split <;> omega
theorem pop_all {n : Nat} : ∀ m : Nat, m ≤ n → pop (2 ^ n - 1) m = (m : Int)
  | 0, _ => rfl
  | m + 1, h => by
    show pop (2 ^ n - 1) m + pif (bt (2 ^ n - 1) m) 1 0 = ((m + 1 : Nat) : Int)
    rw [pop_all m (by omega), pif_pos (bt_all (by omega))]
    omega
theorem pop_0 : ∀ m : Nat, pop 0 m = 0
  | 0 => rfl
  | m + 1 => by
    show pop 0 m + pif (bt 0 m) 1 0 = 0
    rw [pop_0 m, pif_neg (bt_0 m)]
    rfl
theorem not_full {S : Int} {n : Nat} (hn : n ≤ 10) (hS : 0 ≤ S ∧ S ≤ 2 ^ n - 1) (h : S ≠ 2 ^ n - 1) : ∃ k, k < n ∧ ¬ bt S k ∧ ∀ j, j < k → bt S j :=
  least_ex n (Classical.byContradiction (fun z => h (bt_full hn hS (fun j hj => Classical.byContradiction (fun q => z ⟨j, hj, q⟩)))))
/-- a set with k put in is still a set of n -/
theorem bt_in {S : Int} {n k : Nat} (hn : n ≤ 10) (hS : 0 ≤ S ∧ S ≤ 2 ^ n - 1) (hk : k < n) (hb : ¬ bt S k) : 0 ≤ S + 2 ^ k ∧ S + 2 ^ k ≤ 2 ^ n - 1 := by
  have hp := pw_pos k
  have hw := pw n
  have hpn := pw_pos n
  have hle := pw_le hn
  have u := bt_up (k := k) (z := S) (by omega) (by omega) hb
  refine ⟨by omega, ?_⟩
  have hlt : (S + 2 ^ k).toNat < 2 ^ n := by
    have e : (S + 2 ^ k).toNat = S.toNat ||| 2 ^ k := by
      apply Nat.eq_of_testBit_eq
      intro j
      rw [Nat.testBit_or, Nat.testBit_two_pow]
      have z := u.2.2 j
      unfold bt at z
      cases q : (S + 2 ^ k).toNat.testBit j
      · cases q1 : S.toNat.testBit j
        · by_cases q2 : k = j
          · rw [z.mpr (Or.inr q2.symm)] at q
            exact absurd q (by decide)
          · rw [decide_eq_false q2]
            rfl
        · rw [z.mpr (Or.inl q1)] at q
          exact absurd q (by decide)
      · rcases z.mp q with y | y
        · rw [y]
          rfl
        · subst y
          rw [decide_eq_true rfl, Bool.or_true]
    rw [e]
    exact Nat.or_lt_two_pow (by omega) (Nat.pow_lt_pow_right (by decide) hk)
  omega
