theorem n_dig3 {n k : Nat} : n / 4 ^ k % 4 = 3 ↔ n.testBit (2 * k) = true ∧ n.testBit (2 * k + 1) = true := by
  rw [Nat.testBit_eq_decide_div_mod_eq, Nat.testBit_eq_decide_div_mod_eq, decide_eq_true_eq, decide_eq_true_eq]
  have e : 4 ^ k = 2 ^ (2 * k) := by rw [Nat.pow_mul]
  rw [e, Nat.pow_succ, ← Nat.div_div_eq_div_mul]
  generalize n / 2 ^ (2 * k) = q
  omega
theorem mask5 : ∀ i : Fin 20, Nat.testBit 349525 i.val = decide (i.val % 2 = 0) := by decide +kernel
theorem rec_iff (n : Nat) : (n &&& (n / 2)) &&& 349525 = 0 ↔ ∀ k, k < 10 → ¬ n / 4 ^ k % 4 = 3 := by
  constructor
  · intro h k hk q
    obtain ⟨a, b⟩ := n_dig3.mp q
    have h2 : ((n &&& (n / 2)) &&& 349525).testBit (2 * k) = true := by
      rw [Nat.testBit_and, Nat.testBit_and, a, ← Nat.testBit_succ, b, mask5 ⟨2 * k, by omega⟩]
      simp
    rw [h, Nat.zero_testBit] at h2
    exact absurd h2 (by decide)
  · intro h
    apply Nat.eq_of_testBit_eq
    intro i
    rw [Nat.zero_testBit, Nat.testBit_and, Nat.testBit_and, ← Nat.testBit_succ]
    by_cases hi : i < 20
    · rw [mask5 ⟨i, hi⟩]
      by_cases e : i % 2 = 0
      · have := h (i / 2) (by omega)
        rw [n_dig3, show 2 * (i / 2) = i by omega] at this
        cases c : n.testBit i
        · rfl
        · cases d : n.testBit (i + 1)
          · rfl
          · exact absurd ⟨c, d⟩ this
      · simp [e]
    · have : Nat.testBit 349525 i = false := Nat.testBit_lt_two_pow (Nat.lt_of_lt_of_le (show 349525 < 2 ^ 20 by decide) (Nat.pow_le_pow_right (by decide) (by omega)))
      rw [this]
      simp
/-- three bytes that make a record -/
def okRec (b : Int) : Prop := ¬ has3 (b % 1024) ∧ ¬ has3 (b / 1024 % 1024) ∧ b < 4194304
theorem dig_iff (n : Nat) : (∀ k, k < 10 → ¬ n / 4 ^ k % 4 = 3) ↔ (¬ has3 ((n : Int) % 1024) ∧ ¬ has3 ((n : Int) / 1024 % 1024)) := by
  unfold has3
  constructor
  · intro h
    have h0 := h 0 (by decide)
    have h1 := h 1 (by decide)
    have h2 := h 2 (by decide)
    have h3 := h 3 (by decide)
    have h4 := h 4 (by decide)
    have h5 := h 5 (by decide)
    have h6 := h 6 (by decide)
    have h7 := h 7 (by decide)
    have h8 := h 8 (by decide)
    have h9 := h 9 (by decide)
    simp only [show (4 : Nat) ^ 0 = 1 by decide, show (4 : Nat) ^ 1 = 4 by decide, show (4 : Nat) ^ 2 = 16 by decide, show (4 : Nat) ^ 3 = 64 by decide, show (4 : Nat) ^ 4 = 256 by decide, show (4 : Nat) ^ 5 = 1024 by decide, show (4 : Nat) ^ 6 = 4096 by decide, show (4 : Nat) ^ 7 = 16384 by decide, show (4 : Nat) ^ 8 = 65536 by decide, show (4 : Nat) ^ 9 = 262144 by decide] at h0 h1 h2 h3 h4 h5 h6 h7 h8 h9
    exact ⟨by omega, by omega⟩
  · intro h k hk q
    rcases (show k = 0 ∨ k = 1 ∨ k = 2 ∨ k = 3 ∨ k = 4 ∨ k = 5 ∨ k = 6 ∨ k = 7 ∨ k = 8 ∨ k = 9 by omega) with e | e | e | e | e | e | e | e | e | e <;> subst e
    · exact h.1 (by simp only [show (4 : Nat) ^ 0 = 1 by decide] at q; omega)
    · exact h.1 (by simp only [show (4 : Nat) ^ 1 = 4 by decide] at q; omega)
    · exact h.1 (by simp only [show (4 : Nat) ^ 2 = 16 by decide] at q; omega)
    · exact h.1 (by simp only [show (4 : Nat) ^ 3 = 64 by decide] at q; omega)
    · exact h.1 (by simp only [show (4 : Nat) ^ 4 = 256 by decide] at q; omega)
    · exact h.2 (by simp only [show (4 : Nat) ^ 5 = 1024 by decide] at q; omega)
    · exact h.2 (by simp only [show (4 : Nat) ^ 6 = 4096 by decide] at q; omega)
    · exact h.2 (by simp only [show (4 : Nat) ^ 7 = 16384 by decide] at q; omega)
    · exact h.2 (by simp only [show (4 : Nat) ^ 8 = 65536 by decide] at q; omega)
    · exact h.2 (by simp only [show (4 : Nat) ^ 9 = 262144 by decide] at q; omega)
theorem iI_andN {a b : Int} (ha : 0 ≤ a) (hb : 0 ≤ b) : iI a &&& iI b = iI ((a.toNat &&& b.toNat : Nat) : Int) := by
  rw [iI_ofNN ha, iI_ofNN hb, nx_and, iI_nI]
def rc3 (b : Int) : Int := ((((b.toNat &&& (b / 2).toNat : Nat) : Int).toNat &&& (349525 : Int).toNat : Nat) : Int)
theorem rc3_iff {b : Int} (h : 0 ≤ b) : rc3 b = 0 ↔ (¬ has3 (b % 1024) ∧ ¬ has3 (b / 1024 % 1024)) := by
  unfold rc3
  have e : (b / 2).toNat = b.toNat / 2 := by omega
  have e2 : ((b.toNat &&& (b / 2).toNat : Nat) : Int).toNat = (b.toNat &&& (b / 2).toNat : Nat) := Int.toNat_natCast _
  rw [e2, e, show (349525 : Int).toNat = 349525 from rfl]
  have := rec_iff b.toNat
  rw [dig_iff, Int.toNat_of_nonneg h] at this
  rw [← this]
  exact Int.natCast_eq_zero
theorem rc3_rng {b : Int} : 0 ≤ rc3 b ∧ rc3 b ≤ 349525 := by
  unfold rc3
  have h := Nat.and_le_right (n := ((b.toNat &&& (b / 2).toNat : Nat) : Int).toNat) (m := (349525 : Int).toNat)
  have e : (349525 : Int).toNat = 349525 := rfl
  rw [e] at h ⊢
  omega
theorem d_Pa_isRecord_0 : decode b_Pa_isRecord 0 = .ok (.iload_n 0, 1) := by decide +kernel
theorem d_Pa_isRecord_1 : decode b_Pa_isRecord 1 = .ok (.iload_n 0, 1) := by decide +kernel
theorem d_Pa_isRecord_2 : decode b_Pa_isRecord 2 = .ok (.iconst 1, 1) := by decide +kernel
theorem d_Pa_isRecord_3 : decode b_Pa_isRecord 3 = .ok (.ishr, 1) := by decide +kernel
theorem d_Pa_isRecord_4 : decode b_Pa_isRecord 4 = .ok (.iand, 1) := by decide +kernel
theorem d_Pa_isRecord_5 : decode b_Pa_isRecord 5 = .ok (.ldc 43, 2) := by decide +kernel
theorem d_Pa_isRecord_7 : decode b_Pa_isRecord 7 = .ok (.iand, 1) := by decide +kernel
theorem d_Pa_isRecord_8 : decode b_Pa_isRecord 8 = .ok (.ifCond .eq 7, 3) := by decide +kernel
theorem d_Pa_isRecord_11 : decode b_Pa_isRecord 11 = .ok (.iconst 1, 1) := by decide +kernel
theorem d_Pa_isRecord_12 : decode b_Pa_isRecord 12 = .ok (.goto 4, 3) := by decide +kernel
theorem d_Pa_isRecord_15 : decode b_Pa_isRecord 15 = .ok (.iconst 0, 1) := by decide +kernel
theorem d_Pa_isRecord_16 : decode b_Pa_isRecord 16 = .ok (.istore_n 1, 1) := by decide +kernel
theorem d_Pa_isRecord_17 : decode b_Pa_isRecord 17 = .ok (.iload_n 1, 1) := by decide +kernel
theorem d_Pa_isRecord_18 : decode b_Pa_isRecord 18 = .ok (.ifCond .ne 14, 3) := by decide +kernel
theorem d_Pa_isRecord_21 : decode b_Pa_isRecord 21 = .ok (.iload_n 0, 1) := by decide +kernel
theorem d_Pa_isRecord_22 : decode b_Pa_isRecord 22 = .ok (.bipush 22, 2) := by decide +kernel
theorem d_Pa_isRecord_24 : decode b_Pa_isRecord 24 = .ok (.ishr, 1) := by decide +kernel
theorem d_Pa_isRecord_25 : decode b_Pa_isRecord 25 = .ok (.ifCond .ne 7, 3) := by decide +kernel
theorem d_Pa_isRecord_28 : decode b_Pa_isRecord 28 = .ok (.iconst 1, 1) := by decide +kernel
theorem d_Pa_isRecord_29 : decode b_Pa_isRecord 29 = .ok (.goto 4, 3) := by decide +kernel
theorem d_Pa_isRecord_32 : decode b_Pa_isRecord 32 = .ok (.iconst 0, 1) := by decide +kernel
theorem d_Pa_isRecord_33 : decode b_Pa_isRecord 33 = .ok (.ireturn, 1) := by decide +kernel
set_option maxHeartbeats 1000000 in
set_option maxRecDepth 100000 in
theorem c_Pa_isRecord (F : Nat → Nat → Int) (G : Nat → Int → Int) (b : Int) (hb : 0 ≤ b ∧ b < 16777216) : cP y_Pa_isRecord b_Pa_isRecord 2 (some .boolean) 0 0 F G (fun ad => [.int (iI b)]) (fun r => (r = 0 ∨ r = 1) ∧ (r = 1 ↔ okRec b)) := by
  have hthr := rc3_iff hb.1
  intro s0 a0 D t ad
  refine g_startP (by decide +kernel) (Nat.le_of_ble_eq_true rfl) (fun p l e R s m args below meth c A ok => ?_)
  show gW p l e R s m args below meth c _ D A 2 (gZ0 s) 0 0 ad 265 (mem ad t F G) 0 [(0, .int (iI b))] []
  refine g_iload_n ok d_Pa_isRecord_0 rfl 0 rfl ?_
  refine g_iload_n ok d_Pa_isRecord_1 rfl 0 rfl ?_
  refine g_iconst ok d_Pa_isRecord_2 ?_
  refine g_ishr (z := b / 2) ok (iI_shr 1 (by decide) (by omega) rfl) d_Pa_isRecord_3 ?_
  refine g_iand (z := ((b.toNat &&& (b / 2).toNat : Nat) : Int)) ok (iI_andN (by omega) (by omega)) d_Pa_isRecord_4 ?_
  refine g_ldc (z := 349525) ok k_563 d_Pa_isRecord_5 ?_
  refine g_iand (z := rc3 b) ok (iI_andN (Int.natCast_nonneg _) (by decide)) d_Pa_isRecord_7 ?_
  refine g_if_eq ok 15 d_Pa_isRecord_8 (by decide) (by have := rc3_rng (b := b); omega) (fun h1 => ?_) (fun h1 => ?_)
  · refine g_iconst ok d_Pa_isRecord_15 ?_
    refine g_istore_n (lv' := [(1, .int (iI 0)), (0, .int (iI b))]) ok d_Pa_isRecord_16 rfl (by decide) rfl ?_
    refine g_iload_n ok d_Pa_isRecord_17 rfl 0 rfl ?_
    refine g_if_ne ok 32 d_Pa_isRecord_18 (by decide) (by omega) (fun h2 => ?_) (fun h2 => ?_)
    · exact absurd h2 (by decide)
    · refine g_iload_n ok d_Pa_isRecord_21 rfl 1 rfl ?_
      refine g_bipush ok (by decide) d_Pa_isRecord_22 ?_
      refine g_ishr (z := b / 4194304) ok (iI_shr 22 (by decide) (by omega) rfl) d_Pa_isRecord_24 ?_
      refine g_if_ne ok 32 d_Pa_isRecord_25 (by decide) (by omega) (fun h3 => ?_) (fun h3 => ?_)
      · refine g_iconst ok d_Pa_isRecord_32 ?_
        exact g_zpret ok d_Pa_isRecord_33 (Or.inl rfl) ⟨Or.inl rfl, fun q => by omega, fun q => by have := hthr.mpr ⟨q.1, q.2.1⟩; have := q.2.2; omega⟩
      · refine g_iconst ok d_Pa_isRecord_28 ?_
        refine g_goto ok 33 d_Pa_isRecord_29 (by decide) ?_
        exact g_zpret ok d_Pa_isRecord_33 (Or.inr rfl) ⟨Or.inr rfl, fun _ => ⟨(hthr.mp (by omega)).1, (hthr.mp (by omega)).2, by omega⟩, fun _ => rfl⟩
  · refine g_iconst ok d_Pa_isRecord_11 ?_
    refine g_goto ok 16 d_Pa_isRecord_12 (by decide) ?_
    refine g_istore_n (lv' := [(1, .int (iI 1)), (0, .int (iI b))]) ok d_Pa_isRecord_16 rfl (by decide) rfl ?_
    refine g_iload_n ok d_Pa_isRecord_17 rfl 0 rfl ?_
    refine g_if_ne ok 32 d_Pa_isRecord_18 (by decide) (by omega) (fun h4 => ?_) (fun h4 => ?_)
    · refine g_iconst ok d_Pa_isRecord_32 ?_
      exact g_zpret ok d_Pa_isRecord_33 (Or.inl rfl) ⟨Or.inl rfl, fun q => by omega, fun q => by have := hthr.mpr ⟨q.1, q.2.1⟩; have := q.2.2; omega⟩
    · exact absurd h4 (by decide)
def cPk (G : Nat → Int → Int) (i : Int) : Int := cK G i * 1048576 + dgC 5 (cY G i + 121) * 1024 + dgC 5 (cX G i + 121)
/-- the path's records are such as can be packed -/
def pRec (F : Nat → Nat → Int) (G : Nat → Int → Int) : Prop := pOk F G ∧ ∀ a : Int, 0 ≤ a → a < F 236 1 → (-121 ≤ cX G a ∧ cX G a ≤ 121) ∧ (-121 ≤ cY G a ∧ cY G a ≤ 121)
theorem d_Pa_packed_0 : decode b_Pa_packed 0 = .ok (.aload_n 0, 1) := by decide +kernel
theorem d_Pa_packed_1 : decode b_Pa_packed 1 = .ok (.iload_n 1, 1) := by decide +kernel
theorem d_Pa_packed_2 : decode b_Pa_packed 2 = .ok (.invokevirtual 23, 3) := by decide +kernel
theorem d_Pa_packed_5 : decode b_Pa_packed 5 = .ok (.bipush 20, 2) := by decide +kernel
theorem d_Pa_packed_7 : decode b_Pa_packed 7 = .ok (.ishl, 1) := by decide +kernel
theorem d_Pa_packed_8 : decode b_Pa_packed 8 = .ok (.aload_n 0, 1) := by decide +kernel
theorem d_Pa_packed_9 : decode b_Pa_packed 9 = .ok (.iload_n 1, 1) := by decide +kernel
theorem d_Pa_packed_10 : decode b_Pa_packed 10 = .ok (.invokevirtual 27, 3) := by decide +kernel
theorem d_Pa_packed_13 : decode b_Pa_packed 13 = .ok (.invokestatic 30, 3) := by decide +kernel
theorem d_Pa_packed_16 : decode b_Pa_packed 16 = .ok (.bipush 10, 2) := by decide +kernel
theorem d_Pa_packed_18 : decode b_Pa_packed 18 = .ok (.ishl, 1) := by decide +kernel
theorem d_Pa_packed_19 : decode b_Pa_packed 19 = .ok (.ior, 1) := by decide +kernel
theorem d_Pa_packed_20 : decode b_Pa_packed 20 = .ok (.aload_n 0, 1) := by decide +kernel
theorem d_Pa_packed_21 : decode b_Pa_packed 21 = .ok (.iload_n 1, 1) := by decide +kernel
theorem d_Pa_packed_22 : decode b_Pa_packed 22 = .ok (.invokevirtual 33, 3) := by decide +kernel
theorem d_Pa_packed_25 : decode b_Pa_packed 25 = .ok (.invokestatic 30, 3) := by decide +kernel
theorem d_Pa_packed_28 : decode b_Pa_packed 28 = .ok (.ior, 1) := by decide +kernel
theorem d_Pa_packed_29 : decode b_Pa_packed 29 = .ok (.ireturn, 1) := by decide +kernel
set_option maxHeartbeats 1000000 in
set_option maxRecDepth 100000 in
theorem c_Pa_packed (F : Nat → Nat → Int) (G : Nat → Int → Int) (i : Int) (hp : pRec F G) (hi : 0 ≤ i ∧ i < F 236 1) : cP y_Pa_packed b_Pa_packed 2 (some .int) 1 24 F G (fun ad => [.ref (ad 236), .int (iI i)]) (fun r => r = cPk G i) := by
  obtain ⟨⟨hs, hC⟩, hR⟩ := hp
  have hri := hR i hi.1 hi.2
  have hci := hC i hi.1 hi.2
  have hk : 0 ≤ cK G i ∧ cK G i < 4 := by unfold cK; omega
  have hdy := dgC_5 (r := cY G i + 121) (by omega)
  have hdx := dgC_5 (r := cX G i + 121) (by omega)
  intro s0 a0 D t ad
  refine g_startP (by decide +kernel) (Nat.le_of_ble_eq_true rfl) (fun p l e R s m args below meth c A ok => ?_)
  show gW p l e R s m args below meth c _ D A 2 (gZ0 s) 0 0 ad 265 (mem ad t F G) 0 [(0, .ref (ad 236)), (1, .int (iI i))] []
  refine g_aload_n ok d_Pa_packed_0 rfl 0 rfl ?_
  refine g_iload_n ok d_Pa_packed_1 rfl 1 rfl ?_
  refine g_callPV (As := [.int (iI i)]) (st := []) ok _ (c_Pa_kind F G _ (by omega) (hC _ (by omega) (by omega)) s0 a0 D t ad) k_627 k_9 k_624 cl_Pa (m_Pa (ad := ad) (t := t) (F := F) (G := G) rfl).1 (m_Pa rfl).2 k_626 s_Pa_kind q_Pa_kind (by decide) (Nat.le_of_ble_eq_true rfl) (by decide) d_Pa_packed_2 (fun z1 hc1 => ?_)
  subst hc1
  refine g_bipush ok (by decide) d_Pa_packed_5 ?_
  refine g_ishl (z := cK G i * 1048576) ok (iI_shl 20 (by decide) (by omega) (by omega) rfl) d_Pa_packed_7 ?_
  refine g_aload_n ok d_Pa_packed_8 rfl 0 rfl ?_
  refine g_iload_n ok d_Pa_packed_9 rfl 1 rfl ?_
  refine g_callPV (As := [.int (iI i)]) (st := [.int (iI (cK G i * 1048576))]) ok _ (c_Pa_dy F G _ (by omega) (hC _ (by omega) (by omega)) s0 a0 D t ad) k_635 k_9 k_632 cl_Pa (m_Pa (ad := ad) (t := t) (F := F) (G := G) rfl).1 (m_Pa rfl).2 k_634 s_Pa_dy q_Pa_dy (by decide) (Nat.le_of_ble_eq_true rfl) (by decide) d_Pa_packed_10 (fun z2 hc2 => ?_)
  subst hc2
  refine g_callPS (As := [.int (iI (cY G i))]) (st := [.int (iI (cK G i * 1048576))]) ok (c_Pa_digitsOf F G _ (by omega) s0 a0 D t ad) k_956 k_9 k_954 k_955 q_Pa_digitsOf (by decide) (Nat.le_of_ble_eq_true rfl) (by decide) d_Pa_packed_13 (fun z3 hc3 => ?_)
  subst hc3
  refine g_bipush ok (by decide) d_Pa_packed_16 ?_
  refine g_ishl (z := dgC 5 (cY G i + 121) * 1024) ok (iI_shl 10 (by decide) (by omega) (by omega) rfl) d_Pa_packed_18 ?_
  refine g_ior (z := cK G i * 1048576 + dgC 5 (cY G i + 121) * 1024) ok (iI_or (a := cK G i) 20 (by omega) (by omega)) d_Pa_packed_19 ?_
  refine g_aload_n ok d_Pa_packed_20 rfl 0 rfl ?_
  refine g_iload_n ok d_Pa_packed_21 rfl 1 rfl ?_
  refine g_callPV (As := [.int (iI i)]) (st := [.int (iI (cK G i * 1048576 + dgC 5 (cY G i + 121) * 1024))]) ok _ (c_Pa_dx F G _ (by omega) (hC _ (by omega) (by omega)) s0 a0 D t ad) k_631 k_9 k_628 cl_Pa (m_Pa (ad := ad) (t := t) (F := F) (G := G) rfl).1 (m_Pa rfl).2 k_630 s_Pa_dx q_Pa_dx (by decide) (Nat.le_of_ble_eq_true rfl) (by decide) d_Pa_packed_22 (fun z4 hc4 => ?_)
  subst hc4
  refine g_callPS (As := [.int (iI (cX G i))]) (st := [.int (iI (cK G i * 1048576 + dgC 5 (cY G i + 121) * 1024))]) ok (c_Pa_digitsOf F G _ (by omega) s0 a0 D t ad) k_956 k_9 k_954 k_955 q_Pa_digitsOf (by decide) (Nat.le_of_ble_eq_true rfl) (by decide) d_Pa_packed_25 (fun z5 hc5 => ?_)
  subst hc5
  refine g_ior (z := cPk G i) ok (by have h := iI_or (a := cK G i * 1024 + dgC 5 (cY G i + 121)) (b := dgC 5 (cX G i + 121)) 10 (by omega) (by omega); rw [show (cK G i * 1024 + dgC 5 (cY G i + 121)) * 2 ^ 10 = cK G i * 1048576 + dgC 5 (cY G i + 121) * 1024 by omega] at h; exact h) d_Pa_packed_28 ?_
  exact g_ipret ok d_Pa_packed_29 (rfl)
theorem d_Pa_addPacked_0 : decode b_Pa_addPacked 0 = .ok (.aload_n 0, 1) := by decide +kernel
theorem d_Pa_addPacked_1 : decode b_Pa_addPacked 1 = .ok (.iload_n 1, 1) := by decide +kernel
theorem d_Pa_addPacked_2 : decode b_Pa_addPacked 2 = .ok (.sipush 1023, 3) := by decide +kernel
theorem d_Pa_addPacked_5 : decode b_Pa_addPacked 5 = .ok (.iand, 1) := by decide +kernel
theorem d_Pa_addPacked_6 : decode b_Pa_addPacked 6 = .ok (.invokestatic 36, 3) := by decide +kernel
theorem d_Pa_addPacked_9 : decode b_Pa_addPacked 9 = .ok (.iload_n 1, 1) := by decide +kernel
theorem d_Pa_addPacked_10 : decode b_Pa_addPacked 10 = .ok (.bipush 10, 2) := by decide +kernel
theorem d_Pa_addPacked_12 : decode b_Pa_addPacked 12 = .ok (.ishr, 1) := by decide +kernel
theorem d_Pa_addPacked_13 : decode b_Pa_addPacked 13 = .ok (.sipush 1023, 3) := by decide +kernel
theorem d_Pa_addPacked_16 : decode b_Pa_addPacked 16 = .ok (.iand, 1) := by decide +kernel
theorem d_Pa_addPacked_17 : decode b_Pa_addPacked 17 = .ok (.invokestatic 36, 3) := by decide +kernel
theorem d_Pa_addPacked_20 : decode b_Pa_addPacked 20 = .ok (.iload_n 1, 1) := by decide +kernel
theorem d_Pa_addPacked_21 : decode b_Pa_addPacked 21 = .ok (.bipush 20, 2) := by decide +kernel
theorem d_Pa_addPacked_23 : decode b_Pa_addPacked 23 = .ok (.ishr, 1) := by decide +kernel
theorem d_Pa_addPacked_24 : decode b_Pa_addPacked 24 = .ok (.iconst 3, 1) := by decide +kernel
theorem d_Pa_addPacked_25 : decode b_Pa_addPacked 25 = .ok (.iand, 1) := by decide +kernel
theorem d_Pa_addPacked_26 : decode b_Pa_addPacked 26 = .ok (.invokevirtual 39, 3) := by decide +kernel
theorem d_Pa_addPacked_29 : decode b_Pa_addPacked 29 = .ok (.return_, 1) := by decide +kernel
set_option maxHeartbeats 1000000 in
set_option maxRecDepth 100000 in
theorem c_Pa_addPacked (F : Nat → Nat → Int) (G : Nat → Int → Int) (b : Int) (hb : 0 ≤ b ∧ b < 16777216) (hr : okRec b) (hs : 0 ≤ F 236 1 ∧ F 236 1 < 4000) : cV y_Pa_addPacked b_Pa_addPacked 2 none 1 23 F G (fun ad => [.ref (ad 236), .int (iI b)]) (fun F' G' => F' = fU F 236 1 (F 236 1 + 1) ∧ G' = gU G 237 (F 236 1) (b / 1048576 % 4 * 65536 + (numC (b / 1024 % 1024) + 128) * 256 + (numC (b % 1024) + 128))) := by
  have n1 := numC_rng hr.1
  have n2 := numC_rng hr.2.1
  intro s0 a0 D t ad
  refine g_startV (by decide +kernel) (Nat.le_of_ble_eq_true rfl) (fun p l e R s m args below meth c A ok => ?_)
  show gW p l e R s m args below meth c _ D A 2 (gZ0 s) 0 0 ad 265 (mem ad t F G) 0 [(0, .ref (ad 236)), (1, .int (iI b))] []
  refine g_aload_n ok d_Pa_addPacked_0 rfl 0 rfl ?_
  refine g_iload_n ok d_Pa_addPacked_1 rfl 1 rfl ?_
  refine g_sipush ok (by decide) d_Pa_addPacked_2 ?_
  refine g_iand (z := b % 1024) ok (iI_mask 10 (by omega) rfl (by decide)) d_Pa_addPacked_5 ?_
  refine g_callPS (As := [.int (iI (b % 1024))]) (st := [.ref (ad 236)]) ok (c_Pa_numberOf F G _ (by omega) s0 a0 D t ad) k_570 k_9 k_568 k_569 q_Pa_numberOf (by decide) (Nat.le_of_ble_eq_true rfl) (by decide) d_Pa_addPacked_6 (fun z1 hc1 => ?_)
  subst hc1
  refine g_iload_n ok d_Pa_addPacked_9 rfl 1 rfl ?_
  refine g_bipush ok (by decide) d_Pa_addPacked_10 ?_
  refine g_ishr (z := b / 1024) ok (iI_shr 10 (by decide) (by omega) rfl) d_Pa_addPacked_12 ?_
  refine g_sipush ok (by decide) d_Pa_addPacked_13 ?_
  refine g_iand (z := b / 1024 % 1024) ok (iI_mask 10 (by omega) rfl (by decide)) d_Pa_addPacked_16 ?_
  refine g_callPS (As := [.int (iI (b / 1024 % 1024))]) (st := [.int (iI (numC (b % 1024))), .ref (ad 236)]) ok (c_Pa_numberOf F G _ (by omega) s0 a0 D t ad) k_570 k_9 k_568 k_569 q_Pa_numberOf (by decide) (Nat.le_of_ble_eq_true rfl) (by decide) d_Pa_addPacked_17 (fun z2 hc2 => ?_)
  subst hc2
  refine g_iload_n ok d_Pa_addPacked_20 rfl 1 rfl ?_
  refine g_bipush ok (by decide) d_Pa_addPacked_21 ?_
  refine g_ishr (z := b / 1048576) ok (iI_shr 20 (by decide) (by omega) rfl) d_Pa_addPacked_23 ?_
  refine g_iconst ok d_Pa_addPacked_24 ?_
  refine g_iand (z := b / 1048576 % 4) ok (iI_mask 2 (by omega) rfl (by decide)) d_Pa_addPacked_25 ?_
  refine g_callVV (As := [.int (iI (numC (b % 1024))), .int (iI (numC (b / 1024 % 1024))), .int (iI (b / 1048576 % 4))]) (st := []) ok _ (c_Pa_add F G _ _ _ (by omega) (by omega) (by omega) (by omega) s0 a0 D t ad) k_503 k_9 k_571 cl_Pa (m_Pa (ad := ad) (t := t) (F := F) (G := G) rfl).1 (m_Pa rfl).2 k_502 s_Pa_add q_Pa_add (by decide) (Nat.le_of_ble_eq_true rfl) (by decide) d_Pa_addPacked_26 (fun ce1 hc3 => ?_)
  obtain ⟨F1, G1, rfl, hF1, hG1⟩ := hc3
  rw [if_pos (by omega)] at hF1 hG1
  exact g_vret ok d_Pa_addPacked_29 ⟨_, _, rfl, hF1, hG1⟩
theorem sh_rng {c : Int} {k : Nat} (h : 0 ≤ c ∧ c < 2147483648) : 0 ≤ c / 2 ^ k ∧ c / 2 ^ k < 2147483648 := by
  have hp : (0 : Int) < 2 ^ k := Int.pow_pos (by decide)
  have h1 := Int.ediv_nonneg h.1 (Int.le_of_lt hp)
  have h2 := Int.ediv_le_self (2 ^ k) h.1
  omega
theorem d_Dk_byteAt_0 : decode b_Dk_byteAt 0 = .ok (.iload_n 1, 1) := by decide +kernel
theorem d_Dk_byteAt_1 : decode b_Dk_byteAt 1 = .ok (.iconst 3, 1) := by decide +kernel
theorem d_Dk_byteAt_2 : decode b_Dk_byteAt 2 = .ok (.aload_n 0, 1) := by decide +kernel
theorem d_Dk_byteAt_3 : decode b_Dk_byteAt 3 = .ok (.getfield 48, 3) := by decide +kernel
theorem d_Dk_byteAt_6 : decode b_Dk_byteAt 6 = .ok (.getfield 183, 3) := by decide +kernel
theorem d_Dk_byteAt_9 : decode b_Dk_byteAt 9 = .ok (.imul, 1) := by decide +kernel
theorem d_Dk_byteAt_10 : decode b_Dk_byteAt 10 = .ok (.invokestatic 76, 3) := by decide +kernel
theorem d_Dk_byteAt_13 : decode b_Dk_byteAt 13 = .ok (.ifCond .ne 13, 3) := by decide +kernel
theorem d_Dk_byteAt_16 : decode b_Dk_byteAt 16 = .ok (.new 202, 3) := by decide +kernel
theorem d_Dk_byteAt_19 : decode b_Dk_byteAt 19 = .ok (.dup, 1) := by decide +kernel
theorem d_Dk_byteAt_20 : decode b_Dk_byteAt 20 = .ok (.ldc 219, 2) := by decide +kernel
theorem d_Dk_byteAt_22 : decode b_Dk_byteAt 22 = .ok (.invokespecial 206, 3) := by decide +kernel
theorem d_Dk_byteAt_25 : decode b_Dk_byteAt 25 = .ok (.athrow, 1) := by decide +kernel
theorem d_Dk_byteAt_26 : decode b_Dk_byteAt 26 = .ok (.iconst 2, 1) := by decide +kernel
theorem d_Dk_byteAt_27 : decode b_Dk_byteAt 27 = .ok (.iload_n 1, 1) := by decide +kernel
theorem d_Dk_byteAt_28 : decode b_Dk_byteAt 28 = .ok (.iconst 3, 1) := by decide +kernel
theorem d_Dk_byteAt_29 : decode b_Dk_byteAt 29 = .ok (.irem, 1) := by decide +kernel
theorem d_Dk_byteAt_30 : decode b_Dk_byteAt 30 = .ok (.isub, 1) := by decide +kernel
theorem d_Dk_byteAt_31 : decode b_Dk_byteAt 31 = .ok (.istore_n 2, 1) := by decide +kernel
theorem d_Dk_byteAt_32 : decode b_Dk_byteAt 32 = .ok (.aload_n 0, 1) := by decide +kernel
theorem d_Dk_byteAt_33 : decode b_Dk_byteAt 33 = .ok (.getfield 48, 3) := by decide +kernel
theorem d_Dk_byteAt_36 : decode b_Dk_byteAt 36 = .ok (.iload_n 1, 1) := by decide +kernel
theorem d_Dk_byteAt_37 : decode b_Dk_byteAt 37 = .ok (.iconst 3, 1) := by decide +kernel
theorem d_Dk_byteAt_38 : decode b_Dk_byteAt 38 = .ok (.idiv, 1) := by decide +kernel
theorem d_Dk_byteAt_39 : decode b_Dk_byteAt 39 = .ok (.invokevirtual 221, 3) := by decide +kernel
theorem d_Dk_byteAt_42 : decode b_Dk_byteAt 42 = .ok (.bipush 8, 2) := by decide +kernel
theorem d_Dk_byteAt_44 : decode b_Dk_byteAt 44 = .ok (.iload_n 2, 1) := by decide +kernel
theorem d_Dk_byteAt_45 : decode b_Dk_byteAt 45 = .ok (.imul, 1) := by decide +kernel
theorem d_Dk_byteAt_46 : decode b_Dk_byteAt 46 = .ok (.ishr, 1) := by decide +kernel
theorem d_Dk_byteAt_47 : decode b_Dk_byteAt 47 = .ok (.sipush 255, 3) := by decide +kernel
theorem d_Dk_byteAt_50 : decode b_Dk_byteAt 50 = .ok (.iand, 1) := by decide +kernel
theorem d_Dk_byteAt_51 : decode b_Dk_byteAt 51 = .ok (.ireturn, 1) := by decide +kernel
set_option maxHeartbeats 1000000 in
set_option maxRecDepth 100000 in
theorem c_Dk_byteAt (F : Nat → Nat → Int) (G : Nat → Int → Int) (i : Int) (hp : pRec F G) (hi : 0 ≤ i ∧ i < 3 * F 236 1) : cP y_Dk_byteAt b_Dk_byteAt 3 (some .int) 6 82 F G (fun ad => [.ref (ad 0), .int (iI i)]) (fun z => z = cPk G (i / 3) / 2 ^ (16 - 8 * (i % 3)).toNat % 256) := by
  have hs := hp.1.1
  intro s0 a0 D t ad
  refine g_startP (by decide +kernel) (Nat.le_of_ble_eq_true rfl) (fun p l e R s m args below meth c A ok => ?_)
  show gW p l e R s m args below meth c _ D A 3 (gZ0 s) 0 0 ad 265 (mem ad t F G) 0 [(0, .ref (ad 0)), (1, .int (iI i))] []
  refine g_iload_n ok d_Dk_byteAt_0 rfl 1 rfl ?_
  refine g_iconst ok d_Dk_byteAt_1 ?_
  refine g_aload_n ok d_Dk_byteAt_2 rfl 0 rfl ?_
  refine gI_Dk_path ok _ rfl k_322 d_Dk_byteAt_3 ?_
  refine gN_Pa_size ok _ rfl k_258 d_Dk_byteAt_6 ?_
  refine g_imul ok d_Dk_byteAt_9 ?_
  refine g_callPS (As := [.int (iI i), .int (iI (3 * (F 236 1)))]) (st := []) ok (c_Dk_isBelow F G _ _ (by omega) (by omega) s0 a0 D t ad) k_615 k_1 k_613 k_614 q_Dk_isBelow (by decide) (Nat.le_of_ble_eq_true rfl) (by decide) d_Dk_byteAt_10 (fun z1 hc1 => ?_)
  subst hc1
  refine g_if_ne ok 26 d_Dk_byteAt_13 (by decide) (by split <;> omega) (fun h2 => ?_) (fun h2 => ?_)
  · refine g_iconst ok d_Dk_byteAt_26 ?_
    refine g_iload_n ok d_Dk_byteAt_27 rfl 1 rfl ?_
    refine g_iconst ok d_Dk_byteAt_28 ?_
    refine g_irem (z := i % 3) ok (iI_ne0 (by decide)) (iI_remN (by omega) (by decide)) d_Dk_byteAt_29 ?_
    refine g_isub ok d_Dk_byteAt_30 ?_
    refine g_istore_n (lv' := [(2, .int (iI (2 - (i % 3)))), (0, .ref (ad 0)), (1, .int (iI i))]) ok d_Dk_byteAt_31 rfl (by decide) rfl ?_
    have hP : 0 ≤ cPk G (i / 3) ∧ cPk G (i / 3) < 4194304 := by
      have hri := hp.2 (i / 3) (by omega) (by omega)
      have hci := hp.1.2 (i / 3) (by omega) (by omega)
      have hk : 0 ≤ cK G (i / 3) ∧ cK G (i / 3) < 4 := by unfold cK; omega
      have hdy := dgC_5 (r := cY G (i / 3) + 121) (by omega)
      have hdx := dgC_5 (r := cX G (i / 3) + 121) (by omega)
      unfold cPk
      omega
    refine g_aload_n ok d_Dk_byteAt_32 rfl 1 rfl ?_
    refine gI_Dk_path ok _ rfl k_322 d_Dk_byteAt_33 ?_
    refine g_iload_n ok d_Dk_byteAt_36 rfl 2 rfl ?_
    refine g_iconst ok d_Dk_byteAt_37 ?_
    refine g_idiv (z := i / 3) ok (iI_ne0 (by decide)) (iI_divN (by omega) (by decide)) d_Dk_byteAt_38 ?_
    refine g_callPVN (As := [.int (iI (i / 3))]) (st := []) ok _ (c_Pa_packed F G _ hp (by omega) s0 a0 D t ad) k_953 k_9 k_950 cl_Pa (m_Pa (ad := ad) (t := t) (F := F) (G := G) rfl).1 (m_Pa rfl).2 k_952 s_Pa_packed q_Pa_packed (by decide) (Nat.le_of_ble_eq_true rfl) (by decide) d_Dk_byteAt_39 (fun z3 hc3 => ?_)
    subst hc3
    refine g_bipush ok (by decide) d_Dk_byteAt_42 ?_
    refine g_iload_n ok d_Dk_byteAt_44 rfl 0 rfl ?_
    refine g_imul ok d_Dk_byteAt_45 ?_
    refine g_ishr (z := cPk G (i / 3) / 2 ^ (16 - 8 * (i % 3)).toNat) ok (iI_shr (16 - 8 * (i % 3)).toNat (by omega) (by omega) (by omega)) d_Dk_byteAt_46 ?_
    refine g_sipush ok (by decide) d_Dk_byteAt_47 ?_
    refine g_iand (z := cPk G (i / 3) / 2 ^ (16 - 8 * (i % 3)).toNat % 256) ok (iI_mask 8 (sh_rng (by omega)) rfl (by decide)) d_Dk_byteAt_50 ?_
    exact g_ipret ok d_Dk_byteAt_51 (rfl)
  · exfalso; omega
def isRoot (v r : Int) : Prop := 0 ≤ r ∧ v ≤ r * r ∧ ∀ q : Int, 0 ≤ q → q < r → q * q < v
theorem isRoot_uniq {v r r' : Int} (h : isRoot v r) (h' : isRoot v r') : r = r' := by
  rcases Int.lt_trichotomy r r' with q | q | q
  · have := h'.2.2 r h.1 q
    have := h.2.1
    omega
  · exact q
  · have := h.2.2 r' h'.1 q
    have := h'.2.1
    omega
noncomputable def rootU (v : Int) : Int := Classical.epsilon (fun r => isRoot v r)
theorem rootU_of {v r : Int} (h : isRoot v r) : r = rootU v := isRoot_uniq h (Classical.epsilon_spec (p := fun r => isRoot v r) ⟨r, h⟩)
theorem sq_mono {a b : Int} (h : 0 ≤ a) (h2 : a ≤ b) : a * a ≤ b * b := Int.mul_le_mul h2 h2 h (by omega)
theorem sq_lt {a b : Int} (h : 0 ≤ a) (h2 : a < b) : a * a < b * b := by
  have h1 : a * a ≤ a * b := Int.mul_le_mul_of_nonneg_left (by omega) h
  have h3 : a * b < b * b := Int.mul_lt_mul_of_pos_right h2 (by omega)
  omega
theorem sq_abs (a : Int) : a * a = (if a < 0 then -a else a) * (if a < 0 then -a else a) := by
  split
  · rw [Int.neg_mul_neg]
  · rfl
theorem sq_rng {a : Int} (h : -128 ≤ a ∧ a < 128) : 0 ≤ a * a ∧ a * a ≤ 16384 := by
  have e := sq_abs a
  have h1 : 0 ≤ (if a < 0 then -a else a) ∧ (if a < 0 then -a else a) ≤ 128 := by split <;> omega
  have h2 := sq_mono h1.1 h1.2
  have h3 := Int.mul_nonneg h1.1 h1.1
  omega
theorem root_m {a b q : Int} (h : 0 ≤ q ∧ q < max (if a < 0 then -a else a) (if b < 0 then -b else b)) : q * q < a * a + b * b := by
  have ea := sq_abs a
  have eb := sq_abs b
  have na : 0 ≤ (if a < 0 then -a else a) := by split <;> omega
  have nb : 0 ≤ (if b < 0 then -b else b) := by split <;> omega
  have pa := Int.mul_nonneg na na
  have pb := Int.mul_nonneg nb nb
  rcases Int.le_total (if a < 0 then -a else a) (if b < 0 then -b else b) with c | c
  · rw [Int.max_eq_right c] at h
    have := sq_lt h.1 h.2
    omega
  · rw [Int.max_eq_left c] at h
    have := sq_lt h.1 h.2
    omega
theorem root_b (a b : Int) : a * a + b * b ≤ ((if a < 0 then -a else a) + (if b < 0 then -b else b)) * ((if a < 0 then -a else a) + (if b < 0 then -b else b)) := by
  have ea := sq_abs a
  have eb := sq_abs b
  have na : 0 ≤ (if a < 0 then -a else a) := by split <;> omega
  have nb : 0 ≤ (if b < 0 then -b else b) := by split <;> omega
  have pa := Int.mul_nonneg na nb
  rw [ea, eb]
  generalize (if a < 0 then -a else a) = u at *
  generalize (if b < 0 then -b else b) = v at *
  rw [Int.add_mul, Int.mul_add, Int.mul_add, Int.mul_comm v u]
  omega
theorem root_le {v r : Int} (h : isRoot v r) (hv : v ≤ 32768) : r ≤ 182 := by
  rcases Int.lt_or_le 182 r with q | q
  · have := h.2.2 182 (by decide) q
    omega
  · exact q
theorem d_Pa_rootUp_0 : decode b_Pa_rootUp 0 = .ok (.iload_n 0, 1) := by decide +kernel
theorem d_Pa_rootUp_1 : decode b_Pa_rootUp 1 = .ok (.iload_n 0, 1) := by decide +kernel
theorem d_Pa_rootUp_2 : decode b_Pa_rootUp 2 = .ok (.imul, 1) := by decide +kernel
theorem d_Pa_rootUp_3 : decode b_Pa_rootUp 3 = .ok (.iload_n 1, 1) := by decide +kernel
theorem d_Pa_rootUp_4 : decode b_Pa_rootUp 4 = .ok (.iload_n 1, 1) := by decide +kernel
theorem d_Pa_rootUp_5 : decode b_Pa_rootUp 5 = .ok (.imul, 1) := by decide +kernel
theorem d_Pa_rootUp_6 : decode b_Pa_rootUp 6 = .ok (.iadd, 1) := by decide +kernel
theorem d_Pa_rootUp_7 : decode b_Pa_rootUp 7 = .ok (.istore_n 2, 1) := by decide +kernel
theorem d_Pa_rootUp_8 : decode b_Pa_rootUp 8 = .ok (.iload_n 0, 1) := by decide +kernel
theorem d_Pa_rootUp_9 : decode b_Pa_rootUp 9 = .ok (.invokestatic 48, 3) := by decide +kernel
theorem d_Pa_rootUp_12 : decode b_Pa_rootUp 12 = .ok (.iload_n 1, 1) := by decide +kernel
theorem d_Pa_rootUp_13 : decode b_Pa_rootUp 13 = .ok (.invokestatic 48, 3) := by decide +kernel
theorem d_Pa_rootUp_16 : decode b_Pa_rootUp 16 = .ok (.iadd, 1) := by decide +kernel
theorem d_Pa_rootUp_17 : decode b_Pa_rootUp 17 = .ok (.istore_n 3, 1) := by decide +kernel
theorem d_Pa_rootUp_18 : decode b_Pa_rootUp 18 = .ok (.iload_n 0, 1) := by decide +kernel
theorem d_Pa_rootUp_19 : decode b_Pa_rootUp 19 = .ok (.invokestatic 48, 3) := by decide +kernel
theorem d_Pa_rootUp_22 : decode b_Pa_rootUp 22 = .ok (.iload_n 1, 1) := by decide +kernel
theorem d_Pa_rootUp_23 : decode b_Pa_rootUp 23 = .ok (.invokestatic 48, 3) := by decide +kernel
theorem d_Pa_rootUp_26 : decode b_Pa_rootUp 26 = .ok (.invokestatic 53, 3) := by decide +kernel
theorem d_Pa_rootUp_29 : decode b_Pa_rootUp 29 = .ok (.istore 4, 2) := by decide +kernel
theorem d_Pa_rootUp_31 : decode b_Pa_rootUp 31 = .ok (.iload 4, 2) := by decide +kernel
theorem d_Pa_rootUp_33 : decode b_Pa_rootUp 33 = .ok (.iload_n 3, 1) := by decide +kernel
theorem d_Pa_rootUp_34 : decode b_Pa_rootUp 34 = .ok (.if_icmp .ge 21, 3) := by decide +kernel
theorem d_Pa_rootUp_37 : decode b_Pa_rootUp 37 = .ok (.iload 4, 2) := by decide +kernel
theorem d_Pa_rootUp_39 : decode b_Pa_rootUp 39 = .ok (.iload 4, 2) := by decide +kernel
theorem d_Pa_rootUp_41 : decode b_Pa_rootUp 41 = .ok (.imul, 1) := by decide +kernel
theorem d_Pa_rootUp_42 : decode b_Pa_rootUp 42 = .ok (.iload_n 2, 1) := by decide +kernel
theorem d_Pa_rootUp_43 : decode b_Pa_rootUp 43 = .ok (.if_icmp .lt 6, 3) := by decide +kernel
theorem d_Pa_rootUp_46 : decode b_Pa_rootUp 46 = .ok (.iload 4, 2) := by decide +kernel
theorem d_Pa_rootUp_48 : decode b_Pa_rootUp 48 = .ok (.ireturn, 1) := by decide +kernel
theorem d_Pa_rootUp_49 : decode b_Pa_rootUp 49 = .ok (.iinc 4 1, 3) := by decide +kernel
theorem d_Pa_rootUp_52 : decode b_Pa_rootUp 52 = .ok (.goto (-21), 3) := by decide +kernel
theorem d_Pa_rootUp_55 : decode b_Pa_rootUp 55 = .ok (.iload_n 3, 1) := by decide +kernel
theorem d_Pa_rootUp_56 : decode b_Pa_rootUp 56 = .ok (.ireturn, 1) := by decide +kernel
set_option maxHeartbeats 1000000 in
set_option maxRecDepth 100000 in
theorem c_Pa_rootUp (F : Nat → Nat → Int) (G : Nat → Int → Int) (x y : Int) (hx : -128 ≤ x ∧ x < 128) (hy : -128 ≤ y ∧ y < 128) : cP y_Pa_rootUp b_Pa_rootUp 5 (some .int) 1 21 F G (fun ad => [.int (iI x), .int (iI y)]) (fun r => isRoot (x * x + y * y) r) := by
  have sx := sq_rng hx
  have sy := sq_rng hy
  intro s0 a0 D t ad
  refine g_startP (by decide +kernel) (Nat.le_of_ble_eq_true rfl) (fun p l e R s m args below meth c A ok => ?_)
  show gW p l e R s m args below meth c _ D A 5 (gZ0 s) 0 0 ad 265 (mem ad t F G) 0 [(0, .int (iI x)), (1, .int (iI y))] []
  refine g_iload_n ok d_Pa_rootUp_0 rfl 0 rfl ?_
  refine g_iload_n ok d_Pa_rootUp_1 rfl 0 rfl ?_
  refine g_imul ok d_Pa_rootUp_2 ?_
  refine g_iload_n ok d_Pa_rootUp_3 rfl 1 rfl ?_
  refine g_iload_n ok d_Pa_rootUp_4 rfl 1 rfl ?_
  refine g_imul ok d_Pa_rootUp_5 ?_
  refine g_iadd ok d_Pa_rootUp_6 ?_
  refine g_istore_n (lv' := [(2, .int (iI ((x * x) + (y * y)))), (0, .int (iI x)), (1, .int (iI y))]) ok d_Pa_rootUp_7 rfl (by decide) rfl ?_
  refine g_iload_n ok d_Pa_rootUp_8 rfl 1 rfl ?_
  refine g_callPS (As := [.int (iI x)]) (st := []) ok (c_Ma_abs F G _ (by omega) s0 a0 D t ad) k_494 k_18 k_639 k_493 q_Ma_abs (by decide) (Nat.le_of_ble_eq_true rfl) (by decide) d_Pa_rootUp_9 (fun z1 hc1 => ?_)
  subst hc1
  refine g_iload_n ok d_Pa_rootUp_12 rfl 2 rfl ?_
  refine g_callPS (As := [.int (iI y)]) (st := [.int (iI (if x < 0 then -x else x))]) ok (c_Ma_abs F G _ (by omega) s0 a0 D t ad) k_494 k_18 k_639 k_493 q_Ma_abs (by decide) (Nat.le_of_ble_eq_true rfl) (by decide) d_Pa_rootUp_13 (fun z2 hc2 => ?_)
  subst hc2
  refine g_iadd ok d_Pa_rootUp_16 ?_
  refine g_istore_n (lv' := [(3, .int (iI ((if x < 0 then -x else x) + (if y < 0 then -y else y)))), (2, .int (iI ((x * x) + (y * y)))), (0, .int (iI x)), (1, .int (iI y))]) ok d_Pa_rootUp_17 rfl (by decide) rfl ?_
  refine g_iload_n ok d_Pa_rootUp_18 rfl 2 rfl ?_
  refine g_callPS (As := [.int (iI x)]) (st := []) ok (c_Ma_abs F G _ (by omega) s0 a0 D t ad) k_494 k_18 k_639 k_493 q_Ma_abs (by decide) (Nat.le_of_ble_eq_true rfl) (by decide) d_Pa_rootUp_19 (fun z3 hc3 => ?_)
  subst hc3
  refine g_iload_n ok d_Pa_rootUp_22 rfl 3 rfl ?_
  refine g_callPS (As := [.int (iI y)]) (st := [.int (iI (if x < 0 then -x else x))]) ok (c_Ma_abs F G _ (by omega) s0 a0 D t ad) k_494 k_18 k_639 k_493 q_Ma_abs (by decide) (Nat.le_of_ble_eq_true rfl) (by decide) d_Pa_rootUp_23 (fun z4 hc4 => ?_)
  subst hc4
  refine g_callPS (As := [.int (iI (if x < 0 then -x else x)), .int (iI (if y < 0 then -y else y))]) (st := []) ok (c_Ma_max F G _ _ (by omega) (by omega) s0 a0 D t ad) k_414 k_18 k_640 k_413 q_Ma_max (by decide) (Nat.le_of_ble_eq_true rfl) (by decide) d_Pa_rootUp_26 (fun z5 hc5 => ?_)
  subst hc5
  refine g_istore (lv' := [(4, .int (iI (max (if x < 0 then -x else x) (if y < 0 then -y else y)))), (3, .int (iI ((if x < 0 then -x else x) + (if y < 0 then -y else y)))), (2, .int (iI ((x * x) + (y * y)))), (0, .int (iI x)), (1, .int (iI y))]) ok d_Pa_rootUp_29 (by decide) rfl ?_
  have L_r : ∀ (n_r : Nat) (r : Int), (0 ≤ r ∧ r ≤ (if x < 0 then -x else x) + (if y < 0 then -y else y) ∧ r ≤ 256) → (∀ q : Int, 0 ≤ q → q < r → q * q < x * x + y * y) → (300 - r) < (n_r : Int) → gW p l e R s m args below meth c (MQ below (gQp (fun r => isRoot (x * x + y * y) r)) args s 0 0 (fun _ => False)) D A 5 (gZ0 s) 0 0 ad 265 (mem ad t F G) 31 [(0, .int (iI x)), (1, .int (iI y)), (2, .int (iI ((x * x) + (y * y)))), (3, .int (iI ((if x < 0 then -x else x) + (if y < 0 then -y else y)))), (4, .int (iI r))] [] := by
    intro n_r
    induction n_r with
    | zero =>
      intro r hr ho hm_r
      exact absurd hm_r (by omega)
    | succ n_r ih_r =>
      intro r hr ho hm_r
      refine g_iload ok d_Pa_rootUp_31 4 rfl ?_
      refine g_iload_n ok d_Pa_rootUp_33 rfl 3 rfl ?_
      refine g_icmp_ge ok 55 d_Pa_rootUp_34 (by decide) (by omega) (by omega) (fun h6 => ?_) (fun h6 => ?_)
      · refine g_iload_n ok d_Pa_rootUp_55 rfl 3 rfl ?_
        exact g_ipret ok d_Pa_rootUp_56 (⟨by omega, root_b x y, fun q q1 q2 => ho q q1 (by omega)⟩)
      · have hrr := sq_mono hr.1 hr.2.2
        have hr0 := Int.mul_nonneg hr.1 hr.1
        refine g_iload ok d_Pa_rootUp_37 4 rfl ?_
        refine g_iload ok d_Pa_rootUp_39 4 rfl ?_
        refine g_imul ok d_Pa_rootUp_41 ?_
        refine g_iload_n ok d_Pa_rootUp_42 rfl 2 rfl ?_
        refine g_icmp_lt ok 49 d_Pa_rootUp_43 (by decide) (by omega) (by omega) (fun h7 => ?_) (fun h7 => ?_)
        · refine g_iinc (lv' := [(4, .int (iI (r + 1))), (0, .int (iI x)), (1, .int (iI y)), (2, .int (iI ((x * x) + (y * y)))), (3, .int (iI ((if x < 0 then -x else x) + (if y < 0 then -y else y))))]) ok d_Pa_rootUp_49 4 rfl (by decide) rfl ?_
          refine g_goto ok 31 d_Pa_rootUp_52 (by decide) ?_
          refine g_lv [1, 2, 3, 4, 0] rfl ?_
          exact ih_r (r + 1) (by omega) (fun q q1 q2 => (Int.lt_or_eq_of_le (show q ≤ r by omega)).elim (fun z => ho q q1 z) (fun z => by subst z; omega)) (by omega)
        · refine g_iload ok d_Pa_rootUp_46 4 rfl ?_
          exact g_ipret ok d_Pa_rootUp_48 (⟨by omega, by first | omega | exact (show r = (if x < 0 then -x else x) + (if y < 0 then -y else y) by omega) ▸ root_b x y, ho⟩)
  refine g_lv [3, 4, 2, 1, 0] rfl ?_
  exact L_r ((300 - (max (if x < 0 then -x else x) (if y < 0 then -y else y)) : Int).toNat + 1) (max (if x < 0 then -x else x) (if y < 0 then -y else y)) (by omega) (fun q q1 q2 => root_m ⟨q1, q2⟩) (by omega)
theorem d_Mo_rootUp_0 : decode b_Mo_rootUp 0 = .ok (.iconst 0, 1) := by decide +kernel
theorem d_Mo_rootUp_1 : decode b_Mo_rootUp 1 = .ok (.istore_n 1, 1) := by decide +kernel
theorem d_Mo_rootUp_2 : decode b_Mo_rootUp 2 = .ok (.iload_n 1, 1) := by decide +kernel
theorem d_Mo_rootUp_3 : decode b_Mo_rootUp 3 = .ok (.iload_n 1, 1) := by decide +kernel
theorem d_Mo_rootUp_4 : decode b_Mo_rootUp 4 = .ok (.imul, 1) := by decide +kernel
theorem d_Mo_rootUp_5 : decode b_Mo_rootUp 5 = .ok (.iload_n 0, 1) := by decide +kernel
theorem d_Mo_rootUp_6 : decode b_Mo_rootUp 6 = .ok (.if_icmp .ge 9, 3) := by decide +kernel
theorem d_Mo_rootUp_9 : decode b_Mo_rootUp 9 = .ok (.iinc 1 1, 3) := by decide +kernel
theorem d_Mo_rootUp_12 : decode b_Mo_rootUp 12 = .ok (.goto (-10), 3) := by decide +kernel
theorem d_Mo_rootUp_15 : decode b_Mo_rootUp 15 = .ok (.iload_n 1, 1) := by decide +kernel
theorem d_Mo_rootUp_16 : decode b_Mo_rootUp 16 = .ok (.ireturn, 1) := by decide +kernel
set_option maxHeartbeats 1000000 in
set_option maxRecDepth 100000 in
theorem c_Mo_rootUp (F : Nat → Nat → Int) (G : Nat → Int → Int) (v : Int) (hv : 0 ≤ v ∧ v ≤ 32768) : cP y_Mo_rootUp b_Mo_rootUp 2 (some .int) 0 0 F G (fun ad => [.int (iI v)]) (fun r => isRoot v r) := by
  intro s0 a0 D t ad
  refine g_startP (by decide +kernel) (Nat.le_of_ble_eq_true rfl) (fun p l e R s m args below meth c A ok => ?_)
  show gW p l e R s m args below meth c _ D A 2 (gZ0 s) 0 0 ad 265 (mem ad t F G) 0 [(0, .int (iI v))] []
  refine g_iconst ok d_Mo_rootUp_0 ?_
  refine g_istore_n (lv' := [(1, .int (iI 0)), (0, .int (iI v))]) ok d_Mo_rootUp_1 rfl (by decide) rfl ?_
  have L_r : ∀ (n_r : Nat) (r : Int), (0 ≤ r ∧ r ≤ 182) → (∀ q : Int, 0 ≤ q → q < r → q * q < v) → (200 - r) < (n_r : Int) → gW p l e R s m args below meth c (MQ below (gQp (fun r => isRoot v r)) args s 0 0 (fun _ => False)) D A 2 (gZ0 s) 0 0 ad 265 (mem ad t F G) 2 [(0, .int (iI v)), (1, .int (iI r))] [] := by
    intro n_r
    induction n_r with
    | zero =>
      intro r hr ho hm_r
      exact absurd hm_r (by omega)
    | succ n_r ih_r =>
      intro r hr ho hm_r
      refine g_iload_n ok d_Mo_rootUp_2 rfl 1 rfl ?_
      refine g_iload_n ok d_Mo_rootUp_3 rfl 1 rfl ?_
      have hrr := sq_mono hr.1 hr.2
      have hr0 := Int.mul_nonneg hr.1 hr.1
      refine g_imul ok d_Mo_rootUp_4 ?_
      refine g_iload_n ok d_Mo_rootUp_5 rfl 0 rfl ?_
      refine g_icmp_ge ok 15 d_Mo_rootUp_6 (by decide) (by omega) (by omega) (fun h1 => ?_) (fun h1 => ?_)
      · refine g_iload_n ok d_Mo_rootUp_15 rfl 1 rfl ?_
        exact g_ipret ok d_Mo_rootUp_16 (⟨hr.1, by omega, ho⟩)
      · refine g_iinc (lv' := [(1, .int (iI (r + 1))), (0, .int (iI v))]) ok d_Mo_rootUp_9 1 rfl (by decide) rfl ?_
        refine g_goto ok 2 d_Mo_rootUp_12 (by decide) ?_
        refine g_lv [1, 0] rfl ?_
        exact ih_r (r + 1) (by have := sq_lt (a := 181) (b := 182) (by decide) (by decide); rcases Int.lt_or_le r 182 with q | q; omega; have := sq_mono (a := 182) (by decide) q; omega) (fun q q1 q2 => (Int.lt_or_eq_of_le (show q ≤ r by omega)).elim (fun z => ho q q1 z) (fun z => by subst z; omega)) (by omega)
  refine g_lv [1, 0] rfl ?_
  exact L_r ((200 - 0 : Int).toNat + 1) 0 (by omega) (fun q q1 q2 => by omega) (by omega)
