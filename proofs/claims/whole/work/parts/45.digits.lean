theorem iI_remN {x y : Int} (hx : 0 ≤ x ∧ x < 2147483648) (hy : 0 < y ∧ y < 2147483648) : iI x - iI x / iI y * iI y = iI (x % y) := by
  rw [iI_rem (by omega) hy, Int.tmod_eq_emod_of_nonneg hx.1]
theorem iI_divN {x y : Int} (hx : 0 ≤ x ∧ x < 2147483648) (hy : 0 < y ∧ y < 2147483648) : iI x / iI y = iI (x / y) := by
  rw [iI_div (by omega) hy, Int.tdiv_eq_ediv_of_nonneg hx.1]
theorem nn {a : Int} {b : Int} (h : 0 ≤ a ∧ a < b) : 0 ≤ a ∧ a < b := h
theorem iI_orC {a b : Int} (k : Nat) (ha : 0 ≤ a) (hb : 0 ≤ b ∧ b < 2 ^ k) : iI b ||| iI (a * 2 ^ k) = iI (b + a * 2 ^ k) := by
  rw [Int32.or_comm, iI_or k ha hb, Int.add_comm]
theorem t3_mod (x : Int) : (x.tmod 3 + 3).tmod 3 = x % 3 := by
  rcases Int.lt_or_le x 0 with h | h
  · have e : x.tmod 3 = -((-x) % 3) := by
      rw [← Int.tmod_eq_emod_of_nonneg (by omega), Int.neg_tmod, Int.neg_neg]
    rw [e, Int.tmod_eq_emod_of_nonneg (by omega)]
    omega
  · rw [Int.tmod_eq_emod_of_nonneg h, Int.tmod_eq_emod_of_nonneg (by omega)]
    omega
theorem t3_rng (x : Int) : -3 < x.tmod 3 ∧ x.tmod 3 < 3 := by
  rcases Int.lt_or_le x 0 with h | h
  · have e : x.tmod 3 = -((-x) % 3) := by
      rw [← Int.tmod_eq_emod_of_nonneg (by omega), Int.neg_tmod, Int.neg_neg]
    omega
  · rw [Int.tmod_eq_emod_of_nonneg h]
    omega
theorem iI_t3 (x : Int) : iI (x.tmod 3 + 3) - iI (x.tmod 3 + 3) / iI 3 * iI 3 = iI (x % 3) := by
  have := t3_rng x
  rw [iI_rem (by omega) (by decide), t3_mod]
theorem iI_d3 {x : Int} (hx : -2147483648 ≤ x ∧ x < 2147483648) (h : x % 3 = 0) : iI x / iI 3 = iI (x / 3) := by
  rw [iI_div hx (by decide), Int.tdiv_eq_ediv_of_dvd (Int.dvd_of_emod_eq_zero h)]
/-- five digits to the base 3, two bits each: by the class's way, by the reference's -/
def dgC : Nat → Int → Int
  | 0, _ => 0
  | n + 1, r => (r % 3 + 2) % 3 + 4 * dgC n (r / 3)
def tv (d : Int) : Int := if d = 2 then -1 else d
def dgM : Nat → Int → Int
  | 0, _ => 0
  | n + 1, r => r % 3 + 4 * dgM n ((r - tv (r % 3)) / 3)
theorem dg_same : ∀ n : Fin 243, dgC 5 (n.val : Int) = dgM 5 ((n.val : Int) - 121) := by decide +kernel
theorem dg_eq {v : Int} (h : -121 ≤ v ∧ v ≤ 121) : dgM 5 v = dgC 5 (v + 121) := by
  have := dg_same ⟨(v + 121).toNat, by omega⟩
  have e : (((v + 121).toNat : Nat) : Int) = v + 121 := by omega
  rw [e, show v + 121 - 121 = v by omega] at this
  exact this.symm
theorem dgC_rng : ∀ n r, 0 ≤ r → 0 ≤ dgC n r ∧ dgC n r < 4 ^ n
  | 0, r, _ => by
    unfold dgC
    decide
  | n + 1, r, h => by
    have := dgC_rng n (r / 3) (by omega)
    have e : (4 : Int) ^ (n + 1) = 4 * 4 ^ n := by rw [Int.pow_succ, Int.mul_comm]
    unfold dgC
    rw [e]
    omega
theorem dgC_5 {r : Int} (h : 0 ≤ r) : 0 ≤ dgC 5 r ∧ dgC 5 r < 1024 := by
  have := dgC_rng 5 r h
  exact this
/-- the number of five digits, from the highest on -/
def numC (b : Int) : Int := (((tv (b / 256 % 4) * 3 + tv (b / 64 % 4)) * 3 + tv (b / 16 % 4)) * 3 + tv (b / 4 % 4)) * 3 + tv (b / 1 % 4)
def has3 (b : Int) : Prop := b / 1 % 4 = 3 ∨ b / 4 % 4 = 3 ∨ b / 16 % 4 = 3 ∨ b / 64 % 4 = 3 ∨ b / 256 % 4 = 3
theorem tv_2 {d : Int} (h : d = 2) : tv d = -1 := if_pos h
theorem tv_n {d : Int} (h : ¬ d = 2) : tv d = d := if_neg h
theorem tv_rng {d : Int} (h : 0 ≤ d ∧ d < 4) (h3 : ¬ d = 3) : -1 ≤ tv d ∧ tv d ≤ 1 := by
  unfold tv
  split <;> omega
theorem numC_rng {b : Int} (h : ¬ has3 b) : -121 ≤ numC b ∧ numC b ≤ 121 := by
  unfold has3 at h
  unfold numC
  have h0 := tv_rng (d := b / 1 % 4) (by omega) (by omega)
  have h1 := tv_rng (d := b / 4 % 4) (by omega) (by omega)
  have h2 := tv_rng (d := b / 16 % 4) (by omega) (by omega)
  have h3 := tv_rng (d := b / 64 % 4) (by omega) (by omega)
  have h4 := tv_rng (d := b / 256 % 4) (by omega) (by omega)
  omega
theorem d_Pa_digitsOf_0 : decode b_Pa_digitsOf 0 = .ok (.iload_n 0, 1) := by decide +kernel
theorem d_Pa_digitsOf_1 : decode b_Pa_digitsOf 1 = .ok (.bipush 121, 2) := by decide +kernel
theorem d_Pa_digitsOf_3 : decode b_Pa_digitsOf 3 = .ok (.iadd, 1) := by decide +kernel
theorem d_Pa_digitsOf_4 : decode b_Pa_digitsOf 4 = .ok (.istore_n 1, 1) := by decide +kernel
theorem d_Pa_digitsOf_5 : decode b_Pa_digitsOf 5 = .ok (.iconst 0, 1) := by decide +kernel
theorem d_Pa_digitsOf_6 : decode b_Pa_digitsOf 6 = .ok (.istore_n 2, 1) := by decide +kernel
theorem d_Pa_digitsOf_7 : decode b_Pa_digitsOf 7 = .ok (.iconst 0, 1) := by decide +kernel
theorem d_Pa_digitsOf_8 : decode b_Pa_digitsOf 8 = .ok (.istore_n 3, 1) := by decide +kernel
theorem d_Pa_digitsOf_9 : decode b_Pa_digitsOf 9 = .ok (.iload_n 3, 1) := by decide +kernel
theorem d_Pa_digitsOf_10 : decode b_Pa_digitsOf 10 = .ok (.iconst 5, 1) := by decide +kernel
theorem d_Pa_digitsOf_11 : decode b_Pa_digitsOf 11 = .ok (.if_icmp .ge 31, 3) := by decide +kernel
theorem d_Pa_digitsOf_14 : decode b_Pa_digitsOf 14 = .ok (.iload_n 1, 1) := by decide +kernel
theorem d_Pa_digitsOf_15 : decode b_Pa_digitsOf 15 = .ok (.iconst 3, 1) := by decide +kernel
theorem d_Pa_digitsOf_16 : decode b_Pa_digitsOf 16 = .ok (.irem, 1) := by decide +kernel
theorem d_Pa_digitsOf_17 : decode b_Pa_digitsOf 17 = .ok (.iconst 2, 1) := by decide +kernel
theorem d_Pa_digitsOf_18 : decode b_Pa_digitsOf 18 = .ok (.iadd, 1) := by decide +kernel
theorem d_Pa_digitsOf_19 : decode b_Pa_digitsOf 19 = .ok (.iconst 3, 1) := by decide +kernel
theorem d_Pa_digitsOf_20 : decode b_Pa_digitsOf 20 = .ok (.irem, 1) := by decide +kernel
theorem d_Pa_digitsOf_21 : decode b_Pa_digitsOf 21 = .ok (.istore 4, 2) := by decide +kernel
theorem d_Pa_digitsOf_23 : decode b_Pa_digitsOf 23 = .ok (.iload_n 2, 1) := by decide +kernel
theorem d_Pa_digitsOf_24 : decode b_Pa_digitsOf 24 = .ok (.iload 4, 2) := by decide +kernel
theorem d_Pa_digitsOf_26 : decode b_Pa_digitsOf 26 = .ok (.iconst 2, 1) := by decide +kernel
theorem d_Pa_digitsOf_27 : decode b_Pa_digitsOf 27 = .ok (.iload_n 3, 1) := by decide +kernel
theorem d_Pa_digitsOf_28 : decode b_Pa_digitsOf 28 = .ok (.imul, 1) := by decide +kernel
theorem d_Pa_digitsOf_29 : decode b_Pa_digitsOf 29 = .ok (.ishl, 1) := by decide +kernel
theorem d_Pa_digitsOf_30 : decode b_Pa_digitsOf 30 = .ok (.ior, 1) := by decide +kernel
theorem d_Pa_digitsOf_31 : decode b_Pa_digitsOf 31 = .ok (.istore_n 2, 1) := by decide +kernel
theorem d_Pa_digitsOf_32 : decode b_Pa_digitsOf 32 = .ok (.iload_n 1, 1) := by decide +kernel
theorem d_Pa_digitsOf_33 : decode b_Pa_digitsOf 33 = .ok (.iconst 3, 1) := by decide +kernel
theorem d_Pa_digitsOf_34 : decode b_Pa_digitsOf 34 = .ok (.idiv, 1) := by decide +kernel
theorem d_Pa_digitsOf_35 : decode b_Pa_digitsOf 35 = .ok (.istore_n 1, 1) := by decide +kernel
theorem d_Pa_digitsOf_36 : decode b_Pa_digitsOf 36 = .ok (.iinc 3 1, 3) := by decide +kernel
theorem d_Pa_digitsOf_39 : decode b_Pa_digitsOf 39 = .ok (.goto (-30), 3) := by decide +kernel
theorem d_Pa_digitsOf_42 : decode b_Pa_digitsOf 42 = .ok (.iload_n 2, 1) := by decide +kernel
theorem d_Pa_digitsOf_43 : decode b_Pa_digitsOf 43 = .ok (.ireturn, 1) := by decide +kernel
set_option maxHeartbeats 1000000 in
set_option maxRecDepth 100000 in
theorem c_Pa_digitsOf (F : Nat → Nat → Int) (G : Nat → Int → Int) (v : Int) (hv : -121 ≤ v ∧ v ≤ 121) : cP y_Pa_digitsOf b_Pa_digitsOf 5 (some .int) 0 0 F G (fun ad => [.int (iI v)]) (fun r => r = dgC 5 (v + 121)) := by
  intro s0 a0 D t ad
  refine g_startP (by decide +kernel) (Nat.le_of_ble_eq_true rfl) (fun p l e R s m args below meth c A ok => ?_)
  show gW p l e R s m args below meth c _ D A 5 (gZ0 s) 0 0 ad 265 (mem ad t F G) 0 [(0, .int (iI v))] []
  refine g_iload_n ok d_Pa_digitsOf_0 rfl 0 rfl ?_
  refine g_bipush ok (by decide) d_Pa_digitsOf_1 ?_
  refine g_iadd ok d_Pa_digitsOf_3 ?_
  refine g_istore_n (lv' := [(1, .int (iI (v + 121))), (0, .int (iI v))]) ok d_Pa_digitsOf_4 rfl (by decide) rfl ?_
  refine g_iconst ok d_Pa_digitsOf_5 ?_
  refine g_istore_n (lv' := [(2, .int (iI 0)), (1, .int (iI (v + 121))), (0, .int (iI v))]) ok d_Pa_digitsOf_6 rfl (by decide) rfl ?_
  refine g_iconst ok d_Pa_digitsOf_7 ?_
  refine g_istore_n (lv' := [(3, .int (iI 0)), (2, .int (iI 0)), (1, .int (iI (v + 121))), (0, .int (iI v))]) ok d_Pa_digitsOf_8 rfl (by decide) rfl ?_
  refine g_iload_n ok d_Pa_digitsOf_9 rfl 0 rfl ?_
  refine g_iconst ok d_Pa_digitsOf_10 ?_
  refine g_icmp_ge ok 42 d_Pa_digitsOf_11 (by decide) (by omega) (by omega) (fun h1 => ?_) (fun h1 => ?_)
  · exact absurd h1 (by decide)
  · refine g_iload_n ok d_Pa_digitsOf_14 rfl 2 rfl ?_
    refine g_iconst ok d_Pa_digitsOf_15 ?_
    refine g_irem (z := (v + 121) % 3) ok (iI_ne0 (by decide)) (iI_remN (by omega) (by decide)) d_Pa_digitsOf_16 ?_
    refine g_iconst ok d_Pa_digitsOf_17 ?_
    refine g_iadd ok d_Pa_digitsOf_18 ?_
    refine g_iconst ok d_Pa_digitsOf_19 ?_
    refine g_irem (z := (((v + 121) % 3) + 2) % 3) ok (iI_ne0 (by decide)) (iI_remN (by omega) (by decide)) d_Pa_digitsOf_20 ?_
    refine g_istore (lv' := [(4, .int (iI ((((v + 121) % 3) + 2) % 3))), (3, .int (iI 0)), (2, .int (iI 0)), (1, .int (iI (v + 121))), (0, .int (iI v))]) ok d_Pa_digitsOf_21 (by decide) rfl ?_
    refine g_iload_n ok d_Pa_digitsOf_23 rfl 2 rfl ?_
    refine g_iload ok d_Pa_digitsOf_24 0 rfl ?_
    refine g_iconst ok d_Pa_digitsOf_26 ?_
    refine g_iload_n ok d_Pa_digitsOf_27 rfl 1 rfl ?_
    refine g_imul ok d_Pa_digitsOf_28 ?_
    refine g_top (y := 0) rfl ?_
    refine g_ishl (z := ((((v + 121) % 3) + 2) % 3) * 1) ok (iI_shl 0 (by decide) (by omega) (by omega) rfl) d_Pa_digitsOf_29 ?_
    refine g_ior (z := 0 + (((((v + 121) % 3) + 2) % 3) * 1)) ok (iI_orC (a := (((v + 121) % 3) + 2) % 3) (b := 0) 0 (by omega) (by omega)) d_Pa_digitsOf_30 ?_
    refine g_istore_n (lv' := [(2, .int (iI (0 + (((((v + 121) % 3) + 2) % 3) * 1)))), (4, .int (iI ((((v + 121) % 3) + 2) % 3))), (3, .int (iI 0)), (1, .int (iI (v + 121))), (0, .int (iI v))]) ok d_Pa_digitsOf_31 rfl (by decide) rfl ?_
    refine g_iload_n ok d_Pa_digitsOf_32 rfl 3 rfl ?_
    refine g_iconst ok d_Pa_digitsOf_33 ?_
    refine g_idiv (z := (v + 121) / 3) ok (iI_ne0 (by decide)) (iI_divN (by omega) (by decide)) d_Pa_digitsOf_34 ?_
    refine g_istore_n (lv' := [(1, .int (iI ((v + 121) / 3))), (2, .int (iI (0 + (((((v + 121) % 3) + 2) % 3) * 1)))), (4, .int (iI ((((v + 121) % 3) + 2) % 3))), (3, .int (iI 0)), (0, .int (iI v))]) ok d_Pa_digitsOf_35 rfl (by decide) rfl ?_
    refine g_iinc (lv' := [(3, .int (iI 1)), (1, .int (iI ((v + 121) / 3))), (2, .int (iI (0 + (((((v + 121) % 3) + 2) % 3) * 1)))), (4, .int (iI ((((v + 121) % 3) + 2) % 3))), (0, .int (iI v))]) ok d_Pa_digitsOf_36 3 rfl (by decide) rfl ?_
    refine g_goto ok 9 d_Pa_digitsOf_39 (by decide) ?_
    refine g_iload_n ok d_Pa_digitsOf_9 rfl 0 rfl ?_
    refine g_iconst ok d_Pa_digitsOf_10 ?_
    refine g_icmp_ge ok 42 d_Pa_digitsOf_11 (by decide) (by omega) (by omega) (fun h2 => ?_) (fun h2 => ?_)
    · exact absurd h2 (by decide)
    · refine g_iload_n ok d_Pa_digitsOf_14 rfl 1 rfl ?_
      refine g_iconst ok d_Pa_digitsOf_15 ?_
      refine g_irem (z := ((v + 121) / 3) % 3) ok (iI_ne0 (by decide)) (iI_remN (by omega) (by decide)) d_Pa_digitsOf_16 ?_
      refine g_iconst ok d_Pa_digitsOf_17 ?_
      refine g_iadd ok d_Pa_digitsOf_18 ?_
      refine g_iconst ok d_Pa_digitsOf_19 ?_
      refine g_irem (z := ((((v + 121) / 3) % 3) + 2) % 3) ok (iI_ne0 (by decide)) (iI_remN (by omega) (by decide)) d_Pa_digitsOf_20 ?_
      refine g_istore (lv' := [(4, .int (iI (((((v + 121) / 3) % 3) + 2) % 3))), (3, .int (iI 1)), (1, .int (iI ((v + 121) / 3))), (2, .int (iI (0 + (((((v + 121) % 3) + 2) % 3) * 1)))), (0, .int (iI v))]) ok d_Pa_digitsOf_21 (by decide) rfl ?_
      refine g_iload_n ok d_Pa_digitsOf_23 rfl 3 rfl ?_
      refine g_iload ok d_Pa_digitsOf_24 0 rfl ?_
      refine g_iconst ok d_Pa_digitsOf_26 ?_
      refine g_iload_n ok d_Pa_digitsOf_27 rfl 1 rfl ?_
      refine g_imul ok d_Pa_digitsOf_28 ?_
      refine g_top (y := 2) rfl ?_
      refine g_ishl (z := (((((v + 121) / 3) % 3) + 2) % 3) * 4) ok (iI_shl 2 (by decide) (by omega) (by omega) rfl) d_Pa_digitsOf_29 ?_
      refine g_ior (z := (0 + (((((v + 121) % 3) + 2) % 3) * 1)) + ((((((v + 121) / 3) % 3) + 2) % 3) * 4)) ok (iI_orC (a := ((((v + 121) / 3) % 3) + 2) % 3) (b := 0 + (((((v + 121) % 3) + 2) % 3) * 1)) 2 (by omega) (by omega)) d_Pa_digitsOf_30 ?_
      refine g_istore_n (lv' := [(2, .int (iI ((0 + (((((v + 121) % 3) + 2) % 3) * 1)) + ((((((v + 121) / 3) % 3) + 2) % 3) * 4)))), (4, .int (iI (((((v + 121) / 3) % 3) + 2) % 3))), (3, .int (iI 1)), (1, .int (iI ((v + 121) / 3))), (0, .int (iI v))]) ok d_Pa_digitsOf_31 rfl (by decide) rfl ?_
      refine g_iload_n ok d_Pa_digitsOf_32 rfl 3 rfl ?_
      refine g_iconst ok d_Pa_digitsOf_33 ?_
      refine g_idiv (z := ((v + 121) / 3) / 3) ok (iI_ne0 (by decide)) (iI_divN (by omega) (by decide)) d_Pa_digitsOf_34 ?_
      refine g_istore_n (lv' := [(1, .int (iI (((v + 121) / 3) / 3))), (2, .int (iI ((0 + (((((v + 121) % 3) + 2) % 3) * 1)) + ((((((v + 121) / 3) % 3) + 2) % 3) * 4)))), (4, .int (iI (((((v + 121) / 3) % 3) + 2) % 3))), (3, .int (iI 1)), (0, .int (iI v))]) ok d_Pa_digitsOf_35 rfl (by decide) rfl ?_
      refine g_iinc (lv' := [(3, .int (iI 2)), (1, .int (iI (((v + 121) / 3) / 3))), (2, .int (iI ((0 + (((((v + 121) % 3) + 2) % 3) * 1)) + ((((((v + 121) / 3) % 3) + 2) % 3) * 4)))), (4, .int (iI (((((v + 121) / 3) % 3) + 2) % 3))), (0, .int (iI v))]) ok d_Pa_digitsOf_36 3 rfl (by decide) rfl ?_
      refine g_goto ok 9 d_Pa_digitsOf_39 (by decide) ?_
      refine g_iload_n ok d_Pa_digitsOf_9 rfl 0 rfl ?_
      refine g_iconst ok d_Pa_digitsOf_10 ?_
      refine g_icmp_ge ok 42 d_Pa_digitsOf_11 (by decide) (by omega) (by omega) (fun h3 => ?_) (fun h3 => ?_)
      · exact absurd h3 (by decide)
      · refine g_iload_n ok d_Pa_digitsOf_14 rfl 1 rfl ?_
        refine g_iconst ok d_Pa_digitsOf_15 ?_
        refine g_irem (z := (((v + 121) / 3) / 3) % 3) ok (iI_ne0 (by decide)) (iI_remN (by omega) (by decide)) d_Pa_digitsOf_16 ?_
        refine g_iconst ok d_Pa_digitsOf_17 ?_
        refine g_iadd ok d_Pa_digitsOf_18 ?_
        refine g_iconst ok d_Pa_digitsOf_19 ?_
        refine g_irem (z := (((((v + 121) / 3) / 3) % 3) + 2) % 3) ok (iI_ne0 (by decide)) (iI_remN (by omega) (by decide)) d_Pa_digitsOf_20 ?_
        refine g_istore (lv' := [(4, .int (iI ((((((v + 121) / 3) / 3) % 3) + 2) % 3))), (3, .int (iI 2)), (1, .int (iI (((v + 121) / 3) / 3))), (2, .int (iI ((0 + (((((v + 121) % 3) + 2) % 3) * 1)) + ((((((v + 121) / 3) % 3) + 2) % 3) * 4)))), (0, .int (iI v))]) ok d_Pa_digitsOf_21 (by decide) rfl ?_
        refine g_iload_n ok d_Pa_digitsOf_23 rfl 3 rfl ?_
        refine g_iload ok d_Pa_digitsOf_24 0 rfl ?_
        refine g_iconst ok d_Pa_digitsOf_26 ?_
        refine g_iload_n ok d_Pa_digitsOf_27 rfl 1 rfl ?_
        refine g_imul ok d_Pa_digitsOf_28 ?_
        refine g_top (y := 4) rfl ?_
        refine g_ishl (z := ((((((v + 121) / 3) / 3) % 3) + 2) % 3) * 16) ok (iI_shl 4 (by decide) (by omega) (by omega) rfl) d_Pa_digitsOf_29 ?_
        refine g_ior (z := ((0 + (((((v + 121) % 3) + 2) % 3) * 1)) + ((((((v + 121) / 3) % 3) + 2) % 3) * 4)) + (((((((v + 121) / 3) / 3) % 3) + 2) % 3) * 16)) ok (iI_orC (a := (((((v + 121) / 3) / 3) % 3) + 2) % 3) (b := (0 + (((((v + 121) % 3) + 2) % 3) * 1)) + ((((((v + 121) / 3) % 3) + 2) % 3) * 4)) 4 (by omega) (by omega)) d_Pa_digitsOf_30 ?_
        refine g_istore_n (lv' := [(2, .int (iI (((0 + (((((v + 121) % 3) + 2) % 3) * 1)) + ((((((v + 121) / 3) % 3) + 2) % 3) * 4)) + (((((((v + 121) / 3) / 3) % 3) + 2) % 3) * 16)))), (4, .int (iI ((((((v + 121) / 3) / 3) % 3) + 2) % 3))), (3, .int (iI 2)), (1, .int (iI (((v + 121) / 3) / 3))), (0, .int (iI v))]) ok d_Pa_digitsOf_31 rfl (by decide) rfl ?_
        refine g_iload_n ok d_Pa_digitsOf_32 rfl 3 rfl ?_
        refine g_iconst ok d_Pa_digitsOf_33 ?_
        refine g_idiv (z := (((v + 121) / 3) / 3) / 3) ok (iI_ne0 (by decide)) (iI_divN (by omega) (by decide)) d_Pa_digitsOf_34 ?_
        refine g_istore_n (lv' := [(1, .int (iI ((((v + 121) / 3) / 3) / 3))), (2, .int (iI (((0 + (((((v + 121) % 3) + 2) % 3) * 1)) + ((((((v + 121) / 3) % 3) + 2) % 3) * 4)) + (((((((v + 121) / 3) / 3) % 3) + 2) % 3) * 16)))), (4, .int (iI ((((((v + 121) / 3) / 3) % 3) + 2) % 3))), (3, .int (iI 2)), (0, .int (iI v))]) ok d_Pa_digitsOf_35 rfl (by decide) rfl ?_
        refine g_iinc (lv' := [(3, .int (iI 3)), (1, .int (iI ((((v + 121) / 3) / 3) / 3))), (2, .int (iI (((0 + (((((v + 121) % 3) + 2) % 3) * 1)) + ((((((v + 121) / 3) % 3) + 2) % 3) * 4)) + (((((((v + 121) / 3) / 3) % 3) + 2) % 3) * 16)))), (4, .int (iI ((((((v + 121) / 3) / 3) % 3) + 2) % 3))), (0, .int (iI v))]) ok d_Pa_digitsOf_36 3 rfl (by decide) rfl ?_
        refine g_goto ok 9 d_Pa_digitsOf_39 (by decide) ?_
        refine g_iload_n ok d_Pa_digitsOf_9 rfl 0 rfl ?_
        refine g_iconst ok d_Pa_digitsOf_10 ?_
        refine g_icmp_ge ok 42 d_Pa_digitsOf_11 (by decide) (by omega) (by omega) (fun h4 => ?_) (fun h4 => ?_)
        · exact absurd h4 (by decide)
        · refine g_iload_n ok d_Pa_digitsOf_14 rfl 1 rfl ?_
          refine g_iconst ok d_Pa_digitsOf_15 ?_
          refine g_irem (z := ((((v + 121) / 3) / 3) / 3) % 3) ok (iI_ne0 (by decide)) (iI_remN (by omega) (by decide)) d_Pa_digitsOf_16 ?_
          refine g_iconst ok d_Pa_digitsOf_17 ?_
          refine g_iadd ok d_Pa_digitsOf_18 ?_
          refine g_iconst ok d_Pa_digitsOf_19 ?_
          refine g_irem (z := ((((((v + 121) / 3) / 3) / 3) % 3) + 2) % 3) ok (iI_ne0 (by decide)) (iI_remN (by omega) (by decide)) d_Pa_digitsOf_20 ?_
          refine g_istore (lv' := [(4, .int (iI (((((((v + 121) / 3) / 3) / 3) % 3) + 2) % 3))), (3, .int (iI 3)), (1, .int (iI ((((v + 121) / 3) / 3) / 3))), (2, .int (iI (((0 + (((((v + 121) % 3) + 2) % 3) * 1)) + ((((((v + 121) / 3) % 3) + 2) % 3) * 4)) + (((((((v + 121) / 3) / 3) % 3) + 2) % 3) * 16)))), (0, .int (iI v))]) ok d_Pa_digitsOf_21 (by decide) rfl ?_
          refine g_iload_n ok d_Pa_digitsOf_23 rfl 3 rfl ?_
          refine g_iload ok d_Pa_digitsOf_24 0 rfl ?_
          refine g_iconst ok d_Pa_digitsOf_26 ?_
          refine g_iload_n ok d_Pa_digitsOf_27 rfl 1 rfl ?_
          refine g_imul ok d_Pa_digitsOf_28 ?_
          refine g_top (y := 6) rfl ?_
          refine g_ishl (z := (((((((v + 121) / 3) / 3) / 3) % 3) + 2) % 3) * 64) ok (iI_shl 6 (by decide) (by omega) (by omega) rfl) d_Pa_digitsOf_29 ?_
          refine g_ior (z := (((0 + (((((v + 121) % 3) + 2) % 3) * 1)) + ((((((v + 121) / 3) % 3) + 2) % 3) * 4)) + (((((((v + 121) / 3) / 3) % 3) + 2) % 3) * 16)) + ((((((((v + 121) / 3) / 3) / 3) % 3) + 2) % 3) * 64)) ok (iI_orC (a := ((((((v + 121) / 3) / 3) / 3) % 3) + 2) % 3) (b := ((0 + (((((v + 121) % 3) + 2) % 3) * 1)) + ((((((v + 121) / 3) % 3) + 2) % 3) * 4)) + (((((((v + 121) / 3) / 3) % 3) + 2) % 3) * 16)) 6 (by omega) (by omega)) d_Pa_digitsOf_30 ?_
          refine g_istore_n (lv' := [(2, .int (iI ((((0 + (((((v + 121) % 3) + 2) % 3) * 1)) + ((((((v + 121) / 3) % 3) + 2) % 3) * 4)) + (((((((v + 121) / 3) / 3) % 3) + 2) % 3) * 16)) + ((((((((v + 121) / 3) / 3) / 3) % 3) + 2) % 3) * 64)))), (4, .int (iI (((((((v + 121) / 3) / 3) / 3) % 3) + 2) % 3))), (3, .int (iI 3)), (1, .int (iI ((((v + 121) / 3) / 3) / 3))), (0, .int (iI v))]) ok d_Pa_digitsOf_31 rfl (by decide) rfl ?_
          refine g_iload_n ok d_Pa_digitsOf_32 rfl 3 rfl ?_
          refine g_iconst ok d_Pa_digitsOf_33 ?_
          refine g_idiv (z := ((((v + 121) / 3) / 3) / 3) / 3) ok (iI_ne0 (by decide)) (iI_divN (by omega) (by decide)) d_Pa_digitsOf_34 ?_
          refine g_istore_n (lv' := [(1, .int (iI (((((v + 121) / 3) / 3) / 3) / 3))), (2, .int (iI ((((0 + (((((v + 121) % 3) + 2) % 3) * 1)) + ((((((v + 121) / 3) % 3) + 2) % 3) * 4)) + (((((((v + 121) / 3) / 3) % 3) + 2) % 3) * 16)) + ((((((((v + 121) / 3) / 3) / 3) % 3) + 2) % 3) * 64)))), (4, .int (iI (((((((v + 121) / 3) / 3) / 3) % 3) + 2) % 3))), (3, .int (iI 3)), (0, .int (iI v))]) ok d_Pa_digitsOf_35 rfl (by decide) rfl ?_
          refine g_iinc (lv' := [(3, .int (iI 4)), (1, .int (iI (((((v + 121) / 3) / 3) / 3) / 3))), (2, .int (iI ((((0 + (((((v + 121) % 3) + 2) % 3) * 1)) + ((((((v + 121) / 3) % 3) + 2) % 3) * 4)) + (((((((v + 121) / 3) / 3) % 3) + 2) % 3) * 16)) + ((((((((v + 121) / 3) / 3) / 3) % 3) + 2) % 3) * 64)))), (4, .int (iI (((((((v + 121) / 3) / 3) / 3) % 3) + 2) % 3))), (0, .int (iI v))]) ok d_Pa_digitsOf_36 3 rfl (by decide) rfl ?_
          refine g_goto ok 9 d_Pa_digitsOf_39 (by decide) ?_
          refine g_iload_n ok d_Pa_digitsOf_9 rfl 0 rfl ?_
          refine g_iconst ok d_Pa_digitsOf_10 ?_
          refine g_icmp_ge ok 42 d_Pa_digitsOf_11 (by decide) (by omega) (by omega) (fun h5 => ?_) (fun h5 => ?_)
          · exact absurd h5 (by decide)
          · refine g_iload_n ok d_Pa_digitsOf_14 rfl 1 rfl ?_
            refine g_iconst ok d_Pa_digitsOf_15 ?_
            refine g_irem (z := (((((v + 121) / 3) / 3) / 3) / 3) % 3) ok (iI_ne0 (by decide)) (iI_remN (by omega) (by decide)) d_Pa_digitsOf_16 ?_
            refine g_iconst ok d_Pa_digitsOf_17 ?_
            refine g_iadd ok d_Pa_digitsOf_18 ?_
            refine g_iconst ok d_Pa_digitsOf_19 ?_
            refine g_irem (z := (((((((v + 121) / 3) / 3) / 3) / 3) % 3) + 2) % 3) ok (iI_ne0 (by decide)) (iI_remN (by omega) (by decide)) d_Pa_digitsOf_20 ?_
            refine g_istore (lv' := [(4, .int (iI ((((((((v + 121) / 3) / 3) / 3) / 3) % 3) + 2) % 3))), (3, .int (iI 4)), (1, .int (iI (((((v + 121) / 3) / 3) / 3) / 3))), (2, .int (iI ((((0 + (((((v + 121) % 3) + 2) % 3) * 1)) + ((((((v + 121) / 3) % 3) + 2) % 3) * 4)) + (((((((v + 121) / 3) / 3) % 3) + 2) % 3) * 16)) + ((((((((v + 121) / 3) / 3) / 3) % 3) + 2) % 3) * 64)))), (0, .int (iI v))]) ok d_Pa_digitsOf_21 (by decide) rfl ?_
            refine g_iload_n ok d_Pa_digitsOf_23 rfl 3 rfl ?_
            refine g_iload ok d_Pa_digitsOf_24 0 rfl ?_
            refine g_iconst ok d_Pa_digitsOf_26 ?_
            refine g_iload_n ok d_Pa_digitsOf_27 rfl 1 rfl ?_
            refine g_imul ok d_Pa_digitsOf_28 ?_
            refine g_top (y := 8) rfl ?_
            refine g_ishl (z := ((((((((v + 121) / 3) / 3) / 3) / 3) % 3) + 2) % 3) * 256) ok (iI_shl 8 (by decide) (by omega) (by omega) rfl) d_Pa_digitsOf_29 ?_
            refine g_ior (z := ((((0 + (((((v + 121) % 3) + 2) % 3) * 1)) + ((((((v + 121) / 3) % 3) + 2) % 3) * 4)) + (((((((v + 121) / 3) / 3) % 3) + 2) % 3) * 16)) + ((((((((v + 121) / 3) / 3) / 3) % 3) + 2) % 3) * 64)) + (((((((((v + 121) / 3) / 3) / 3) / 3) % 3) + 2) % 3) * 256)) ok (iI_orC (a := (((((((v + 121) / 3) / 3) / 3) / 3) % 3) + 2) % 3) (b := (((0 + (((((v + 121) % 3) + 2) % 3) * 1)) + ((((((v + 121) / 3) % 3) + 2) % 3) * 4)) + (((((((v + 121) / 3) / 3) % 3) + 2) % 3) * 16)) + ((((((((v + 121) / 3) / 3) / 3) % 3) + 2) % 3) * 64)) 8 (by omega) (by omega)) d_Pa_digitsOf_30 ?_
            refine g_istore_n (lv' := [(2, .int (iI (((((0 + (((((v + 121) % 3) + 2) % 3) * 1)) + ((((((v + 121) / 3) % 3) + 2) % 3) * 4)) + (((((((v + 121) / 3) / 3) % 3) + 2) % 3) * 16)) + ((((((((v + 121) / 3) / 3) / 3) % 3) + 2) % 3) * 64)) + (((((((((v + 121) / 3) / 3) / 3) / 3) % 3) + 2) % 3) * 256)))), (4, .int (iI ((((((((v + 121) / 3) / 3) / 3) / 3) % 3) + 2) % 3))), (3, .int (iI 4)), (1, .int (iI (((((v + 121) / 3) / 3) / 3) / 3))), (0, .int (iI v))]) ok d_Pa_digitsOf_31 rfl (by decide) rfl ?_
            refine g_iload_n ok d_Pa_digitsOf_32 rfl 3 rfl ?_
            refine g_iconst ok d_Pa_digitsOf_33 ?_
            refine g_idiv (z := (((((v + 121) / 3) / 3) / 3) / 3) / 3) ok (iI_ne0 (by decide)) (iI_divN (by omega) (by decide)) d_Pa_digitsOf_34 ?_
            refine g_istore_n (lv' := [(1, .int (iI ((((((v + 121) / 3) / 3) / 3) / 3) / 3))), (2, .int (iI (((((0 + (((((v + 121) % 3) + 2) % 3) * 1)) + ((((((v + 121) / 3) % 3) + 2) % 3) * 4)) + (((((((v + 121) / 3) / 3) % 3) + 2) % 3) * 16)) + ((((((((v + 121) / 3) / 3) / 3) % 3) + 2) % 3) * 64)) + (((((((((v + 121) / 3) / 3) / 3) / 3) % 3) + 2) % 3) * 256)))), (4, .int (iI ((((((((v + 121) / 3) / 3) / 3) / 3) % 3) + 2) % 3))), (3, .int (iI 4)), (0, .int (iI v))]) ok d_Pa_digitsOf_35 rfl (by decide) rfl ?_
            refine g_iinc (lv' := [(3, .int (iI 5)), (1, .int (iI ((((((v + 121) / 3) / 3) / 3) / 3) / 3))), (2, .int (iI (((((0 + (((((v + 121) % 3) + 2) % 3) * 1)) + ((((((v + 121) / 3) % 3) + 2) % 3) * 4)) + (((((((v + 121) / 3) / 3) % 3) + 2) % 3) * 16)) + ((((((((v + 121) / 3) / 3) / 3) % 3) + 2) % 3) * 64)) + (((((((((v + 121) / 3) / 3) / 3) / 3) % 3) + 2) % 3) * 256)))), (4, .int (iI ((((((((v + 121) / 3) / 3) / 3) / 3) % 3) + 2) % 3))), (0, .int (iI v))]) ok d_Pa_digitsOf_36 3 rfl (by decide) rfl ?_
            refine g_goto ok 9 d_Pa_digitsOf_39 (by decide) ?_
            refine g_iload_n ok d_Pa_digitsOf_9 rfl 0 rfl ?_
            refine g_iconst ok d_Pa_digitsOf_10 ?_
            refine g_icmp_ge ok 42 d_Pa_digitsOf_11 (by decide) (by omega) (by omega) (fun h6 => ?_) (fun h6 => ?_)
            · refine g_iload_n ok d_Pa_digitsOf_42 rfl 2 rfl ?_
              exact g_ipret ok d_Pa_digitsOf_43 (by simp only [dgC]; omega)
            · exact absurd h6 (by decide)
theorem d_Pa_numberOf_0 : decode b_Pa_numberOf 0 = .ok (.iconst 0, 1) := by decide +kernel
theorem d_Pa_numberOf_1 : decode b_Pa_numberOf 1 = .ok (.istore_n 1, 1) := by decide +kernel
theorem d_Pa_numberOf_2 : decode b_Pa_numberOf 2 = .ok (.iconst 4, 1) := by decide +kernel
theorem d_Pa_numberOf_3 : decode b_Pa_numberOf 3 = .ok (.istore_n 2, 1) := by decide +kernel
theorem d_Pa_numberOf_4 : decode b_Pa_numberOf 4 = .ok (.iload_n 2, 1) := by decide +kernel
theorem d_Pa_numberOf_5 : decode b_Pa_numberOf 5 = .ok (.ifCond .lt 32, 3) := by decide +kernel
theorem d_Pa_numberOf_8 : decode b_Pa_numberOf 8 = .ok (.iload_n 0, 1) := by decide +kernel
theorem d_Pa_numberOf_9 : decode b_Pa_numberOf 9 = .ok (.iconst 2, 1) := by decide +kernel
theorem d_Pa_numberOf_10 : decode b_Pa_numberOf 10 = .ok (.iload_n 2, 1) := by decide +kernel
theorem d_Pa_numberOf_11 : decode b_Pa_numberOf 11 = .ok (.imul, 1) := by decide +kernel
theorem d_Pa_numberOf_12 : decode b_Pa_numberOf 12 = .ok (.ishr, 1) := by decide +kernel
theorem d_Pa_numberOf_13 : decode b_Pa_numberOf 13 = .ok (.iconst 3, 1) := by decide +kernel
theorem d_Pa_numberOf_14 : decode b_Pa_numberOf 14 = .ok (.iand, 1) := by decide +kernel
theorem d_Pa_numberOf_15 : decode b_Pa_numberOf 15 = .ok (.istore_n 3, 1) := by decide +kernel
theorem d_Pa_numberOf_16 : decode b_Pa_numberOf 16 = .ok (.iload_n 1, 1) := by decide +kernel
theorem d_Pa_numberOf_17 : decode b_Pa_numberOf 17 = .ok (.iconst 3, 1) := by decide +kernel
theorem d_Pa_numberOf_18 : decode b_Pa_numberOf 18 = .ok (.imul, 1) := by decide +kernel
theorem d_Pa_numberOf_19 : decode b_Pa_numberOf 19 = .ok (.iload_n 3, 1) := by decide +kernel
theorem d_Pa_numberOf_20 : decode b_Pa_numberOf 20 = .ok (.iconst 2, 1) := by decide +kernel
theorem d_Pa_numberOf_21 : decode b_Pa_numberOf 21 = .ok (.if_icmp .ne 7, 3) := by decide +kernel
theorem d_Pa_numberOf_24 : decode b_Pa_numberOf 24 = .ok (.iconst (-1), 1) := by decide +kernel
theorem d_Pa_numberOf_25 : decode b_Pa_numberOf 25 = .ok (.goto 4, 3) := by decide +kernel
theorem d_Pa_numberOf_28 : decode b_Pa_numberOf 28 = .ok (.iload_n 3, 1) := by decide +kernel
theorem d_Pa_numberOf_29 : decode b_Pa_numberOf 29 = .ok (.iadd, 1) := by decide +kernel
theorem d_Pa_numberOf_30 : decode b_Pa_numberOf 30 = .ok (.istore_n 1, 1) := by decide +kernel
theorem d_Pa_numberOf_31 : decode b_Pa_numberOf 31 = .ok (.iinc 2 (-1), 3) := by decide +kernel
theorem d_Pa_numberOf_34 : decode b_Pa_numberOf 34 = .ok (.goto (-30), 3) := by decide +kernel
theorem d_Pa_numberOf_37 : decode b_Pa_numberOf 37 = .ok (.iload_n 1, 1) := by decide +kernel
theorem d_Pa_numberOf_38 : decode b_Pa_numberOf 38 = .ok (.ireturn, 1) := by decide +kernel
set_option maxHeartbeats 1000000 in
set_option maxRecDepth 100000 in
theorem c_Pa_numberOf (F : Nat → Nat → Int) (G : Nat → Int → Int) (b0 : Int) (hb0 : 0 ≤ b0 ∧ b0 < 1024) : cP y_Pa_numberOf b_Pa_numberOf 4 (some .int) 0 0 F G (fun ad => [.int (iI b0)]) (fun r => r = numC b0) := by
  intro s0 a0 D t ad
  refine g_startP (by decide +kernel) (Nat.le_of_ble_eq_true rfl) (fun p l e R s m args below meth c A ok => ?_)
  show gW p l e R s m args below meth c _ D A 4 (gZ0 s) 0 0 ad 265 (mem ad t F G) 0 [(0, .int (iI b0))] []
  refine g_iconst ok d_Pa_numberOf_0 ?_
  refine g_istore_n (lv' := [(1, .int (iI 0)), (0, .int (iI b0))]) ok d_Pa_numberOf_1 rfl (by decide) rfl ?_
  refine g_iconst ok d_Pa_numberOf_2 ?_
  refine g_istore_n (lv' := [(2, .int (iI 4)), (1, .int (iI 0)), (0, .int (iI b0))]) ok d_Pa_numberOf_3 rfl (by decide) rfl ?_
  refine g_iload_n ok d_Pa_numberOf_4 rfl 0 rfl ?_
  refine g_if_lt ok 37 d_Pa_numberOf_5 (by decide) (by omega) (fun h1 => ?_) (fun h1 => ?_)
  · exact absurd h1 (by decide)
  · refine g_iload_n ok d_Pa_numberOf_8 rfl 2 rfl ?_
    refine g_iconst ok d_Pa_numberOf_9 ?_
    refine g_iload_n ok d_Pa_numberOf_10 rfl 0 rfl ?_
    refine g_imul ok d_Pa_numberOf_11 ?_
    refine g_top (y := 8) rfl ?_
    refine g_ishr (z := b0 / 256) ok (iI_shr 8 (by decide) (by omega) rfl) d_Pa_numberOf_12 ?_
    refine g_iconst ok d_Pa_numberOf_13 ?_
    refine g_iand (z := (b0 / 256) % 4) ok (iI_mask 2 (by omega) rfl (by decide)) d_Pa_numberOf_14 ?_
    refine g_istore_n (lv' := [(3, .int (iI ((b0 / 256) % 4))), (2, .int (iI 4)), (1, .int (iI 0)), (0, .int (iI b0))]) ok d_Pa_numberOf_15 rfl (by decide) rfl ?_
    refine g_iload_n ok d_Pa_numberOf_16 rfl 2 rfl ?_
    refine g_iconst ok d_Pa_numberOf_17 ?_
    refine g_imul ok d_Pa_numberOf_18 ?_
    refine g_top (y := 0) rfl ?_
    have J_29 : ∀ (b1 : Int), (b1 = tv ((b0 / 256) % 4)) → gW p l e R s m args below meth c (MQ below (gQp (fun r => r = numC b0)) args s 0 0 (fun _ => False)) D A 4 (gZ0 s) 0 0 ad 265 (mem ad t F G) 29 [(3, .int (iI ((b0 / 256) % 4))), (2, .int (iI 4)), (1, .int (iI 0)), (0, .int (iI b0))] [.int (iI b1), .int (iI 0)] := by
      intro b1 hb1
      have hrb1 : -1 ≤ b1 ∧ b1 ≤ 3 := by rw [hb1]; unfold tv; split <;> omega
      refine g_iadd ok d_Pa_numberOf_29 ?_
      refine g_istore_n (lv' := [(1, .int (iI (0 + b1))), (3, .int (iI ((b0 / 256) % 4))), (2, .int (iI 4)), (0, .int (iI b0))]) ok d_Pa_numberOf_30 rfl (by decide) rfl ?_
      refine g_iinc (lv' := [(2, .int (iI 3)), (1, .int (iI (0 + b1))), (3, .int (iI ((b0 / 256) % 4))), (0, .int (iI b0))]) ok d_Pa_numberOf_31 2 rfl (by decide) rfl ?_
      refine g_goto ok 4 d_Pa_numberOf_34 (by decide) ?_
      refine g_iload_n ok d_Pa_numberOf_4 rfl 0 rfl ?_
      refine g_if_lt ok 37 d_Pa_numberOf_5 (by decide) (by omega) (fun h2 => ?_) (fun h2 => ?_)
      · exact absurd h2 (by decide)
      · refine g_iload_n ok d_Pa_numberOf_8 rfl 3 rfl ?_
        refine g_iconst ok d_Pa_numberOf_9 ?_
        refine g_iload_n ok d_Pa_numberOf_10 rfl 0 rfl ?_
        refine g_imul ok d_Pa_numberOf_11 ?_
        refine g_top (y := 6) rfl ?_
        refine g_ishr (z := b0 / 64) ok (iI_shr 6 (by decide) (by omega) rfl) d_Pa_numberOf_12 ?_
        refine g_iconst ok d_Pa_numberOf_13 ?_
        refine g_iand (z := (b0 / 64) % 4) ok (iI_mask 2 (by omega) rfl (by decide)) d_Pa_numberOf_14 ?_
        refine g_istore_n (lv' := [(3, .int (iI ((b0 / 64) % 4))), (2, .int (iI 3)), (1, .int (iI (0 + b1))), (0, .int (iI b0))]) ok d_Pa_numberOf_15 rfl (by decide) rfl ?_
        refine g_iload_n ok d_Pa_numberOf_16 rfl 2 rfl ?_
        refine g_iconst ok d_Pa_numberOf_17 ?_
        refine g_imul ok d_Pa_numberOf_18 ?_
        have J_29 : ∀ (b2 : Int), (b2 = tv ((b0 / 64) % 4)) → gW p l e R s m args below meth c (MQ below (gQp (fun r => r = numC b0)) args s 0 0 (fun _ => False)) D A 4 (gZ0 s) 0 0 ad 265 (mem ad t F G) 29 [(3, .int (iI ((b0 / 64) % 4))), (2, .int (iI 3)), (1, .int (iI (0 + b1))), (0, .int (iI b0))] [.int (iI b2), .int (iI ((0 + b1) * 3))] := by
          intro b2 hb2
          have hrb2 : -1 ≤ b2 ∧ b2 ≤ 3 := by rw [hb2]; unfold tv; split <;> omega
          refine g_iadd ok d_Pa_numberOf_29 ?_
          refine g_istore_n (lv' := [(1, .int (iI (((0 + b1) * 3) + b2))), (3, .int (iI ((b0 / 64) % 4))), (2, .int (iI 3)), (0, .int (iI b0))]) ok d_Pa_numberOf_30 rfl (by decide) rfl ?_
          refine g_iinc (lv' := [(2, .int (iI 2)), (1, .int (iI (((0 + b1) * 3) + b2))), (3, .int (iI ((b0 / 64) % 4))), (0, .int (iI b0))]) ok d_Pa_numberOf_31 2 rfl (by decide) rfl ?_
          refine g_goto ok 4 d_Pa_numberOf_34 (by decide) ?_
          refine g_iload_n ok d_Pa_numberOf_4 rfl 0 rfl ?_
          refine g_if_lt ok 37 d_Pa_numberOf_5 (by decide) (by omega) (fun h3 => ?_) (fun h3 => ?_)
          · exact absurd h3 (by decide)
          · refine g_iload_n ok d_Pa_numberOf_8 rfl 3 rfl ?_
            refine g_iconst ok d_Pa_numberOf_9 ?_
            refine g_iload_n ok d_Pa_numberOf_10 rfl 0 rfl ?_
            refine g_imul ok d_Pa_numberOf_11 ?_
            refine g_top (y := 4) rfl ?_
            refine g_ishr (z := b0 / 16) ok (iI_shr 4 (by decide) (by omega) rfl) d_Pa_numberOf_12 ?_
            refine g_iconst ok d_Pa_numberOf_13 ?_
            refine g_iand (z := (b0 / 16) % 4) ok (iI_mask 2 (by omega) rfl (by decide)) d_Pa_numberOf_14 ?_
            refine g_istore_n (lv' := [(3, .int (iI ((b0 / 16) % 4))), (2, .int (iI 2)), (1, .int (iI (((0 + b1) * 3) + b2))), (0, .int (iI b0))]) ok d_Pa_numberOf_15 rfl (by decide) rfl ?_
            refine g_iload_n ok d_Pa_numberOf_16 rfl 2 rfl ?_
            refine g_iconst ok d_Pa_numberOf_17 ?_
            refine g_imul ok d_Pa_numberOf_18 ?_
            have J_29 : ∀ (b3 : Int), (b3 = tv ((b0 / 16) % 4)) → gW p l e R s m args below meth c (MQ below (gQp (fun r => r = numC b0)) args s 0 0 (fun _ => False)) D A 4 (gZ0 s) 0 0 ad 265 (mem ad t F G) 29 [(3, .int (iI ((b0 / 16) % 4))), (2, .int (iI 2)), (1, .int (iI (((0 + b1) * 3) + b2))), (0, .int (iI b0))] [.int (iI b3), .int (iI ((((0 + b1) * 3) + b2) * 3))] := by
              intro b3 hb3
              have hrb3 : -1 ≤ b3 ∧ b3 ≤ 3 := by rw [hb3]; unfold tv; split <;> omega
              refine g_iadd ok d_Pa_numberOf_29 ?_
              refine g_istore_n (lv' := [(1, .int (iI (((((0 + b1) * 3) + b2) * 3) + b3))), (3, .int (iI ((b0 / 16) % 4))), (2, .int (iI 2)), (0, .int (iI b0))]) ok d_Pa_numberOf_30 rfl (by decide) rfl ?_
              refine g_iinc (lv' := [(2, .int (iI 1)), (1, .int (iI (((((0 + b1) * 3) + b2) * 3) + b3))), (3, .int (iI ((b0 / 16) % 4))), (0, .int (iI b0))]) ok d_Pa_numberOf_31 2 rfl (by decide) rfl ?_
              refine g_goto ok 4 d_Pa_numberOf_34 (by decide) ?_
              refine g_iload_n ok d_Pa_numberOf_4 rfl 0 rfl ?_
              refine g_if_lt ok 37 d_Pa_numberOf_5 (by decide) (by omega) (fun h4 => ?_) (fun h4 => ?_)
              · exact absurd h4 (by decide)
              · refine g_iload_n ok d_Pa_numberOf_8 rfl 3 rfl ?_
                refine g_iconst ok d_Pa_numberOf_9 ?_
                refine g_iload_n ok d_Pa_numberOf_10 rfl 0 rfl ?_
                refine g_imul ok d_Pa_numberOf_11 ?_
                refine g_top (y := 2) rfl ?_
                refine g_ishr (z := b0 / 4) ok (iI_shr 2 (by decide) (by omega) rfl) d_Pa_numberOf_12 ?_
                refine g_iconst ok d_Pa_numberOf_13 ?_
                refine g_iand (z := (b0 / 4) % 4) ok (iI_mask 2 (by omega) rfl (by decide)) d_Pa_numberOf_14 ?_
                refine g_istore_n (lv' := [(3, .int (iI ((b0 / 4) % 4))), (2, .int (iI 1)), (1, .int (iI (((((0 + b1) * 3) + b2) * 3) + b3))), (0, .int (iI b0))]) ok d_Pa_numberOf_15 rfl (by decide) rfl ?_
                refine g_iload_n ok d_Pa_numberOf_16 rfl 2 rfl ?_
                refine g_iconst ok d_Pa_numberOf_17 ?_
                refine g_imul ok d_Pa_numberOf_18 ?_
                have J_29 : ∀ (b4 : Int), (b4 = tv ((b0 / 4) % 4)) → gW p l e R s m args below meth c (MQ below (gQp (fun r => r = numC b0)) args s 0 0 (fun _ => False)) D A 4 (gZ0 s) 0 0 ad 265 (mem ad t F G) 29 [(3, .int (iI ((b0 / 4) % 4))), (2, .int (iI 1)), (1, .int (iI (((((0 + b1) * 3) + b2) * 3) + b3))), (0, .int (iI b0))] [.int (iI b4), .int (iI ((((((0 + b1) * 3) + b2) * 3) + b3) * 3))] := by
                  intro b4 hb4
                  have hrb4 : -1 ≤ b4 ∧ b4 ≤ 3 := by rw [hb4]; unfold tv; split <;> omega
                  refine g_iadd ok d_Pa_numberOf_29 ?_
                  refine g_istore_n (lv' := [(1, .int (iI (((((((0 + b1) * 3) + b2) * 3) + b3) * 3) + b4))), (3, .int (iI ((b0 / 4) % 4))), (2, .int (iI 1)), (0, .int (iI b0))]) ok d_Pa_numberOf_30 rfl (by decide) rfl ?_
                  refine g_iinc (lv' := [(2, .int (iI 0)), (1, .int (iI (((((((0 + b1) * 3) + b2) * 3) + b3) * 3) + b4))), (3, .int (iI ((b0 / 4) % 4))), (0, .int (iI b0))]) ok d_Pa_numberOf_31 2 rfl (by decide) rfl ?_
                  refine g_goto ok 4 d_Pa_numberOf_34 (by decide) ?_
                  refine g_iload_n ok d_Pa_numberOf_4 rfl 0 rfl ?_
                  refine g_if_lt ok 37 d_Pa_numberOf_5 (by decide) (by omega) (fun h5 => ?_) (fun h5 => ?_)
                  · exact absurd h5 (by decide)
                  · refine g_iload_n ok d_Pa_numberOf_8 rfl 3 rfl ?_
                    refine g_iconst ok d_Pa_numberOf_9 ?_
                    refine g_iload_n ok d_Pa_numberOf_10 rfl 0 rfl ?_
                    refine g_imul ok d_Pa_numberOf_11 ?_
                    refine g_top (y := 0) rfl ?_
                    refine g_ishr (z := b0 / 1) ok (iI_shr 0 (by decide) (by omega) rfl) d_Pa_numberOf_12 ?_
                    refine g_iconst ok d_Pa_numberOf_13 ?_
                    refine g_iand (z := (b0 / 1) % 4) ok (iI_mask 2 (by omega) rfl (by decide)) d_Pa_numberOf_14 ?_
                    refine g_istore_n (lv' := [(3, .int (iI ((b0 / 1) % 4))), (2, .int (iI 0)), (1, .int (iI (((((((0 + b1) * 3) + b2) * 3) + b3) * 3) + b4))), (0, .int (iI b0))]) ok d_Pa_numberOf_15 rfl (by decide) rfl ?_
                    refine g_iload_n ok d_Pa_numberOf_16 rfl 2 rfl ?_
                    refine g_iconst ok d_Pa_numberOf_17 ?_
                    refine g_imul ok d_Pa_numberOf_18 ?_
                    have J_29 : ∀ (b5 : Int), (b5 = tv ((b0 / 1) % 4)) → gW p l e R s m args below meth c (MQ below (gQp (fun r => r = numC b0)) args s 0 0 (fun _ => False)) D A 4 (gZ0 s) 0 0 ad 265 (mem ad t F G) 29 [(3, .int (iI ((b0 / 1) % 4))), (2, .int (iI 0)), (1, .int (iI (((((((0 + b1) * 3) + b2) * 3) + b3) * 3) + b4))), (0, .int (iI b0))] [.int (iI b5), .int (iI ((((((((0 + b1) * 3) + b2) * 3) + b3) * 3) + b4) * 3))] := by
                      intro b5 hb5
                      have hrb5 : -1 ≤ b5 ∧ b5 ≤ 3 := by rw [hb5]; unfold tv; split <;> omega
                      refine g_iadd ok d_Pa_numberOf_29 ?_
                      refine g_istore_n (lv' := [(1, .int (iI (((((((((0 + b1) * 3) + b2) * 3) + b3) * 3) + b4) * 3) + b5))), (3, .int (iI ((b0 / 1) % 4))), (2, .int (iI 0)), (0, .int (iI b0))]) ok d_Pa_numberOf_30 rfl (by decide) rfl ?_
                      refine g_iinc (lv' := [(2, .int (iI (-1))), (1, .int (iI (((((((((0 + b1) * 3) + b2) * 3) + b3) * 3) + b4) * 3) + b5))), (3, .int (iI ((b0 / 1) % 4))), (0, .int (iI b0))]) ok d_Pa_numberOf_31 2 rfl (by decide) rfl ?_
                      refine g_goto ok 4 d_Pa_numberOf_34 (by decide) ?_
                      refine g_iload_n ok d_Pa_numberOf_4 rfl 0 rfl ?_
                      refine g_if_lt ok 37 d_Pa_numberOf_5 (by decide) (by omega) (fun h6 => ?_) (fun h6 => ?_)
                      · refine g_iload_n ok d_Pa_numberOf_37 rfl 1 rfl ?_
                        exact g_ipret ok d_Pa_numberOf_38 (by unfold numC; omega)
                      · exact absurd h6 (by decide)
                    refine g_iload_n ok d_Pa_numberOf_19 rfl 0 rfl ?_
                    refine g_iconst ok d_Pa_numberOf_20 ?_
                    refine g_icmp_ne ok 28 d_Pa_numberOf_21 (by decide) (by omega) (by omega) (fun h7 => ?_) (fun h7 => ?_)
                    · refine g_iload_n ok d_Pa_numberOf_28 rfl 0 rfl ?_
                      exact J_29 ((b0 / 1) % 4) ((tv_n (by omega)).symm)
                    · refine g_iconst ok d_Pa_numberOf_24 ?_
                      refine g_goto ok 29 d_Pa_numberOf_25 (by decide) ?_
                      exact J_29 (-1) ((tv_2 (by omega)).symm)
                refine g_iload_n ok d_Pa_numberOf_19 rfl 0 rfl ?_
                refine g_iconst ok d_Pa_numberOf_20 ?_
                refine g_icmp_ne ok 28 d_Pa_numberOf_21 (by decide) (by omega) (by omega) (fun h8 => ?_) (fun h8 => ?_)
                · refine g_iload_n ok d_Pa_numberOf_28 rfl 0 rfl ?_
                  exact J_29 ((b0 / 4) % 4) ((tv_n (by omega)).symm)
                · refine g_iconst ok d_Pa_numberOf_24 ?_
                  refine g_goto ok 29 d_Pa_numberOf_25 (by decide) ?_
                  exact J_29 (-1) ((tv_2 (by omega)).symm)
            refine g_iload_n ok d_Pa_numberOf_19 rfl 0 rfl ?_
            refine g_iconst ok d_Pa_numberOf_20 ?_
            refine g_icmp_ne ok 28 d_Pa_numberOf_21 (by decide) (by omega) (by omega) (fun h9 => ?_) (fun h9 => ?_)
            · refine g_iload_n ok d_Pa_numberOf_28 rfl 0 rfl ?_
              exact J_29 ((b0 / 16) % 4) ((tv_n (by omega)).symm)
            · refine g_iconst ok d_Pa_numberOf_24 ?_
              refine g_goto ok 29 d_Pa_numberOf_25 (by decide) ?_
              exact J_29 (-1) ((tv_2 (by omega)).symm)
        refine g_iload_n ok d_Pa_numberOf_19 rfl 0 rfl ?_
        refine g_iconst ok d_Pa_numberOf_20 ?_
        refine g_icmp_ne ok 28 d_Pa_numberOf_21 (by decide) (by omega) (by omega) (fun h10 => ?_) (fun h10 => ?_)
        · refine g_iload_n ok d_Pa_numberOf_28 rfl 0 rfl ?_
          exact J_29 ((b0 / 64) % 4) ((tv_n (by omega)).symm)
        · refine g_iconst ok d_Pa_numberOf_24 ?_
          refine g_goto ok 29 d_Pa_numberOf_25 (by decide) ?_
          exact J_29 (-1) ((tv_2 (by omega)).symm)
    refine g_iload_n ok d_Pa_numberOf_19 rfl 0 rfl ?_
    refine g_iconst ok d_Pa_numberOf_20 ?_
    refine g_icmp_ne ok 28 d_Pa_numberOf_21 (by decide) (by omega) (by omega) (fun h11 => ?_) (fun h11 => ?_)
    · refine g_iload_n ok d_Pa_numberOf_28 rfl 0 rfl ?_
      exact J_29 ((b0 / 256) % 4) ((tv_n (by omega)).symm)
    · refine g_iconst ok d_Pa_numberOf_24 ?_
      refine g_goto ok 29 d_Pa_numberOf_25 (by decide) ?_
      exact J_29 (-1) ((tv_2 (by omega)).symm)
theorem d_Mo_digits_0 : decode b_Mo_digits 0 = .ok (.iload_n 0, 1) := by decide +kernel
theorem d_Mo_digits_1 : decode b_Mo_digits 1 = .ok (.istore_n 1, 1) := by decide +kernel
theorem d_Mo_digits_2 : decode b_Mo_digits 2 = .ok (.iconst 0, 1) := by decide +kernel
theorem d_Mo_digits_3 : decode b_Mo_digits 3 = .ok (.istore_n 2, 1) := by decide +kernel
theorem d_Mo_digits_4 : decode b_Mo_digits 4 = .ok (.iconst 0, 1) := by decide +kernel
theorem d_Mo_digits_5 : decode b_Mo_digits 5 = .ok (.istore_n 3, 1) := by decide +kernel
theorem d_Mo_digits_6 : decode b_Mo_digits 6 = .ok (.iload_n 3, 1) := by decide +kernel
theorem d_Mo_digits_7 : decode b_Mo_digits 7 = .ok (.iconst 5, 1) := by decide +kernel
theorem d_Mo_digits_8 : decode b_Mo_digits 8 = .ok (.if_icmp .ge 44, 3) := by decide +kernel
theorem d_Mo_digits_11 : decode b_Mo_digits 11 = .ok (.iload_n 1, 1) := by decide +kernel
theorem d_Mo_digits_12 : decode b_Mo_digits 12 = .ok (.iconst 3, 1) := by decide +kernel
theorem d_Mo_digits_13 : decode b_Mo_digits 13 = .ok (.irem, 1) := by decide +kernel
theorem d_Mo_digits_14 : decode b_Mo_digits 14 = .ok (.iconst 3, 1) := by decide +kernel
theorem d_Mo_digits_15 : decode b_Mo_digits 15 = .ok (.iadd, 1) := by decide +kernel
theorem d_Mo_digits_16 : decode b_Mo_digits 16 = .ok (.iconst 3, 1) := by decide +kernel
theorem d_Mo_digits_17 : decode b_Mo_digits 17 = .ok (.irem, 1) := by decide +kernel
theorem d_Mo_digits_18 : decode b_Mo_digits 18 = .ok (.istore 4, 2) := by decide +kernel
theorem d_Mo_digits_20 : decode b_Mo_digits 20 = .ok (.iload_n 2, 1) := by decide +kernel
theorem d_Mo_digits_21 : decode b_Mo_digits 21 = .ok (.iload 4, 2) := by decide +kernel
theorem d_Mo_digits_23 : decode b_Mo_digits 23 = .ok (.iconst 2, 1) := by decide +kernel
theorem d_Mo_digits_24 : decode b_Mo_digits 24 = .ok (.iload_n 3, 1) := by decide +kernel
theorem d_Mo_digits_25 : decode b_Mo_digits 25 = .ok (.imul, 1) := by decide +kernel
theorem d_Mo_digits_26 : decode b_Mo_digits 26 = .ok (.ishl, 1) := by decide +kernel
theorem d_Mo_digits_27 : decode b_Mo_digits 27 = .ok (.ior, 1) := by decide +kernel
theorem d_Mo_digits_28 : decode b_Mo_digits 28 = .ok (.istore_n 2, 1) := by decide +kernel
theorem d_Mo_digits_29 : decode b_Mo_digits 29 = .ok (.iload_n 1, 1) := by decide +kernel
theorem d_Mo_digits_30 : decode b_Mo_digits 30 = .ok (.iload 4, 2) := by decide +kernel
theorem d_Mo_digits_32 : decode b_Mo_digits 32 = .ok (.iconst 2, 1) := by decide +kernel
theorem d_Mo_digits_33 : decode b_Mo_digits 33 = .ok (.if_icmp .ne 7, 3) := by decide +kernel
theorem d_Mo_digits_36 : decode b_Mo_digits 36 = .ok (.iconst (-1), 1) := by decide +kernel
theorem d_Mo_digits_37 : decode b_Mo_digits 37 = .ok (.goto 5, 3) := by decide +kernel
theorem d_Mo_digits_40 : decode b_Mo_digits 40 = .ok (.iload 4, 2) := by decide +kernel
theorem d_Mo_digits_42 : decode b_Mo_digits 42 = .ok (.isub, 1) := by decide +kernel
theorem d_Mo_digits_43 : decode b_Mo_digits 43 = .ok (.iconst 3, 1) := by decide +kernel
theorem d_Mo_digits_44 : decode b_Mo_digits 44 = .ok (.idiv, 1) := by decide +kernel
theorem d_Mo_digits_45 : decode b_Mo_digits 45 = .ok (.istore_n 1, 1) := by decide +kernel
theorem d_Mo_digits_46 : decode b_Mo_digits 46 = .ok (.iinc 3 1, 3) := by decide +kernel
theorem d_Mo_digits_49 : decode b_Mo_digits 49 = .ok (.goto (-43), 3) := by decide +kernel
theorem d_Mo_digits_52 : decode b_Mo_digits 52 = .ok (.iload_n 2, 1) := by decide +kernel
theorem d_Mo_digits_53 : decode b_Mo_digits 53 = .ok (.ireturn, 1) := by decide +kernel
set_option maxHeartbeats 1000000 in
set_option maxRecDepth 100000 in
theorem c_Mo_digits (F : Nat → Nat → Int) (G : Nat → Int → Int) (v : Int) (hv : -121 ≤ v ∧ v ≤ 121) : cP y_Mo_digits b_Mo_digits 5 (some .int) 0 0 F G (fun ad => [.int (iI v)]) (fun r => r = dgM 5 v) := by
  intro s0 a0 D t ad
  refine g_startP (by decide +kernel) (Nat.le_of_ble_eq_true rfl) (fun p l e R s m args below meth c A ok => ?_)
  show gW p l e R s m args below meth c _ D A 5 (gZ0 s) 0 0 ad 265 (mem ad t F G) 0 [(0, .int (iI v))] []
  refine g_iload_n ok d_Mo_digits_0 rfl 0 rfl ?_
  refine g_istore_n (lv' := [(1, .int (iI v)), (0, .int (iI v))]) ok d_Mo_digits_1 rfl (by decide) rfl ?_
  refine g_iconst ok d_Mo_digits_2 ?_
  refine g_istore_n (lv' := [(2, .int (iI 0)), (1, .int (iI v)), (0, .int (iI v))]) ok d_Mo_digits_3 rfl (by decide) rfl ?_
  refine g_iconst ok d_Mo_digits_4 ?_
  refine g_istore_n (lv' := [(3, .int (iI 0)), (2, .int (iI 0)), (1, .int (iI v)), (0, .int (iI v))]) ok d_Mo_digits_5 rfl (by decide) rfl ?_
  refine g_iload_n ok d_Mo_digits_6 rfl 0 rfl ?_
  refine g_iconst ok d_Mo_digits_7 ?_
  refine g_icmp_ge ok 52 d_Mo_digits_8 (by decide) (by omega) (by omega) (fun h1 => ?_) (fun h1 => ?_)
  · exact absurd h1 (by decide)
  · refine g_iload_n ok d_Mo_digits_11 rfl 2 rfl ?_
    refine g_iconst ok d_Mo_digits_12 ?_
    refine g_irem (z := v.tmod 3) ok (iI_ne0 (by decide)) (iI_rem (by omega) (by decide)) d_Mo_digits_13 ?_
    refine g_iconst ok d_Mo_digits_14 ?_
    refine g_iadd ok d_Mo_digits_15 ?_
    refine g_iconst ok d_Mo_digits_16 ?_
    refine g_irem (z := v % 3) ok (iI_ne0 (by decide)) (iI_t3 _) d_Mo_digits_17 ?_
    refine g_istore (lv' := [(4, .int (iI (v % 3))), (3, .int (iI 0)), (2, .int (iI 0)), (1, .int (iI v)), (0, .int (iI v))]) ok d_Mo_digits_18 (by decide) rfl ?_
    refine g_iload_n ok d_Mo_digits_20 rfl 2 rfl ?_
    refine g_iload ok d_Mo_digits_21 0 rfl ?_
    refine g_iconst ok d_Mo_digits_23 ?_
    refine g_iload_n ok d_Mo_digits_24 rfl 1 rfl ?_
    refine g_imul ok d_Mo_digits_25 ?_
    refine g_top (y := 0) rfl ?_
    refine g_ishl (z := (v % 3) * 1) ok (iI_shl 0 (by decide) (by omega) (by omega) rfl) d_Mo_digits_26 ?_
    refine g_ior (z := 0 + ((v % 3) * 1)) ok (iI_orC (a := v % 3) (b := 0) 0 (by omega) (by omega)) d_Mo_digits_27 ?_
    refine g_istore_n (lv' := [(2, .int (iI (0 + ((v % 3) * 1)))), (4, .int (iI (v % 3))), (3, .int (iI 0)), (1, .int (iI v)), (0, .int (iI v))]) ok d_Mo_digits_28 rfl (by decide) rfl ?_
    refine g_iload_n ok d_Mo_digits_29 rfl 3 rfl ?_
    have J_42 : ∀ (b1 : Int), (b1 = tv (v % 3)) → gW p l e R s m args below meth c (MQ below (gQp (fun r => r = dgM 5 v)) args s 0 0 (fun _ => False)) D A 5 (gZ0 s) 0 0 ad 265 (mem ad t F G) 42 [(2, .int (iI (0 + ((v % 3) * 1)))), (4, .int (iI (v % 3))), (3, .int (iI 0)), (1, .int (iI v)), (0, .int (iI v))] [.int (iI b1), .int (iI v)] := by
      intro b1 hb1
      have hrb1 : (v % 3 = 2 ∧ b1 = -1) ∨ (¬ v % 3 = 2 ∧ b1 = v % 3) := by rw [hb1]; unfold tv; split <;> omega
      refine g_isub ok d_Mo_digits_42 ?_
      refine g_iconst ok d_Mo_digits_43 ?_
      refine g_idiv (z := (v - b1) / 3) ok (iI_ne0 (by decide)) (iI_d3 (by omega) (by omega)) d_Mo_digits_44 ?_
      refine g_istore_n (lv' := [(1, .int (iI ((v - b1) / 3))), (2, .int (iI (0 + ((v % 3) * 1)))), (4, .int (iI (v % 3))), (3, .int (iI 0)), (0, .int (iI v))]) ok d_Mo_digits_45 rfl (by decide) rfl ?_
      refine g_iinc (lv' := [(3, .int (iI 1)), (1, .int (iI ((v - b1) / 3))), (2, .int (iI (0 + ((v % 3) * 1)))), (4, .int (iI (v % 3))), (0, .int (iI v))]) ok d_Mo_digits_46 3 rfl (by decide) rfl ?_
      refine g_goto ok 6 d_Mo_digits_49 (by decide) ?_
      refine g_iload_n ok d_Mo_digits_6 rfl 0 rfl ?_
      refine g_iconst ok d_Mo_digits_7 ?_
      refine g_icmp_ge ok 52 d_Mo_digits_8 (by decide) (by omega) (by omega) (fun h2 => ?_) (fun h2 => ?_)
      · exact absurd h2 (by decide)
      · refine g_iload_n ok d_Mo_digits_11 rfl 1 rfl ?_
        refine g_iconst ok d_Mo_digits_12 ?_
        refine g_irem (z := ((v - b1) / 3).tmod 3) ok (iI_ne0 (by decide)) (iI_rem (by omega) (by decide)) d_Mo_digits_13 ?_
        refine g_iconst ok d_Mo_digits_14 ?_
        refine g_iadd ok d_Mo_digits_15 ?_
        refine g_iconst ok d_Mo_digits_16 ?_
        refine g_irem (z := ((v - b1) / 3) % 3) ok (iI_ne0 (by decide)) (iI_t3 _) d_Mo_digits_17 ?_
        refine g_istore (lv' := [(4, .int (iI (((v - b1) / 3) % 3))), (3, .int (iI 1)), (1, .int (iI ((v - b1) / 3))), (2, .int (iI (0 + ((v % 3) * 1)))), (0, .int (iI v))]) ok d_Mo_digits_18 (by decide) rfl ?_
        refine g_iload_n ok d_Mo_digits_20 rfl 3 rfl ?_
        refine g_iload ok d_Mo_digits_21 0 rfl ?_
        refine g_iconst ok d_Mo_digits_23 ?_
        refine g_iload_n ok d_Mo_digits_24 rfl 1 rfl ?_
        refine g_imul ok d_Mo_digits_25 ?_
        refine g_top (y := 2) rfl ?_
        refine g_ishl (z := (((v - b1) / 3) % 3) * 4) ok (iI_shl 2 (by decide) (by omega) (by omega) rfl) d_Mo_digits_26 ?_
        refine g_ior (z := (0 + ((v % 3) * 1)) + ((((v - b1) / 3) % 3) * 4)) ok (iI_orC (a := ((v - b1) / 3) % 3) (b := 0 + ((v % 3) * 1)) 2 (by omega) (by omega)) d_Mo_digits_27 ?_
        refine g_istore_n (lv' := [(2, .int (iI ((0 + ((v % 3) * 1)) + ((((v - b1) / 3) % 3) * 4)))), (4, .int (iI (((v - b1) / 3) % 3))), (3, .int (iI 1)), (1, .int (iI ((v - b1) / 3))), (0, .int (iI v))]) ok d_Mo_digits_28 rfl (by decide) rfl ?_
        refine g_iload_n ok d_Mo_digits_29 rfl 3 rfl ?_
        have J_42 : ∀ (b2 : Int), (b2 = tv (((v - b1) / 3) % 3)) → gW p l e R s m args below meth c (MQ below (gQp (fun r => r = dgM 5 v)) args s 0 0 (fun _ => False)) D A 5 (gZ0 s) 0 0 ad 265 (mem ad t F G) 42 [(2, .int (iI ((0 + ((v % 3) * 1)) + ((((v - b1) / 3) % 3) * 4)))), (4, .int (iI (((v - b1) / 3) % 3))), (3, .int (iI 1)), (1, .int (iI ((v - b1) / 3))), (0, .int (iI v))] [.int (iI b2), .int (iI ((v - b1) / 3))] := by
          intro b2 hb2
          have hrb2 : (((v - b1) / 3) % 3 = 2 ∧ b2 = -1) ∨ (¬ ((v - b1) / 3) % 3 = 2 ∧ b2 = ((v - b1) / 3) % 3) := by rw [hb2]; unfold tv; split <;> omega
          refine g_isub ok d_Mo_digits_42 ?_
          refine g_iconst ok d_Mo_digits_43 ?_
          refine g_idiv (z := (((v - b1) / 3) - b2) / 3) ok (iI_ne0 (by decide)) (iI_d3 (by omega) (by omega)) d_Mo_digits_44 ?_
          refine g_istore_n (lv' := [(1, .int (iI ((((v - b1) / 3) - b2) / 3))), (2, .int (iI ((0 + ((v % 3) * 1)) + ((((v - b1) / 3) % 3) * 4)))), (4, .int (iI (((v - b1) / 3) % 3))), (3, .int (iI 1)), (0, .int (iI v))]) ok d_Mo_digits_45 rfl (by decide) rfl ?_
          refine g_iinc (lv' := [(3, .int (iI 2)), (1, .int (iI ((((v - b1) / 3) - b2) / 3))), (2, .int (iI ((0 + ((v % 3) * 1)) + ((((v - b1) / 3) % 3) * 4)))), (4, .int (iI (((v - b1) / 3) % 3))), (0, .int (iI v))]) ok d_Mo_digits_46 3 rfl (by decide) rfl ?_
          refine g_goto ok 6 d_Mo_digits_49 (by decide) ?_
          refine g_iload_n ok d_Mo_digits_6 rfl 0 rfl ?_
          refine g_iconst ok d_Mo_digits_7 ?_
          refine g_icmp_ge ok 52 d_Mo_digits_8 (by decide) (by omega) (by omega) (fun h3 => ?_) (fun h3 => ?_)
          · exact absurd h3 (by decide)
          · refine g_iload_n ok d_Mo_digits_11 rfl 1 rfl ?_
            refine g_iconst ok d_Mo_digits_12 ?_
            refine g_irem (z := ((((v - b1) / 3) - b2) / 3).tmod 3) ok (iI_ne0 (by decide)) (iI_rem (by omega) (by decide)) d_Mo_digits_13 ?_
            refine g_iconst ok d_Mo_digits_14 ?_
            refine g_iadd ok d_Mo_digits_15 ?_
            refine g_iconst ok d_Mo_digits_16 ?_
            refine g_irem (z := ((((v - b1) / 3) - b2) / 3) % 3) ok (iI_ne0 (by decide)) (iI_t3 _) d_Mo_digits_17 ?_
            refine g_istore (lv' := [(4, .int (iI (((((v - b1) / 3) - b2) / 3) % 3))), (3, .int (iI 2)), (1, .int (iI ((((v - b1) / 3) - b2) / 3))), (2, .int (iI ((0 + ((v % 3) * 1)) + ((((v - b1) / 3) % 3) * 4)))), (0, .int (iI v))]) ok d_Mo_digits_18 (by decide) rfl ?_
            refine g_iload_n ok d_Mo_digits_20 rfl 3 rfl ?_
            refine g_iload ok d_Mo_digits_21 0 rfl ?_
            refine g_iconst ok d_Mo_digits_23 ?_
            refine g_iload_n ok d_Mo_digits_24 rfl 1 rfl ?_
            refine g_imul ok d_Mo_digits_25 ?_
            refine g_top (y := 4) rfl ?_
            refine g_ishl (z := (((((v - b1) / 3) - b2) / 3) % 3) * 16) ok (iI_shl 4 (by decide) (by omega) (by omega) rfl) d_Mo_digits_26 ?_
            refine g_ior (z := ((0 + ((v % 3) * 1)) + ((((v - b1) / 3) % 3) * 4)) + ((((((v - b1) / 3) - b2) / 3) % 3) * 16)) ok (iI_orC (a := ((((v - b1) / 3) - b2) / 3) % 3) (b := (0 + ((v % 3) * 1)) + ((((v - b1) / 3) % 3) * 4)) 4 (by omega) (by omega)) d_Mo_digits_27 ?_
            refine g_istore_n (lv' := [(2, .int (iI (((0 + ((v % 3) * 1)) + ((((v - b1) / 3) % 3) * 4)) + ((((((v - b1) / 3) - b2) / 3) % 3) * 16)))), (4, .int (iI (((((v - b1) / 3) - b2) / 3) % 3))), (3, .int (iI 2)), (1, .int (iI ((((v - b1) / 3) - b2) / 3))), (0, .int (iI v))]) ok d_Mo_digits_28 rfl (by decide) rfl ?_
            refine g_iload_n ok d_Mo_digits_29 rfl 3 rfl ?_
            have J_42 : ∀ (b3 : Int), (b3 = tv (((((v - b1) / 3) - b2) / 3) % 3)) → gW p l e R s m args below meth c (MQ below (gQp (fun r => r = dgM 5 v)) args s 0 0 (fun _ => False)) D A 5 (gZ0 s) 0 0 ad 265 (mem ad t F G) 42 [(2, .int (iI (((0 + ((v % 3) * 1)) + ((((v - b1) / 3) % 3) * 4)) + ((((((v - b1) / 3) - b2) / 3) % 3) * 16)))), (4, .int (iI (((((v - b1) / 3) - b2) / 3) % 3))), (3, .int (iI 2)), (1, .int (iI ((((v - b1) / 3) - b2) / 3))), (0, .int (iI v))] [.int (iI b3), .int (iI ((((v - b1) / 3) - b2) / 3))] := by
              intro b3 hb3
              have hrb3 : (((((v - b1) / 3) - b2) / 3) % 3 = 2 ∧ b3 = -1) ∨ (¬ ((((v - b1) / 3) - b2) / 3) % 3 = 2 ∧ b3 = ((((v - b1) / 3) - b2) / 3) % 3) := by rw [hb3]; unfold tv; split <;> omega
              refine g_isub ok d_Mo_digits_42 ?_
              refine g_iconst ok d_Mo_digits_43 ?_
              refine g_idiv (z := (((((v - b1) / 3) - b2) / 3) - b3) / 3) ok (iI_ne0 (by decide)) (iI_d3 (by omega) (by omega)) d_Mo_digits_44 ?_
              refine g_istore_n (lv' := [(1, .int (iI ((((((v - b1) / 3) - b2) / 3) - b3) / 3))), (2, .int (iI (((0 + ((v % 3) * 1)) + ((((v - b1) / 3) % 3) * 4)) + ((((((v - b1) / 3) - b2) / 3) % 3) * 16)))), (4, .int (iI (((((v - b1) / 3) - b2) / 3) % 3))), (3, .int (iI 2)), (0, .int (iI v))]) ok d_Mo_digits_45 rfl (by decide) rfl ?_
              refine g_iinc (lv' := [(3, .int (iI 3)), (1, .int (iI ((((((v - b1) / 3) - b2) / 3) - b3) / 3))), (2, .int (iI (((0 + ((v % 3) * 1)) + ((((v - b1) / 3) % 3) * 4)) + ((((((v - b1) / 3) - b2) / 3) % 3) * 16)))), (4, .int (iI (((((v - b1) / 3) - b2) / 3) % 3))), (0, .int (iI v))]) ok d_Mo_digits_46 3 rfl (by decide) rfl ?_
              refine g_goto ok 6 d_Mo_digits_49 (by decide) ?_
              refine g_iload_n ok d_Mo_digits_6 rfl 0 rfl ?_
              refine g_iconst ok d_Mo_digits_7 ?_
              refine g_icmp_ge ok 52 d_Mo_digits_8 (by decide) (by omega) (by omega) (fun h4 => ?_) (fun h4 => ?_)
              · exact absurd h4 (by decide)
              · refine g_iload_n ok d_Mo_digits_11 rfl 1 rfl ?_
                refine g_iconst ok d_Mo_digits_12 ?_
                refine g_irem (z := ((((((v - b1) / 3) - b2) / 3) - b3) / 3).tmod 3) ok (iI_ne0 (by decide)) (iI_rem (by omega) (by decide)) d_Mo_digits_13 ?_
                refine g_iconst ok d_Mo_digits_14 ?_
                refine g_iadd ok d_Mo_digits_15 ?_
                refine g_iconst ok d_Mo_digits_16 ?_
                refine g_irem (z := ((((((v - b1) / 3) - b2) / 3) - b3) / 3) % 3) ok (iI_ne0 (by decide)) (iI_t3 _) d_Mo_digits_17 ?_
                refine g_istore (lv' := [(4, .int (iI (((((((v - b1) / 3) - b2) / 3) - b3) / 3) % 3))), (3, .int (iI 3)), (1, .int (iI ((((((v - b1) / 3) - b2) / 3) - b3) / 3))), (2, .int (iI (((0 + ((v % 3) * 1)) + ((((v - b1) / 3) % 3) * 4)) + ((((((v - b1) / 3) - b2) / 3) % 3) * 16)))), (0, .int (iI v))]) ok d_Mo_digits_18 (by decide) rfl ?_
                refine g_iload_n ok d_Mo_digits_20 rfl 3 rfl ?_
                refine g_iload ok d_Mo_digits_21 0 rfl ?_
                refine g_iconst ok d_Mo_digits_23 ?_
                refine g_iload_n ok d_Mo_digits_24 rfl 1 rfl ?_
                refine g_imul ok d_Mo_digits_25 ?_
                refine g_top (y := 6) rfl ?_
                refine g_ishl (z := (((((((v - b1) / 3) - b2) / 3) - b3) / 3) % 3) * 64) ok (iI_shl 6 (by decide) (by omega) (by omega) rfl) d_Mo_digits_26 ?_
                refine g_ior (z := (((0 + ((v % 3) * 1)) + ((((v - b1) / 3) % 3) * 4)) + ((((((v - b1) / 3) - b2) / 3) % 3) * 16)) + ((((((((v - b1) / 3) - b2) / 3) - b3) / 3) % 3) * 64)) ok (iI_orC (a := ((((((v - b1) / 3) - b2) / 3) - b3) / 3) % 3) (b := ((0 + ((v % 3) * 1)) + ((((v - b1) / 3) % 3) * 4)) + ((((((v - b1) / 3) - b2) / 3) % 3) * 16)) 6 (by omega) (by omega)) d_Mo_digits_27 ?_
                refine g_istore_n (lv' := [(2, .int (iI ((((0 + ((v % 3) * 1)) + ((((v - b1) / 3) % 3) * 4)) + ((((((v - b1) / 3) - b2) / 3) % 3) * 16)) + ((((((((v - b1) / 3) - b2) / 3) - b3) / 3) % 3) * 64)))), (4, .int (iI (((((((v - b1) / 3) - b2) / 3) - b3) / 3) % 3))), (3, .int (iI 3)), (1, .int (iI ((((((v - b1) / 3) - b2) / 3) - b3) / 3))), (0, .int (iI v))]) ok d_Mo_digits_28 rfl (by decide) rfl ?_
                refine g_iload_n ok d_Mo_digits_29 rfl 3 rfl ?_
                have J_42 : ∀ (b4 : Int), (b4 = tv (((((((v - b1) / 3) - b2) / 3) - b3) / 3) % 3)) → gW p l e R s m args below meth c (MQ below (gQp (fun r => r = dgM 5 v)) args s 0 0 (fun _ => False)) D A 5 (gZ0 s) 0 0 ad 265 (mem ad t F G) 42 [(2, .int (iI ((((0 + ((v % 3) * 1)) + ((((v - b1) / 3) % 3) * 4)) + ((((((v - b1) / 3) - b2) / 3) % 3) * 16)) + ((((((((v - b1) / 3) - b2) / 3) - b3) / 3) % 3) * 64)))), (4, .int (iI (((((((v - b1) / 3) - b2) / 3) - b3) / 3) % 3))), (3, .int (iI 3)), (1, .int (iI ((((((v - b1) / 3) - b2) / 3) - b3) / 3))), (0, .int (iI v))] [.int (iI b4), .int (iI ((((((v - b1) / 3) - b2) / 3) - b3) / 3))] := by
                  intro b4 hb4
                  have hrb4 : (((((((v - b1) / 3) - b2) / 3) - b3) / 3) % 3 = 2 ∧ b4 = -1) ∨ (¬ ((((((v - b1) / 3) - b2) / 3) - b3) / 3) % 3 = 2 ∧ b4 = ((((((v - b1) / 3) - b2) / 3) - b3) / 3) % 3) := by rw [hb4]; unfold tv; split <;> omega
                  refine g_isub ok d_Mo_digits_42 ?_
                  refine g_iconst ok d_Mo_digits_43 ?_
                  refine g_idiv (z := (((((((v - b1) / 3) - b2) / 3) - b3) / 3) - b4) / 3) ok (iI_ne0 (by decide)) (iI_d3 (by omega) (by omega)) d_Mo_digits_44 ?_
                  refine g_istore_n (lv' := [(1, .int (iI ((((((((v - b1) / 3) - b2) / 3) - b3) / 3) - b4) / 3))), (2, .int (iI ((((0 + ((v % 3) * 1)) + ((((v - b1) / 3) % 3) * 4)) + ((((((v - b1) / 3) - b2) / 3) % 3) * 16)) + ((((((((v - b1) / 3) - b2) / 3) - b3) / 3) % 3) * 64)))), (4, .int (iI (((((((v - b1) / 3) - b2) / 3) - b3) / 3) % 3))), (3, .int (iI 3)), (0, .int (iI v))]) ok d_Mo_digits_45 rfl (by decide) rfl ?_
                  refine g_iinc (lv' := [(3, .int (iI 4)), (1, .int (iI ((((((((v - b1) / 3) - b2) / 3) - b3) / 3) - b4) / 3))), (2, .int (iI ((((0 + ((v % 3) * 1)) + ((((v - b1) / 3) % 3) * 4)) + ((((((v - b1) / 3) - b2) / 3) % 3) * 16)) + ((((((((v - b1) / 3) - b2) / 3) - b3) / 3) % 3) * 64)))), (4, .int (iI (((((((v - b1) / 3) - b2) / 3) - b3) / 3) % 3))), (0, .int (iI v))]) ok d_Mo_digits_46 3 rfl (by decide) rfl ?_
                  refine g_goto ok 6 d_Mo_digits_49 (by decide) ?_
                  refine g_iload_n ok d_Mo_digits_6 rfl 0 rfl ?_
                  refine g_iconst ok d_Mo_digits_7 ?_
                  refine g_icmp_ge ok 52 d_Mo_digits_8 (by decide) (by omega) (by omega) (fun h5 => ?_) (fun h5 => ?_)
                  · exact absurd h5 (by decide)
                  · refine g_iload_n ok d_Mo_digits_11 rfl 1 rfl ?_
                    refine g_iconst ok d_Mo_digits_12 ?_
                    refine g_irem (z := ((((((((v - b1) / 3) - b2) / 3) - b3) / 3) - b4) / 3).tmod 3) ok (iI_ne0 (by decide)) (iI_rem (by omega) (by decide)) d_Mo_digits_13 ?_
                    refine g_iconst ok d_Mo_digits_14 ?_
                    refine g_iadd ok d_Mo_digits_15 ?_
                    refine g_iconst ok d_Mo_digits_16 ?_
                    refine g_irem (z := ((((((((v - b1) / 3) - b2) / 3) - b3) / 3) - b4) / 3) % 3) ok (iI_ne0 (by decide)) (iI_t3 _) d_Mo_digits_17 ?_
                    refine g_istore (lv' := [(4, .int (iI (((((((((v - b1) / 3) - b2) / 3) - b3) / 3) - b4) / 3) % 3))), (3, .int (iI 4)), (1, .int (iI ((((((((v - b1) / 3) - b2) / 3) - b3) / 3) - b4) / 3))), (2, .int (iI ((((0 + ((v % 3) * 1)) + ((((v - b1) / 3) % 3) * 4)) + ((((((v - b1) / 3) - b2) / 3) % 3) * 16)) + ((((((((v - b1) / 3) - b2) / 3) - b3) / 3) % 3) * 64)))), (0, .int (iI v))]) ok d_Mo_digits_18 (by decide) rfl ?_
                    refine g_iload_n ok d_Mo_digits_20 rfl 3 rfl ?_
                    refine g_iload ok d_Mo_digits_21 0 rfl ?_
                    refine g_iconst ok d_Mo_digits_23 ?_
                    refine g_iload_n ok d_Mo_digits_24 rfl 1 rfl ?_
                    refine g_imul ok d_Mo_digits_25 ?_
                    refine g_top (y := 8) rfl ?_
                    refine g_ishl (z := (((((((((v - b1) / 3) - b2) / 3) - b3) / 3) - b4) / 3) % 3) * 256) ok (iI_shl 8 (by decide) (by omega) (by omega) rfl) d_Mo_digits_26 ?_
                    refine g_ior (z := ((((0 + ((v % 3) * 1)) + ((((v - b1) / 3) % 3) * 4)) + ((((((v - b1) / 3) - b2) / 3) % 3) * 16)) + ((((((((v - b1) / 3) - b2) / 3) - b3) / 3) % 3) * 64)) + ((((((((((v - b1) / 3) - b2) / 3) - b3) / 3) - b4) / 3) % 3) * 256)) ok (iI_orC (a := ((((((((v - b1) / 3) - b2) / 3) - b3) / 3) - b4) / 3) % 3) (b := (((0 + ((v % 3) * 1)) + ((((v - b1) / 3) % 3) * 4)) + ((((((v - b1) / 3) - b2) / 3) % 3) * 16)) + ((((((((v - b1) / 3) - b2) / 3) - b3) / 3) % 3) * 64)) 8 (by omega) (by omega)) d_Mo_digits_27 ?_
                    refine g_istore_n (lv' := [(2, .int (iI (((((0 + ((v % 3) * 1)) + ((((v - b1) / 3) % 3) * 4)) + ((((((v - b1) / 3) - b2) / 3) % 3) * 16)) + ((((((((v - b1) / 3) - b2) / 3) - b3) / 3) % 3) * 64)) + ((((((((((v - b1) / 3) - b2) / 3) - b3) / 3) - b4) / 3) % 3) * 256)))), (4, .int (iI (((((((((v - b1) / 3) - b2) / 3) - b3) / 3) - b4) / 3) % 3))), (3, .int (iI 4)), (1, .int (iI ((((((((v - b1) / 3) - b2) / 3) - b3) / 3) - b4) / 3))), (0, .int (iI v))]) ok d_Mo_digits_28 rfl (by decide) rfl ?_
                    refine g_iload_n ok d_Mo_digits_29 rfl 3 rfl ?_
                    have J_42 : ∀ (b5 : Int), (b5 = tv (((((((((v - b1) / 3) - b2) / 3) - b3) / 3) - b4) / 3) % 3)) → gW p l e R s m args below meth c (MQ below (gQp (fun r => r = dgM 5 v)) args s 0 0 (fun _ => False)) D A 5 (gZ0 s) 0 0 ad 265 (mem ad t F G) 42 [(2, .int (iI (((((0 + ((v % 3) * 1)) + ((((v - b1) / 3) % 3) * 4)) + ((((((v - b1) / 3) - b2) / 3) % 3) * 16)) + ((((((((v - b1) / 3) - b2) / 3) - b3) / 3) % 3) * 64)) + ((((((((((v - b1) / 3) - b2) / 3) - b3) / 3) - b4) / 3) % 3) * 256)))), (4, .int (iI (((((((((v - b1) / 3) - b2) / 3) - b3) / 3) - b4) / 3) % 3))), (3, .int (iI 4)), (1, .int (iI ((((((((v - b1) / 3) - b2) / 3) - b3) / 3) - b4) / 3))), (0, .int (iI v))] [.int (iI b5), .int (iI ((((((((v - b1) / 3) - b2) / 3) - b3) / 3) - b4) / 3))] := by
                      intro b5 hb5
                      have hrb5 : (((((((((v - b1) / 3) - b2) / 3) - b3) / 3) - b4) / 3) % 3 = 2 ∧ b5 = -1) ∨ (¬ ((((((((v - b1) / 3) - b2) / 3) - b3) / 3) - b4) / 3) % 3 = 2 ∧ b5 = ((((((((v - b1) / 3) - b2) / 3) - b3) / 3) - b4) / 3) % 3) := by rw [hb5]; unfold tv; split <;> omega
                      refine g_isub ok d_Mo_digits_42 ?_
                      refine g_iconst ok d_Mo_digits_43 ?_
                      refine g_idiv (z := (((((((((v - b1) / 3) - b2) / 3) - b3) / 3) - b4) / 3) - b5) / 3) ok (iI_ne0 (by decide)) (iI_d3 (by omega) (by omega)) d_Mo_digits_44 ?_
                      refine g_istore_n (lv' := [(1, .int (iI ((((((((((v - b1) / 3) - b2) / 3) - b3) / 3) - b4) / 3) - b5) / 3))), (2, .int (iI (((((0 + ((v % 3) * 1)) + ((((v - b1) / 3) % 3) * 4)) + ((((((v - b1) / 3) - b2) / 3) % 3) * 16)) + ((((((((v - b1) / 3) - b2) / 3) - b3) / 3) % 3) * 64)) + ((((((((((v - b1) / 3) - b2) / 3) - b3) / 3) - b4) / 3) % 3) * 256)))), (4, .int (iI (((((((((v - b1) / 3) - b2) / 3) - b3) / 3) - b4) / 3) % 3))), (3, .int (iI 4)), (0, .int (iI v))]) ok d_Mo_digits_45 rfl (by decide) rfl ?_
                      refine g_iinc (lv' := [(3, .int (iI 5)), (1, .int (iI ((((((((((v - b1) / 3) - b2) / 3) - b3) / 3) - b4) / 3) - b5) / 3))), (2, .int (iI (((((0 + ((v % 3) * 1)) + ((((v - b1) / 3) % 3) * 4)) + ((((((v - b1) / 3) - b2) / 3) % 3) * 16)) + ((((((((v - b1) / 3) - b2) / 3) - b3) / 3) % 3) * 64)) + ((((((((((v - b1) / 3) - b2) / 3) - b3) / 3) - b4) / 3) % 3) * 256)))), (4, .int (iI (((((((((v - b1) / 3) - b2) / 3) - b3) / 3) - b4) / 3) % 3))), (0, .int (iI v))]) ok d_Mo_digits_46 3 rfl (by decide) rfl ?_
                      refine g_goto ok 6 d_Mo_digits_49 (by decide) ?_
                      refine g_iload_n ok d_Mo_digits_6 rfl 0 rfl ?_
                      refine g_iconst ok d_Mo_digits_7 ?_
                      refine g_icmp_ge ok 52 d_Mo_digits_8 (by decide) (by omega) (by omega) (fun h6 => ?_) (fun h6 => ?_)
                      · refine g_iload_n ok d_Mo_digits_52 rfl 2 rfl ?_
                        exact g_ipret ok d_Mo_digits_53 (by simp only [dgM]; rw [← hb1, ← hb2, ← hb3, ← hb4]; omega)
                      · exact absurd h6 (by decide)
                    refine g_iload ok d_Mo_digits_30 1 rfl ?_
                    refine g_iconst ok d_Mo_digits_32 ?_
                    refine g_icmp_ne ok 40 d_Mo_digits_33 (by decide) (by omega) (by omega) (fun h7 => ?_) (fun h7 => ?_)
                    · refine g_iload ok d_Mo_digits_40 1 rfl ?_
                      exact J_42 (((((((((v - b1) / 3) - b2) / 3) - b3) / 3) - b4) / 3) % 3) ((tv_n (by omega)).symm)
                    · refine g_iconst ok d_Mo_digits_36 ?_
                      refine g_goto ok 42 d_Mo_digits_37 (by decide) ?_
                      exact J_42 (-1) ((tv_2 (by omega)).symm)
                refine g_iload ok d_Mo_digits_30 1 rfl ?_
                refine g_iconst ok d_Mo_digits_32 ?_
                refine g_icmp_ne ok 40 d_Mo_digits_33 (by decide) (by omega) (by omega) (fun h8 => ?_) (fun h8 => ?_)
                · refine g_iload ok d_Mo_digits_40 1 rfl ?_
                  exact J_42 (((((((v - b1) / 3) - b2) / 3) - b3) / 3) % 3) ((tv_n (by omega)).symm)
                · refine g_iconst ok d_Mo_digits_36 ?_
                  refine g_goto ok 42 d_Mo_digits_37 (by decide) ?_
                  exact J_42 (-1) ((tv_2 (by omega)).symm)
            refine g_iload ok d_Mo_digits_30 1 rfl ?_
            refine g_iconst ok d_Mo_digits_32 ?_
            refine g_icmp_ne ok 40 d_Mo_digits_33 (by decide) (by omega) (by omega) (fun h9 => ?_) (fun h9 => ?_)
            · refine g_iload ok d_Mo_digits_40 1 rfl ?_
              exact J_42 (((((v - b1) / 3) - b2) / 3) % 3) ((tv_n (by omega)).symm)
            · refine g_iconst ok d_Mo_digits_36 ?_
              refine g_goto ok 42 d_Mo_digits_37 (by decide) ?_
              exact J_42 (-1) ((tv_2 (by omega)).symm)
        refine g_iload ok d_Mo_digits_30 1 rfl ?_
        refine g_iconst ok d_Mo_digits_32 ?_
        refine g_icmp_ne ok 40 d_Mo_digits_33 (by decide) (by omega) (by omega) (fun h10 => ?_) (fun h10 => ?_)
        · refine g_iload ok d_Mo_digits_40 1 rfl ?_
          exact J_42 (((v - b1) / 3) % 3) ((tv_n (by omega)).symm)
        · refine g_iconst ok d_Mo_digits_36 ?_
          refine g_goto ok 42 d_Mo_digits_37 (by decide) ?_
          exact J_42 (-1) ((tv_2 (by omega)).symm)
    refine g_iload ok d_Mo_digits_30 1 rfl ?_
    refine g_iconst ok d_Mo_digits_32 ?_
    refine g_icmp_ne ok 40 d_Mo_digits_33 (by decide) (by omega) (by omega) (fun h11 => ?_) (fun h11 => ?_)
    · refine g_iload ok d_Mo_digits_40 1 rfl ?_
      exact J_42 (v % 3) ((tv_n (by omega)).symm)
    · refine g_iconst ok d_Mo_digits_36 ?_
      refine g_goto ok 42 d_Mo_digits_37 (by decide) ?_
      exact J_42 (-1) ((tv_2 (by omega)).symm)
theorem d_Mo_number_0 : decode b_Mo_number 0 = .ok (.iconst 0, 1) := by decide +kernel
theorem d_Mo_number_1 : decode b_Mo_number 1 = .ok (.istore_n 1, 1) := by decide +kernel
theorem d_Mo_number_2 : decode b_Mo_number 2 = .ok (.iconst 1, 1) := by decide +kernel
theorem d_Mo_number_3 : decode b_Mo_number 3 = .ok (.istore_n 2, 1) := by decide +kernel
theorem d_Mo_number_4 : decode b_Mo_number 4 = .ok (.iconst 0, 1) := by decide +kernel
theorem d_Mo_number_5 : decode b_Mo_number 5 = .ok (.istore_n 3, 1) := by decide +kernel
theorem d_Mo_number_6 : decode b_Mo_number 6 = .ok (.iload_n 3, 1) := by decide +kernel
theorem d_Mo_number_7 : decode b_Mo_number 7 = .ok (.iconst 5, 1) := by decide +kernel
theorem d_Mo_number_8 : decode b_Mo_number 8 = .ok (.if_icmp .ge 57, 3) := by decide +kernel
theorem d_Mo_number_11 : decode b_Mo_number 11 = .ok (.iload_n 0, 1) := by decide +kernel
theorem d_Mo_number_12 : decode b_Mo_number 12 = .ok (.iconst 2, 1) := by decide +kernel
theorem d_Mo_number_13 : decode b_Mo_number 13 = .ok (.iload_n 3, 1) := by decide +kernel
theorem d_Mo_number_14 : decode b_Mo_number 14 = .ok (.imul, 1) := by decide +kernel
theorem d_Mo_number_15 : decode b_Mo_number 15 = .ok (.ishr, 1) := by decide +kernel
theorem d_Mo_number_16 : decode b_Mo_number 16 = .ok (.iconst 3, 1) := by decide +kernel
theorem d_Mo_number_17 : decode b_Mo_number 17 = .ok (.iand, 1) := by decide +kernel
theorem d_Mo_number_18 : decode b_Mo_number 18 = .ok (.istore 4, 2) := by decide +kernel
theorem d_Mo_number_20 : decode b_Mo_number 20 = .ok (.iload 4, 2) := by decide +kernel
theorem d_Mo_number_22 : decode b_Mo_number 22 = .ok (.iconst 3, 1) := by decide +kernel
theorem d_Mo_number_23 : decode b_Mo_number 23 = .ok (.if_icmp .ne 7, 3) := by decide +kernel
theorem d_Mo_number_26 : decode b_Mo_number 26 = .ok (.sipush 1000, 3) := by decide +kernel
theorem d_Mo_number_29 : decode b_Mo_number 29 = .ok (.ireturn, 1) := by decide +kernel
theorem d_Mo_number_30 : decode b_Mo_number 30 = .ok (.iload_n 1, 1) := by decide +kernel
theorem d_Mo_number_31 : decode b_Mo_number 31 = .ok (.iload 4, 2) := by decide +kernel
theorem d_Mo_number_33 : decode b_Mo_number 33 = .ok (.iconst 1, 1) := by decide +kernel
theorem d_Mo_number_34 : decode b_Mo_number 34 = .ok (.if_icmp .ne 7, 3) := by decide +kernel
theorem d_Mo_number_37 : decode b_Mo_number 37 = .ok (.iload_n 2, 1) := by decide +kernel
theorem d_Mo_number_38 : decode b_Mo_number 38 = .ok (.goto 15, 3) := by decide +kernel
theorem d_Mo_number_41 : decode b_Mo_number 41 = .ok (.iload 4, 2) := by decide +kernel
theorem d_Mo_number_43 : decode b_Mo_number 43 = .ok (.iconst 2, 1) := by decide +kernel
theorem d_Mo_number_44 : decode b_Mo_number 44 = .ok (.if_icmp .ne 8, 3) := by decide +kernel
theorem d_Mo_number_47 : decode b_Mo_number 47 = .ok (.iload_n 2, 1) := by decide +kernel
theorem d_Mo_number_48 : decode b_Mo_number 48 = .ok (.ineg, 1) := by decide +kernel
theorem d_Mo_number_49 : decode b_Mo_number 49 = .ok (.goto 4, 3) := by decide +kernel
theorem d_Mo_number_52 : decode b_Mo_number 52 = .ok (.iconst 0, 1) := by decide +kernel
theorem d_Mo_number_53 : decode b_Mo_number 53 = .ok (.iadd, 1) := by decide +kernel
theorem d_Mo_number_54 : decode b_Mo_number 54 = .ok (.istore_n 1, 1) := by decide +kernel
theorem d_Mo_number_55 : decode b_Mo_number 55 = .ok (.iconst 3, 1) := by decide +kernel
theorem d_Mo_number_56 : decode b_Mo_number 56 = .ok (.iload_n 2, 1) := by decide +kernel
theorem d_Mo_number_57 : decode b_Mo_number 57 = .ok (.imul, 1) := by decide +kernel
theorem d_Mo_number_58 : decode b_Mo_number 58 = .ok (.istore_n 2, 1) := by decide +kernel
theorem d_Mo_number_59 : decode b_Mo_number 59 = .ok (.iinc 3 1, 3) := by decide +kernel
theorem d_Mo_number_62 : decode b_Mo_number 62 = .ok (.goto (-56), 3) := by decide +kernel
theorem d_Mo_number_65 : decode b_Mo_number 65 = .ok (.iload_n 1, 1) := by decide +kernel
theorem d_Mo_number_66 : decode b_Mo_number 66 = .ok (.ireturn, 1) := by decide +kernel
set_option maxHeartbeats 1000000 in
set_option maxRecDepth 100000 in
theorem c_Mo_number (F : Nat → Nat → Int) (G : Nat → Int → Int) (b0 : Int) (hb0 : 0 ≤ b0 ∧ b0 < 1024) : cP y_Mo_number b_Mo_number 5 (some .int) 0 0 F G (fun ad => [.int (iI b0)]) (fun r => (r = 1000 ∧ has3 b0) ∨ (¬ has3 b0 ∧ r = numC b0)) := by
  intro s0 a0 D t ad
  refine g_startP (by decide +kernel) (Nat.le_of_ble_eq_true rfl) (fun p l e R s m args below meth c A ok => ?_)
  show gW p l e R s m args below meth c _ D A 5 (gZ0 s) 0 0 ad 265 (mem ad t F G) 0 [(0, .int (iI b0))] []
  refine g_iconst ok d_Mo_number_0 ?_
  refine g_istore_n (lv' := [(1, .int (iI 0)), (0, .int (iI b0))]) ok d_Mo_number_1 rfl (by decide) rfl ?_
  refine g_iconst ok d_Mo_number_2 ?_
  refine g_istore_n (lv' := [(2, .int (iI 1)), (1, .int (iI 0)), (0, .int (iI b0))]) ok d_Mo_number_3 rfl (by decide) rfl ?_
  refine g_iconst ok d_Mo_number_4 ?_
  refine g_istore_n (lv' := [(3, .int (iI 0)), (2, .int (iI 1)), (1, .int (iI 0)), (0, .int (iI b0))]) ok d_Mo_number_5 rfl (by decide) rfl ?_
  refine g_iload_n ok d_Mo_number_6 rfl 0 rfl ?_
  refine g_iconst ok d_Mo_number_7 ?_
  refine g_icmp_ge ok 65 d_Mo_number_8 (by decide) (by omega) (by omega) (fun h1 => ?_) (fun h1 => ?_)
  · exact absurd h1 (by decide)
  · refine g_iload_n ok d_Mo_number_11 rfl 3 rfl ?_
    refine g_iconst ok d_Mo_number_12 ?_
    refine g_iload_n ok d_Mo_number_13 rfl 0 rfl ?_
    refine g_imul ok d_Mo_number_14 ?_
    refine g_top (y := 0) rfl ?_
    refine g_ishr (z := b0 / 1) ok (iI_shr 0 (by decide) (by omega) rfl) d_Mo_number_15 ?_
    refine g_iconst ok d_Mo_number_16 ?_
    refine g_iand (z := (b0 / 1) % 4) ok (iI_mask 2 (by omega) rfl (by decide)) d_Mo_number_17 ?_
    refine g_istore (lv' := [(4, .int (iI ((b0 / 1) % 4))), (3, .int (iI 0)), (2, .int (iI 1)), (1, .int (iI 0)), (0, .int (iI b0))]) ok d_Mo_number_18 (by decide) rfl ?_
    refine g_iload ok d_Mo_number_20 0 rfl ?_
    refine g_iconst ok d_Mo_number_22 ?_
    refine g_icmp_ne ok 30 d_Mo_number_23 (by decide) (by omega) (by omega) (fun h2 => ?_) (fun h2 => ?_)
    · refine g_iload_n ok d_Mo_number_30 rfl 3 rfl ?_
      have J_53 : ∀ (b1 : Int), (b1 = tv ((b0 / 1) % 4) * 1) → gW p l e R s m args below meth c (MQ below (gQp (fun r => (r = 1000 ∧ has3 b0) ∨ (¬ has3 b0 ∧ r = numC b0))) args s 0 0 (fun _ => False)) D A 5 (gZ0 s) 0 0 ad 265 (mem ad t F G) 53 [(4, .int (iI ((b0 / 1) % 4))), (3, .int (iI 0)), (2, .int (iI 1)), (1, .int (iI 0)), (0, .int (iI b0))] [.int (iI b1), .int (iI 0)] := by
        intro b1 hb1
        have hrb1 : -1 ≤ b1 ∧ b1 ≤ 1 := by rw [hb1]; have := tv_rng (d := (b0 / 1) % 4) (by omega) (by omega); omega
        refine g_iadd ok d_Mo_number_53 ?_
        refine g_istore_n (lv' := [(1, .int (iI (0 + b1))), (4, .int (iI ((b0 / 1) % 4))), (3, .int (iI 0)), (2, .int (iI 1)), (0, .int (iI b0))]) ok d_Mo_number_54 rfl (by decide) rfl ?_
        refine g_iconst ok d_Mo_number_55 ?_
        refine g_iload_n ok d_Mo_number_56 rfl 3 rfl ?_
        refine g_imul ok d_Mo_number_57 ?_
        refine g_top (y := 3) rfl ?_
        refine g_istore_n (lv' := [(2, .int (iI 3)), (1, .int (iI (0 + b1))), (4, .int (iI ((b0 / 1) % 4))), (3, .int (iI 0)), (0, .int (iI b0))]) ok d_Mo_number_58 rfl (by decide) rfl ?_
        refine g_iinc (lv' := [(3, .int (iI 1)), (2, .int (iI 3)), (1, .int (iI (0 + b1))), (4, .int (iI ((b0 / 1) % 4))), (0, .int (iI b0))]) ok d_Mo_number_59 3 rfl (by decide) rfl ?_
        refine g_goto ok 6 d_Mo_number_62 (by decide) ?_
        refine g_iload_n ok d_Mo_number_6 rfl 0 rfl ?_
        refine g_iconst ok d_Mo_number_7 ?_
        refine g_icmp_ge ok 65 d_Mo_number_8 (by decide) (by omega) (by omega) (fun h3 => ?_) (fun h3 => ?_)
        · exact absurd h3 (by decide)
        · refine g_iload_n ok d_Mo_number_11 rfl 4 rfl ?_
          refine g_iconst ok d_Mo_number_12 ?_
          refine g_iload_n ok d_Mo_number_13 rfl 0 rfl ?_
          refine g_imul ok d_Mo_number_14 ?_
          refine g_top (y := 2) rfl ?_
          refine g_ishr (z := b0 / 4) ok (iI_shr 2 (by decide) (by omega) rfl) d_Mo_number_15 ?_
          refine g_iconst ok d_Mo_number_16 ?_
          refine g_iand (z := (b0 / 4) % 4) ok (iI_mask 2 (by omega) rfl (by decide)) d_Mo_number_17 ?_
          refine g_istore (lv' := [(4, .int (iI ((b0 / 4) % 4))), (3, .int (iI 1)), (2, .int (iI 3)), (1, .int (iI (0 + b1))), (0, .int (iI b0))]) ok d_Mo_number_18 (by decide) rfl ?_
          refine g_iload ok d_Mo_number_20 0 rfl ?_
          refine g_iconst ok d_Mo_number_22 ?_
          refine g_icmp_ne ok 30 d_Mo_number_23 (by decide) (by omega) (by omega) (fun h4 => ?_) (fun h4 => ?_)
          · refine g_iload_n ok d_Mo_number_30 rfl 3 rfl ?_
            have J_53 : ∀ (b2 : Int), (b2 = tv ((b0 / 4) % 4) * 3) → gW p l e R s m args below meth c (MQ below (gQp (fun r => (r = 1000 ∧ has3 b0) ∨ (¬ has3 b0 ∧ r = numC b0))) args s 0 0 (fun _ => False)) D A 5 (gZ0 s) 0 0 ad 265 (mem ad t F G) 53 [(4, .int (iI ((b0 / 4) % 4))), (3, .int (iI 1)), (2, .int (iI 3)), (1, .int (iI (0 + b1))), (0, .int (iI b0))] [.int (iI b2), .int (iI (0 + b1))] := by
              intro b2 hb2
              have hrb2 : -3 ≤ b2 ∧ b2 ≤ 3 := by rw [hb2]; have := tv_rng (d := (b0 / 4) % 4) (by omega) (by omega); omega
              refine g_iadd ok d_Mo_number_53 ?_
              refine g_istore_n (lv' := [(1, .int (iI ((0 + b1) + b2))), (4, .int (iI ((b0 / 4) % 4))), (3, .int (iI 1)), (2, .int (iI 3)), (0, .int (iI b0))]) ok d_Mo_number_54 rfl (by decide) rfl ?_
              refine g_iconst ok d_Mo_number_55 ?_
              refine g_iload_n ok d_Mo_number_56 rfl 3 rfl ?_
              refine g_imul ok d_Mo_number_57 ?_
              refine g_top (y := 9) rfl ?_
              refine g_istore_n (lv' := [(2, .int (iI 9)), (1, .int (iI ((0 + b1) + b2))), (4, .int (iI ((b0 / 4) % 4))), (3, .int (iI 1)), (0, .int (iI b0))]) ok d_Mo_number_58 rfl (by decide) rfl ?_
              refine g_iinc (lv' := [(3, .int (iI 2)), (2, .int (iI 9)), (1, .int (iI ((0 + b1) + b2))), (4, .int (iI ((b0 / 4) % 4))), (0, .int (iI b0))]) ok d_Mo_number_59 3 rfl (by decide) rfl ?_
              refine g_goto ok 6 d_Mo_number_62 (by decide) ?_
              refine g_iload_n ok d_Mo_number_6 rfl 0 rfl ?_
              refine g_iconst ok d_Mo_number_7 ?_
              refine g_icmp_ge ok 65 d_Mo_number_8 (by decide) (by omega) (by omega) (fun h5 => ?_) (fun h5 => ?_)
              · exact absurd h5 (by decide)
              · refine g_iload_n ok d_Mo_number_11 rfl 4 rfl ?_
                refine g_iconst ok d_Mo_number_12 ?_
                refine g_iload_n ok d_Mo_number_13 rfl 0 rfl ?_
                refine g_imul ok d_Mo_number_14 ?_
                refine g_top (y := 4) rfl ?_
                refine g_ishr (z := b0 / 16) ok (iI_shr 4 (by decide) (by omega) rfl) d_Mo_number_15 ?_
                refine g_iconst ok d_Mo_number_16 ?_
                refine g_iand (z := (b0 / 16) % 4) ok (iI_mask 2 (by omega) rfl (by decide)) d_Mo_number_17 ?_
                refine g_istore (lv' := [(4, .int (iI ((b0 / 16) % 4))), (3, .int (iI 2)), (2, .int (iI 9)), (1, .int (iI ((0 + b1) + b2))), (0, .int (iI b0))]) ok d_Mo_number_18 (by decide) rfl ?_
                refine g_iload ok d_Mo_number_20 0 rfl ?_
                refine g_iconst ok d_Mo_number_22 ?_
                refine g_icmp_ne ok 30 d_Mo_number_23 (by decide) (by omega) (by omega) (fun h6 => ?_) (fun h6 => ?_)
                · refine g_iload_n ok d_Mo_number_30 rfl 3 rfl ?_
                  have J_53 : ∀ (b3 : Int), (b3 = tv ((b0 / 16) % 4) * 9) → gW p l e R s m args below meth c (MQ below (gQp (fun r => (r = 1000 ∧ has3 b0) ∨ (¬ has3 b0 ∧ r = numC b0))) args s 0 0 (fun _ => False)) D A 5 (gZ0 s) 0 0 ad 265 (mem ad t F G) 53 [(4, .int (iI ((b0 / 16) % 4))), (3, .int (iI 2)), (2, .int (iI 9)), (1, .int (iI ((0 + b1) + b2))), (0, .int (iI b0))] [.int (iI b3), .int (iI ((0 + b1) + b2))] := by
                    intro b3 hb3
                    have hrb3 : -9 ≤ b3 ∧ b3 ≤ 9 := by rw [hb3]; have := tv_rng (d := (b0 / 16) % 4) (by omega) (by omega); omega
                    refine g_iadd ok d_Mo_number_53 ?_
                    refine g_istore_n (lv' := [(1, .int (iI (((0 + b1) + b2) + b3))), (4, .int (iI ((b0 / 16) % 4))), (3, .int (iI 2)), (2, .int (iI 9)), (0, .int (iI b0))]) ok d_Mo_number_54 rfl (by decide) rfl ?_
                    refine g_iconst ok d_Mo_number_55 ?_
                    refine g_iload_n ok d_Mo_number_56 rfl 3 rfl ?_
                    refine g_imul ok d_Mo_number_57 ?_
                    refine g_top (y := 27) rfl ?_
                    refine g_istore_n (lv' := [(2, .int (iI 27)), (1, .int (iI (((0 + b1) + b2) + b3))), (4, .int (iI ((b0 / 16) % 4))), (3, .int (iI 2)), (0, .int (iI b0))]) ok d_Mo_number_58 rfl (by decide) rfl ?_
                    refine g_iinc (lv' := [(3, .int (iI 3)), (2, .int (iI 27)), (1, .int (iI (((0 + b1) + b2) + b3))), (4, .int (iI ((b0 / 16) % 4))), (0, .int (iI b0))]) ok d_Mo_number_59 3 rfl (by decide) rfl ?_
                    refine g_goto ok 6 d_Mo_number_62 (by decide) ?_
                    refine g_iload_n ok d_Mo_number_6 rfl 0 rfl ?_
                    refine g_iconst ok d_Mo_number_7 ?_
                    refine g_icmp_ge ok 65 d_Mo_number_8 (by decide) (by omega) (by omega) (fun h7 => ?_) (fun h7 => ?_)
                    · exact absurd h7 (by decide)
                    · refine g_iload_n ok d_Mo_number_11 rfl 4 rfl ?_
                      refine g_iconst ok d_Mo_number_12 ?_
                      refine g_iload_n ok d_Mo_number_13 rfl 0 rfl ?_
                      refine g_imul ok d_Mo_number_14 ?_
                      refine g_top (y := 6) rfl ?_
                      refine g_ishr (z := b0 / 64) ok (iI_shr 6 (by decide) (by omega) rfl) d_Mo_number_15 ?_
                      refine g_iconst ok d_Mo_number_16 ?_
                      refine g_iand (z := (b0 / 64) % 4) ok (iI_mask 2 (by omega) rfl (by decide)) d_Mo_number_17 ?_
                      refine g_istore (lv' := [(4, .int (iI ((b0 / 64) % 4))), (3, .int (iI 3)), (2, .int (iI 27)), (1, .int (iI (((0 + b1) + b2) + b3))), (0, .int (iI b0))]) ok d_Mo_number_18 (by decide) rfl ?_
                      refine g_iload ok d_Mo_number_20 0 rfl ?_
                      refine g_iconst ok d_Mo_number_22 ?_
                      refine g_icmp_ne ok 30 d_Mo_number_23 (by decide) (by omega) (by omega) (fun h8 => ?_) (fun h8 => ?_)
                      · refine g_iload_n ok d_Mo_number_30 rfl 3 rfl ?_
                        have J_53 : ∀ (b4 : Int), (b4 = tv ((b0 / 64) % 4) * 27) → gW p l e R s m args below meth c (MQ below (gQp (fun r => (r = 1000 ∧ has3 b0) ∨ (¬ has3 b0 ∧ r = numC b0))) args s 0 0 (fun _ => False)) D A 5 (gZ0 s) 0 0 ad 265 (mem ad t F G) 53 [(4, .int (iI ((b0 / 64) % 4))), (3, .int (iI 3)), (2, .int (iI 27)), (1, .int (iI (((0 + b1) + b2) + b3))), (0, .int (iI b0))] [.int (iI b4), .int (iI (((0 + b1) + b2) + b3))] := by
                          intro b4 hb4
                          have hrb4 : -27 ≤ b4 ∧ b4 ≤ 27 := by rw [hb4]; have := tv_rng (d := (b0 / 64) % 4) (by omega) (by omega); omega
                          refine g_iadd ok d_Mo_number_53 ?_
                          refine g_istore_n (lv' := [(1, .int (iI ((((0 + b1) + b2) + b3) + b4))), (4, .int (iI ((b0 / 64) % 4))), (3, .int (iI 3)), (2, .int (iI 27)), (0, .int (iI b0))]) ok d_Mo_number_54 rfl (by decide) rfl ?_
                          refine g_iconst ok d_Mo_number_55 ?_
                          refine g_iload_n ok d_Mo_number_56 rfl 3 rfl ?_
                          refine g_imul ok d_Mo_number_57 ?_
                          refine g_top (y := 81) rfl ?_
                          refine g_istore_n (lv' := [(2, .int (iI 81)), (1, .int (iI ((((0 + b1) + b2) + b3) + b4))), (4, .int (iI ((b0 / 64) % 4))), (3, .int (iI 3)), (0, .int (iI b0))]) ok d_Mo_number_58 rfl (by decide) rfl ?_
                          refine g_iinc (lv' := [(3, .int (iI 4)), (2, .int (iI 81)), (1, .int (iI ((((0 + b1) + b2) + b3) + b4))), (4, .int (iI ((b0 / 64) % 4))), (0, .int (iI b0))]) ok d_Mo_number_59 3 rfl (by decide) rfl ?_
                          refine g_goto ok 6 d_Mo_number_62 (by decide) ?_
                          refine g_iload_n ok d_Mo_number_6 rfl 0 rfl ?_
                          refine g_iconst ok d_Mo_number_7 ?_
                          refine g_icmp_ge ok 65 d_Mo_number_8 (by decide) (by omega) (by omega) (fun h9 => ?_) (fun h9 => ?_)
                          · exact absurd h9 (by decide)
                          · refine g_iload_n ok d_Mo_number_11 rfl 4 rfl ?_
                            refine g_iconst ok d_Mo_number_12 ?_
                            refine g_iload_n ok d_Mo_number_13 rfl 0 rfl ?_
                            refine g_imul ok d_Mo_number_14 ?_
                            refine g_top (y := 8) rfl ?_
                            refine g_ishr (z := b0 / 256) ok (iI_shr 8 (by decide) (by omega) rfl) d_Mo_number_15 ?_
                            refine g_iconst ok d_Mo_number_16 ?_
                            refine g_iand (z := (b0 / 256) % 4) ok (iI_mask 2 (by omega) rfl (by decide)) d_Mo_number_17 ?_
                            refine g_istore (lv' := [(4, .int (iI ((b0 / 256) % 4))), (3, .int (iI 4)), (2, .int (iI 81)), (1, .int (iI ((((0 + b1) + b2) + b3) + b4))), (0, .int (iI b0))]) ok d_Mo_number_18 (by decide) rfl ?_
                            refine g_iload ok d_Mo_number_20 0 rfl ?_
                            refine g_iconst ok d_Mo_number_22 ?_
                            refine g_icmp_ne ok 30 d_Mo_number_23 (by decide) (by omega) (by omega) (fun h10 => ?_) (fun h10 => ?_)
                            · refine g_iload_n ok d_Mo_number_30 rfl 3 rfl ?_
                              have J_53 : ∀ (b5 : Int), (b5 = tv ((b0 / 256) % 4) * 81) → gW p l e R s m args below meth c (MQ below (gQp (fun r => (r = 1000 ∧ has3 b0) ∨ (¬ has3 b0 ∧ r = numC b0))) args s 0 0 (fun _ => False)) D A 5 (gZ0 s) 0 0 ad 265 (mem ad t F G) 53 [(4, .int (iI ((b0 / 256) % 4))), (3, .int (iI 4)), (2, .int (iI 81)), (1, .int (iI ((((0 + b1) + b2) + b3) + b4))), (0, .int (iI b0))] [.int (iI b5), .int (iI ((((0 + b1) + b2) + b3) + b4))] := by
                                intro b5 hb5
                                have hrb5 : -81 ≤ b5 ∧ b5 ≤ 81 := by rw [hb5]; have := tv_rng (d := (b0 / 256) % 4) (by omega) (by omega); omega
                                refine g_iadd ok d_Mo_number_53 ?_
                                refine g_istore_n (lv' := [(1, .int (iI (((((0 + b1) + b2) + b3) + b4) + b5))), (4, .int (iI ((b0 / 256) % 4))), (3, .int (iI 4)), (2, .int (iI 81)), (0, .int (iI b0))]) ok d_Mo_number_54 rfl (by decide) rfl ?_
                                refine g_iconst ok d_Mo_number_55 ?_
                                refine g_iload_n ok d_Mo_number_56 rfl 3 rfl ?_
                                refine g_imul ok d_Mo_number_57 ?_
                                refine g_top (y := 243) rfl ?_
                                refine g_istore_n (lv' := [(2, .int (iI 243)), (1, .int (iI (((((0 + b1) + b2) + b3) + b4) + b5))), (4, .int (iI ((b0 / 256) % 4))), (3, .int (iI 4)), (0, .int (iI b0))]) ok d_Mo_number_58 rfl (by decide) rfl ?_
                                refine g_iinc (lv' := [(3, .int (iI 5)), (2, .int (iI 243)), (1, .int (iI (((((0 + b1) + b2) + b3) + b4) + b5))), (4, .int (iI ((b0 / 256) % 4))), (0, .int (iI b0))]) ok d_Mo_number_59 3 rfl (by decide) rfl ?_
                                refine g_goto ok 6 d_Mo_number_62 (by decide) ?_
                                refine g_iload_n ok d_Mo_number_6 rfl 0 rfl ?_
                                refine g_iconst ok d_Mo_number_7 ?_
                                refine g_icmp_ge ok 65 d_Mo_number_8 (by decide) (by omega) (by omega) (fun h11 => ?_) (fun h11 => ?_)
                                · refine g_iload_n ok d_Mo_number_65 rfl 2 rfl ?_
                                  exact g_ipret ok d_Mo_number_66 (Or.inr ⟨by unfold has3; omega, by unfold numC; omega⟩)
                                · exact absurd h11 (by decide)
                              refine g_iload ok d_Mo_number_31 0 rfl ?_
                              refine g_iconst ok d_Mo_number_33 ?_
                              refine g_icmp_ne ok 41 d_Mo_number_34 (by decide) (by omega) (by omega) (fun h12 => ?_) (fun h12 => ?_)
                              · refine g_iload ok d_Mo_number_41 0 rfl ?_
                                refine g_iconst ok d_Mo_number_43 ?_
                                refine g_icmp_ne ok 52 d_Mo_number_44 (by decide) (by omega) (by omega) (fun h13 => ?_) (fun h13 => ?_)
                                · refine g_iconst ok d_Mo_number_52 ?_
                                  exact J_53 0 (by rw [tv_n (by omega)]; omega)
                                · refine g_iload_n ok d_Mo_number_47 rfl 2 rfl ?_
                                  refine g_ineg ok d_Mo_number_48 ?_
                                  refine g_goto ok 53 d_Mo_number_49 (by decide) ?_
                                  exact J_53 (-81) (by rw [tv_2 (by omega)]; rfl)
                              · refine g_iload_n ok d_Mo_number_37 rfl 2 rfl ?_
                                refine g_goto ok 53 d_Mo_number_38 (by decide) ?_
                                exact J_53 81 (by rw [tv_n (by omega)]; omega)
                            · refine g_sipush ok (by decide) d_Mo_number_26 ?_
                              exact g_ipret ok d_Mo_number_29 (Or.inl ⟨rfl, by unfold has3; omega⟩)
                        refine g_iload ok d_Mo_number_31 0 rfl ?_
                        refine g_iconst ok d_Mo_number_33 ?_
                        refine g_icmp_ne ok 41 d_Mo_number_34 (by decide) (by omega) (by omega) (fun h14 => ?_) (fun h14 => ?_)
                        · refine g_iload ok d_Mo_number_41 0 rfl ?_
                          refine g_iconst ok d_Mo_number_43 ?_
                          refine g_icmp_ne ok 52 d_Mo_number_44 (by decide) (by omega) (by omega) (fun h15 => ?_) (fun h15 => ?_)
                          · refine g_iconst ok d_Mo_number_52 ?_
                            exact J_53 0 (by rw [tv_n (by omega)]; omega)
                          · refine g_iload_n ok d_Mo_number_47 rfl 2 rfl ?_
                            refine g_ineg ok d_Mo_number_48 ?_
                            refine g_goto ok 53 d_Mo_number_49 (by decide) ?_
                            exact J_53 (-27) (by rw [tv_2 (by omega)]; rfl)
                        · refine g_iload_n ok d_Mo_number_37 rfl 2 rfl ?_
                          refine g_goto ok 53 d_Mo_number_38 (by decide) ?_
                          exact J_53 27 (by rw [tv_n (by omega)]; omega)
                      · refine g_sipush ok (by decide) d_Mo_number_26 ?_
                        exact g_ipret ok d_Mo_number_29 (Or.inl ⟨rfl, by unfold has3; omega⟩)
                  refine g_iload ok d_Mo_number_31 0 rfl ?_
                  refine g_iconst ok d_Mo_number_33 ?_
                  refine g_icmp_ne ok 41 d_Mo_number_34 (by decide) (by omega) (by omega) (fun h16 => ?_) (fun h16 => ?_)
                  · refine g_iload ok d_Mo_number_41 0 rfl ?_
                    refine g_iconst ok d_Mo_number_43 ?_
                    refine g_icmp_ne ok 52 d_Mo_number_44 (by decide) (by omega) (by omega) (fun h17 => ?_) (fun h17 => ?_)
                    · refine g_iconst ok d_Mo_number_52 ?_
                      exact J_53 0 (by rw [tv_n (by omega)]; omega)
                    · refine g_iload_n ok d_Mo_number_47 rfl 2 rfl ?_
                      refine g_ineg ok d_Mo_number_48 ?_
                      refine g_goto ok 53 d_Mo_number_49 (by decide) ?_
                      exact J_53 (-9) (by rw [tv_2 (by omega)]; rfl)
                  · refine g_iload_n ok d_Mo_number_37 rfl 2 rfl ?_
                    refine g_goto ok 53 d_Mo_number_38 (by decide) ?_
                    exact J_53 9 (by rw [tv_n (by omega)]; omega)
                · refine g_sipush ok (by decide) d_Mo_number_26 ?_
                  exact g_ipret ok d_Mo_number_29 (Or.inl ⟨rfl, by unfold has3; omega⟩)
            refine g_iload ok d_Mo_number_31 0 rfl ?_
            refine g_iconst ok d_Mo_number_33 ?_
            refine g_icmp_ne ok 41 d_Mo_number_34 (by decide) (by omega) (by omega) (fun h18 => ?_) (fun h18 => ?_)
            · refine g_iload ok d_Mo_number_41 0 rfl ?_
              refine g_iconst ok d_Mo_number_43 ?_
              refine g_icmp_ne ok 52 d_Mo_number_44 (by decide) (by omega) (by omega) (fun h19 => ?_) (fun h19 => ?_)
              · refine g_iconst ok d_Mo_number_52 ?_
                exact J_53 0 (by rw [tv_n (by omega)]; omega)
              · refine g_iload_n ok d_Mo_number_47 rfl 2 rfl ?_
                refine g_ineg ok d_Mo_number_48 ?_
                refine g_goto ok 53 d_Mo_number_49 (by decide) ?_
                exact J_53 (-3) (by rw [tv_2 (by omega)]; rfl)
            · refine g_iload_n ok d_Mo_number_37 rfl 2 rfl ?_
              refine g_goto ok 53 d_Mo_number_38 (by decide) ?_
              exact J_53 3 (by rw [tv_n (by omega)]; omega)
          · refine g_sipush ok (by decide) d_Mo_number_26 ?_
            exact g_ipret ok d_Mo_number_29 (Or.inl ⟨rfl, by unfold has3; omega⟩)
      refine g_iload ok d_Mo_number_31 0 rfl ?_
      refine g_iconst ok d_Mo_number_33 ?_
      refine g_icmp_ne ok 41 d_Mo_number_34 (by decide) (by omega) (by omega) (fun h20 => ?_) (fun h20 => ?_)
      · refine g_iload ok d_Mo_number_41 0 rfl ?_
        refine g_iconst ok d_Mo_number_43 ?_
        refine g_icmp_ne ok 52 d_Mo_number_44 (by decide) (by omega) (by omega) (fun h21 => ?_) (fun h21 => ?_)
        · refine g_iconst ok d_Mo_number_52 ?_
          exact J_53 0 (by rw [tv_n (by omega)]; omega)
        · refine g_iload_n ok d_Mo_number_47 rfl 2 rfl ?_
          refine g_ineg ok d_Mo_number_48 ?_
          refine g_goto ok 53 d_Mo_number_49 (by decide) ?_
          exact J_53 (-1) (by rw [tv_2 (by omega)]; rfl)
      · refine g_iload_n ok d_Mo_number_37 rfl 2 rfl ?_
        refine g_goto ok 53 d_Mo_number_38 (by decide) ?_
        exact J_53 1 (by rw [tv_n (by omega)]; omega)
    · refine g_sipush ok (by decide) d_Mo_number_26 ?_
      exact g_ipret ok d_Mo_number_29 (Or.inl ⟨rfl, by unfold has3; omega⟩)
