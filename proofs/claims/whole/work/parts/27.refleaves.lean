theorem btw_iff {a b x : Int} : (x - a) * (x - b) ≤ 0 ↔ ((a ≤ x ∧ x ≤ b) ∨ (b ≤ x ∧ x ≤ a)) := by
  constructor
  · intro h
    rcases Int.lt_or_le x a with h1 | h1
    · rcases Int.lt_or_le x b with h2 | h2
      · have : 0 < (a - x) * (b - x) := Int.mul_pos (by omega) (by omega)
        have e : (a - x) * (b - x) = (x - a) * (x - b) := by rw [show a - x = -(x - a) by omega, show b - x = -(x - b) by omega, Int.neg_mul_neg]
        omega
      · omega
    · rcases Int.lt_or_le b x with h2 | h2
      · rcases Int.lt_or_eq_of_le h1 with h3 | h3
        · have : 0 < (x - a) * (x - b) := Int.mul_pos (by omega) (by omega)
          omega
        · omega
      · omega
  · rintro (h | h)
    · have : 0 ≤ (x - a) * (b - x) := Int.mul_nonneg (by omega) (by omega)
      have e : (x - a) * (b - x) = -((x - a) * (x - b)) := by rw [show b - x = -(x - b) by omega, Int.mul_neg]
      omega
    · have : 0 ≤ (a - x) * (x - b) := Int.mul_nonneg (by omega) (by omega)
      have e : (a - x) * (x - b) = -((x - a) * (x - b)) := by rw [show a - x = -(x - a) by omega, Int.neg_mul]
      omega
-- edges of the reference
def mE (G : Nat → Int → Int) (n : Int) : Prop := ∀ e : Int, 0 ≤ e → e < n → (0 ≤ G 251 e ∧ G 251 e ≤ 600) ∧ (0 ≤ G 252 e ∧ G 252 e ≤ 600) ∧ (0 ≤ G 253 e ∧ G 253 e ≤ 600) ∧ (0 ≤ G 254 e ∧ G 254 e ≤ 600) ∧ (0 ≤ G 255 e ∧ G 255 e ≤ 3) ∧ (0 ≤ G 256 e ∧ G 256 e ≤ 100)
def mOn (G : Nat → Int → Int) (x y e : Int) : Prop := eOn (G 251 e) (G 252 e) (G 253 e) (G 254 e) x y
def mCr (G : Nat → Int → Int) (x y e : Int) : Prop := eCr (G 251 e) (G 252 e) (G 253 e) (G 254 e) x y
def mBack (G : Nat → Int → Int) (i j : Int) : Prop := eBack (G 251 i) (G 252 i) (G 253 i) (G 254 i) (G 251 j) (G 252 j) (G 253 j) (G 254 j)
def mTouch (G : Nat → Int → Int) (a b : Int) : Prop := mOn G (G 251 b) (G 252 b) a ∨ mOn G (G 253 b) (G 254 b) a ∨ mOn G (G 251 a) (G 252 a) b ∨ mOn G (G 253 a) (G 254 a) b ∨ (sgn (eTurn (G 251 a) (G 252 a) (G 253 a) (G 254 a) (G 251 b) (G 252 b)) * sgn (eTurn (G 251 a) (G 252 a) (G 253 a) (G 254 a) (G 253 b) (G 254 b)) < 0 ∧ sgn (eTurn (G 251 b) (G 252 b) (G 253 b) (G 254 b) (G 251 a) (G 252 a)) * sgn (eTurn (G 251 b) (G 252 b) (G 253 b) (G 254 b) (G 253 a) (G 254 a)) < 0)
theorem d_Mo_size_0 : decode b_Mo_size 0 = .ok (.iload_n 0, 1) := by decide +kernel
theorem d_Mo_size_1 : decode b_Mo_size 1 = .ok (.ifCond .ge 8, 3) := by decide +kernel
theorem d_Mo_size_4 : decode b_Mo_size 4 = .ok (.iload_n 0, 1) := by decide +kernel
theorem d_Mo_size_5 : decode b_Mo_size 5 = .ok (.ineg, 1) := by decide +kernel
theorem d_Mo_size_6 : decode b_Mo_size 6 = .ok (.goto 4, 3) := by decide +kernel
theorem d_Mo_size_9 : decode b_Mo_size 9 = .ok (.iload_n 0, 1) := by decide +kernel
theorem d_Mo_size_10 : decode b_Mo_size 10 = .ok (.ireturn, 1) := by decide +kernel
set_option maxHeartbeats 4000000 in
set_option maxRecDepth 100000 in
theorem c_Mo_size (F : Nat → Nat → Int) (G : Nat → Int → Int) (a : Int) (ha : -2147483648 < a ∧ a < 2147483648) : cP y_Mo_size b_Mo_size 1 (some .int) 0 0 F G (fun ad => [.int (iI a)]) (fun r => r = if a < 0 then -a else a) := by
  intro s0 a0 D t ad
  refine g_startP (by decide +kernel) (Nat.le_of_ble_eq_true rfl) (fun p l e R s m args below meth c A ok => ?_)
  show gW p l e R s m args below meth c _ D A 1 (gZ0 s) 0 0 ad 265 (mem ad t F G) 0 [(0, .int (iI a))] []
  refine g_iload_n ok d_Mo_size_0 rfl 0 rfl ?_
  refine g_if_ge ok 9 d_Mo_size_1 (by decide) (by omega) (fun h1 => ?_) (fun h1 => ?_)
  · refine g_iload_n ok d_Mo_size_9 rfl 0 rfl ?_
    exact g_ipret ok d_Mo_size_10 (by split <;> omega)
  · refine g_iload_n ok d_Mo_size_4 rfl 0 rfl ?_
    refine g_ineg ok d_Mo_size_5 ?_
    refine g_goto ok 10 d_Mo_size_6 (by decide) ?_
    exact g_ipret ok d_Mo_size_10 (by split <;> omega)
theorem d_Mo_greater_0 : decode b_Mo_greater 0 = .ok (.iload_n 0, 1) := by decide +kernel
theorem d_Mo_greater_1 : decode b_Mo_greater 1 = .ok (.iload_n 1, 1) := by decide +kernel
theorem d_Mo_greater_2 : decode b_Mo_greater 2 = .ok (.if_icmp .le 7, 3) := by decide +kernel
theorem d_Mo_greater_5 : decode b_Mo_greater 5 = .ok (.iload_n 0, 1) := by decide +kernel
theorem d_Mo_greater_6 : decode b_Mo_greater 6 = .ok (.goto 4, 3) := by decide +kernel
theorem d_Mo_greater_9 : decode b_Mo_greater 9 = .ok (.iload_n 1, 1) := by decide +kernel
theorem d_Mo_greater_10 : decode b_Mo_greater 10 = .ok (.ireturn, 1) := by decide +kernel
set_option maxHeartbeats 4000000 in
set_option maxRecDepth 100000 in
theorem c_Mo_greater (F : Nat → Nat → Int) (G : Nat → Int → Int) (a b : Int) (ha : -2147483648 ≤ a ∧ a < 2147483648) (hb : -2147483648 ≤ b ∧ b < 2147483648) : cP y_Mo_greater b_Mo_greater 2 (some .int) 0 0 F G (fun ad => [.int (iI a), .int (iI b)]) (fun r => r = max a b) := by
  intro s0 a0 D t ad
  refine g_startP (by decide +kernel) (Nat.le_of_ble_eq_true rfl) (fun p l e R s m args below meth c A ok => ?_)
  show gW p l e R s m args below meth c _ D A 2 (gZ0 s) 0 0 ad 265 (mem ad t F G) 0 [(0, .int (iI a)), (1, .int (iI b))] []
  refine g_iload_n ok d_Mo_greater_0 rfl 0 rfl ?_
  refine g_iload_n ok d_Mo_greater_1 rfl 1 rfl ?_
  refine g_icmp_le ok 9 d_Mo_greater_2 (by decide) (by omega) (by omega) (fun h1 => ?_) (fun h1 => ?_)
  · refine g_iload_n ok d_Mo_greater_9 rfl 1 rfl ?_
    exact g_ipret ok d_Mo_greater_10 (by omega)
  · refine g_iload_n ok d_Mo_greater_5 rfl 0 rfl ?_
    refine g_goto ok 10 d_Mo_greater_6 (by decide) ?_
    exact g_ipret ok d_Mo_greater_10 (by omega)
theorem d_Mo_isPlace_0 : decode b_Mo_isPlace 0 = .ok (.iload_n 0, 1) := by decide +kernel
theorem d_Mo_isPlace_1 : decode b_Mo_isPlace 1 = .ok (.ifCond .lt 25, 3) := by decide +kernel
theorem d_Mo_isPlace_4 : decode b_Mo_isPlace 4 = .ok (.iload_n 0, 1) := by decide +kernel
theorem d_Mo_isPlace_5 : decode b_Mo_isPlace 5 = .ok (.sipush 600, 3) := by decide +kernel
theorem d_Mo_isPlace_8 : decode b_Mo_isPlace 8 = .ok (.if_icmp .gt 18, 3) := by decide +kernel
theorem d_Mo_isPlace_11 : decode b_Mo_isPlace 11 = .ok (.iload_n 1, 1) := by decide +kernel
theorem d_Mo_isPlace_12 : decode b_Mo_isPlace 12 = .ok (.ifCond .lt 14, 3) := by decide +kernel
theorem d_Mo_isPlace_15 : decode b_Mo_isPlace 15 = .ok (.iload_n 1, 1) := by decide +kernel
theorem d_Mo_isPlace_16 : decode b_Mo_isPlace 16 = .ok (.sipush 600, 3) := by decide +kernel
theorem d_Mo_isPlace_19 : decode b_Mo_isPlace 19 = .ok (.if_icmp .gt 7, 3) := by decide +kernel
theorem d_Mo_isPlace_22 : decode b_Mo_isPlace 22 = .ok (.iconst 1, 1) := by decide +kernel
theorem d_Mo_isPlace_23 : decode b_Mo_isPlace 23 = .ok (.goto 4, 3) := by decide +kernel
theorem d_Mo_isPlace_26 : decode b_Mo_isPlace 26 = .ok (.iconst 0, 1) := by decide +kernel
theorem d_Mo_isPlace_27 : decode b_Mo_isPlace 27 = .ok (.ireturn, 1) := by decide +kernel
set_option maxHeartbeats 4000000 in
set_option maxRecDepth 100000 in
theorem c_Mo_isPlace (F : Nat → Nat → Int) (G : Nat → Int → Int) (x y : Int) (hx : -2147483648 ≤ x ∧ x < 2147483648) (hy : -2147483648 ≤ y ∧ y < 2147483648) : cP y_Mo_isPlace b_Mo_isPlace 2 (some .boolean) 0 0 F G (fun ad => [.int (iI x), .int (iI y)]) (fun r => r = if 0 ≤ x ∧ x ≤ 600 ∧ 0 ≤ y ∧ y ≤ 600 then 1 else 0) := by
  intro s0 a0 D t ad
  refine g_startP (by decide +kernel) (Nat.le_of_ble_eq_true rfl) (fun p l e R s m args below meth c A ok => ?_)
  show gW p l e R s m args below meth c _ D A 2 (gZ0 s) 0 0 ad 265 (mem ad t F G) 0 [(0, .int (iI x)), (1, .int (iI y))] []
  refine g_iload_n ok d_Mo_isPlace_0 rfl 0 rfl ?_
  refine g_if_lt ok 26 d_Mo_isPlace_1 (by decide) (by omega) (fun h1 => ?_) (fun h1 => ?_)
  · refine g_iconst ok d_Mo_isPlace_26 ?_
    exact g_zpret ok d_Mo_isPlace_27 (by first | exact Or.inl rfl | exact Or.inr rfl | omega) (by split <;> omega)
  · refine g_iload_n ok d_Mo_isPlace_4 rfl 0 rfl ?_
    refine g_sipush ok (by decide) d_Mo_isPlace_5 ?_
    refine g_icmp_gt ok 26 d_Mo_isPlace_8 (by decide) (by omega) (by omega) (fun h2 => ?_) (fun h2 => ?_)
    · refine g_iconst ok d_Mo_isPlace_26 ?_
      exact g_zpret ok d_Mo_isPlace_27 (by first | exact Or.inl rfl | exact Or.inr rfl | omega) (by split <;> omega)
    · refine g_iload_n ok d_Mo_isPlace_11 rfl 1 rfl ?_
      refine g_if_lt ok 26 d_Mo_isPlace_12 (by decide) (by omega) (fun h3 => ?_) (fun h3 => ?_)
      · refine g_iconst ok d_Mo_isPlace_26 ?_
        exact g_zpret ok d_Mo_isPlace_27 (by first | exact Or.inl rfl | exact Or.inr rfl | omega) (by split <;> omega)
      · refine g_iload_n ok d_Mo_isPlace_15 rfl 1 rfl ?_
        refine g_sipush ok (by decide) d_Mo_isPlace_16 ?_
        refine g_icmp_gt ok 26 d_Mo_isPlace_19 (by decide) (by omega) (by omega) (fun h4 => ?_) (fun h4 => ?_)
        · refine g_iconst ok d_Mo_isPlace_26 ?_
          exact g_zpret ok d_Mo_isPlace_27 (by first | exact Or.inl rfl | exact Or.inr rfl | omega) (by split <;> omega)
        · refine g_iconst ok d_Mo_isPlace_22 ?_
          refine g_goto ok 27 d_Mo_isPlace_23 (by decide) ?_
          exact g_zpret ok d_Mo_isPlace_27 (by first | exact Or.inl rfl | exact Or.inr rfl | omega) (by split <;> omega)
theorem d_Mo_sign_0 : decode b_Mo_sign 0 = .ok (.iload_n 0, 1) := by decide +kernel
theorem d_Mo_sign_1 : decode b_Mo_sign 1 = .ok (.ifCond .le 7, 3) := by decide +kernel
theorem d_Mo_sign_4 : decode b_Mo_sign 4 = .ok (.iconst 1, 1) := by decide +kernel
theorem d_Mo_sign_5 : decode b_Mo_sign 5 = .ok (.goto 12, 3) := by decide +kernel
theorem d_Mo_sign_8 : decode b_Mo_sign 8 = .ok (.iload_n 0, 1) := by decide +kernel
theorem d_Mo_sign_9 : decode b_Mo_sign 9 = .ok (.ifCond .ge 7, 3) := by decide +kernel
theorem d_Mo_sign_12 : decode b_Mo_sign 12 = .ok (.iconst (-1), 1) := by decide +kernel
theorem d_Mo_sign_13 : decode b_Mo_sign 13 = .ok (.goto 4, 3) := by decide +kernel
theorem d_Mo_sign_16 : decode b_Mo_sign 16 = .ok (.iconst 0, 1) := by decide +kernel
theorem d_Mo_sign_17 : decode b_Mo_sign 17 = .ok (.ireturn, 1) := by decide +kernel
set_option maxHeartbeats 4000000 in
set_option maxRecDepth 100000 in
theorem c_Mo_sign (F : Nat → Nat → Int) (G : Nat → Int → Int) (a : Int) (ha : -2147483648 ≤ a ∧ a < 2147483648) : cP y_Mo_sign b_Mo_sign 1 (some .int) 0 0 F G (fun ad => [.int (iI a)]) (fun r => r = sgn a) := by
  intro s0 a0 D t ad
  refine g_startP (by decide +kernel) (Nat.le_of_ble_eq_true rfl) (fun p l e R s m args below meth c A ok => ?_)
  show gW p l e R s m args below meth c _ D A 1 (gZ0 s) 0 0 ad 265 (mem ad t F G) 0 [(0, .int (iI a))] []
  refine g_iload_n ok d_Mo_sign_0 rfl 0 rfl ?_
  refine g_if_le ok 8 d_Mo_sign_1 (by decide) (by omega) (fun h1 => ?_) (fun h1 => ?_)
  · refine g_iload_n ok d_Mo_sign_8 rfl 0 rfl ?_
    refine g_if_ge ok 16 d_Mo_sign_9 (by decide) (by omega) (fun h2 => ?_) (fun h2 => ?_)
    · refine g_iconst ok d_Mo_sign_16 ?_
      exact g_ipret ok d_Mo_sign_17 (by unfold sgn; split <;> (try split) <;> omega)
    · refine g_iconst ok d_Mo_sign_12 ?_
      refine g_goto ok 17 d_Mo_sign_13 (by decide) ?_
      exact g_ipret ok d_Mo_sign_17 (by unfold sgn; split <;> (try split) <;> omega)
  · refine g_iconst ok d_Mo_sign_4 ?_
    refine g_goto ok 17 d_Mo_sign_5 (by decide) ?_
    exact g_ipret ok d_Mo_sign_17 (by unfold sgn; split <;> (try split) <;> omega)
theorem d_Mo_turn_0 : decode b_Mo_turn 0 = .ok (.iload_n 2, 1) := by decide +kernel
theorem d_Mo_turn_1 : decode b_Mo_turn 1 = .ok (.iload_n 0, 1) := by decide +kernel
theorem d_Mo_turn_2 : decode b_Mo_turn 2 = .ok (.isub, 1) := by decide +kernel
theorem d_Mo_turn_3 : decode b_Mo_turn 3 = .ok (.iload 5, 2) := by decide +kernel
theorem d_Mo_turn_5 : decode b_Mo_turn 5 = .ok (.iload_n 1, 1) := by decide +kernel
theorem d_Mo_turn_6 : decode b_Mo_turn 6 = .ok (.isub, 1) := by decide +kernel
theorem d_Mo_turn_7 : decode b_Mo_turn 7 = .ok (.imul, 1) := by decide +kernel
theorem d_Mo_turn_8 : decode b_Mo_turn 8 = .ok (.iload_n 3, 1) := by decide +kernel
theorem d_Mo_turn_9 : decode b_Mo_turn 9 = .ok (.iload_n 1, 1) := by decide +kernel
theorem d_Mo_turn_10 : decode b_Mo_turn 10 = .ok (.isub, 1) := by decide +kernel
theorem d_Mo_turn_11 : decode b_Mo_turn 11 = .ok (.iload 4, 2) := by decide +kernel
theorem d_Mo_turn_13 : decode b_Mo_turn 13 = .ok (.iload_n 0, 1) := by decide +kernel
theorem d_Mo_turn_14 : decode b_Mo_turn 14 = .ok (.isub, 1) := by decide +kernel
theorem d_Mo_turn_15 : decode b_Mo_turn 15 = .ok (.imul, 1) := by decide +kernel
theorem d_Mo_turn_16 : decode b_Mo_turn 16 = .ok (.isub, 1) := by decide +kernel
theorem d_Mo_turn_17 : decode b_Mo_turn 17 = .ok (.ireturn, 1) := by decide +kernel
set_option maxHeartbeats 4000000 in
set_option maxRecDepth 100000 in
theorem c_Mo_turn (F : Nat → Nat → Int) (G : Nat → Int → Int) (a1 b1 a2 b2 x y : Int) : cP y_Mo_turn b_Mo_turn 6 (some .int) 0 0 F G (fun ad => [.int (iI a1), .int (iI b1), .int (iI a2), .int (iI b2), .int (iI x), .int (iI y)]) (fun r => r = eTurn a1 b1 a2 b2 x y) := by
  intro s0 a0 D t ad
  refine g_startP (by decide +kernel) (Nat.le_of_ble_eq_true rfl) (fun p l e R s m args below meth c A ok => ?_)
  show gW p l e R s m args below meth c _ D A 6 (gZ0 s) 0 0 ad 265 (mem ad t F G) 0 [(0, .int (iI a1)), (1, .int (iI b1)), (2, .int (iI a2)), (3, .int (iI b2)), (4, .int (iI x)), (5, .int (iI y))] []
  refine g_iload_n ok d_Mo_turn_0 rfl 2 rfl ?_
  refine g_iload_n ok d_Mo_turn_1 rfl 0 rfl ?_
  refine g_isub ok d_Mo_turn_2 ?_
  refine g_iload ok d_Mo_turn_3 5 rfl ?_
  refine g_iload_n ok d_Mo_turn_5 rfl 1 rfl ?_
  refine g_isub ok d_Mo_turn_6 ?_
  refine g_imul ok d_Mo_turn_7 ?_
  refine g_iload_n ok d_Mo_turn_8 rfl 3 rfl ?_
  refine g_iload_n ok d_Mo_turn_9 rfl 1 rfl ?_
  refine g_isub ok d_Mo_turn_10 ?_
  refine g_iload ok d_Mo_turn_11 4 rfl ?_
  refine g_iload_n ok d_Mo_turn_13 rfl 0 rfl ?_
  refine g_isub ok d_Mo_turn_14 ?_
  refine g_imul ok d_Mo_turn_15 ?_
  refine g_isub ok d_Mo_turn_16 ?_
  exact g_ipret ok d_Mo_turn_17 (by unfold eTurn; rw [Int.mul_comm (x - a1) (b2 - b1)])
theorem mod_neg {a b : Int} (hb : 0 < b) : a.tmod b < 0 ↔ ¬ (0 ≤ a ∨ b ∣ a) := by
  constructor
  · intro h q
    rcases q with q | q
    · have := Int.tmod_nonneg b q; omega
    · have := Int.tmod_eq_zero_of_dvd q; omega
  · intro h
    have h1 : ¬ 0 ≤ a := fun q => h (Or.inl q)
    have h2 : ¬ a.tmod b = 0 := fun q => h (Or.inr (Int.dvd_of_tmod_eq_zero q))
    have h3 : (-a).tmod b = -(a.tmod b) := Int.neg_tmod a b
    have h4 := Int.tmod_nonneg b (show 0 ≤ -a by omega)
    omega
theorem tmod_rng {a b : Int} (ha : -2147483648 ≤ a ∧ a < 2147483648) (hb : 0 < b ∧ b < 2147483648) : -2147483648 ≤ a.tmod b ∧ a.tmod b < 2147483648 := by
  have h1 := Int.tmod_def a b
  have h2 := tdiv_mul_rng ha hb.1
  have h3 := tmod_bounds (a := a) hb.1
  omega
theorem d_Mo_down_0 : decode b_Mo_down 0 = .ok (.iload_n 0, 1) := by decide +kernel
theorem d_Mo_down_1 : decode b_Mo_down 1 = .ok (.iload_n 1, 1) := by decide +kernel
theorem d_Mo_down_2 : decode b_Mo_down 2 = .ok (.idiv, 1) := by decide +kernel
theorem d_Mo_down_3 : decode b_Mo_down 3 = .ok (.istore_n 2, 1) := by decide +kernel
theorem d_Mo_down_4 : decode b_Mo_down 4 = .ok (.iload_n 0, 1) := by decide +kernel
theorem d_Mo_down_5 : decode b_Mo_down 5 = .ok (.iload_n 1, 1) := by decide +kernel
theorem d_Mo_down_6 : decode b_Mo_down 6 = .ok (.irem, 1) := by decide +kernel
theorem d_Mo_down_7 : decode b_Mo_down 7 = .ok (.ifCond .ge 9, 3) := by decide +kernel
theorem d_Mo_down_10 : decode b_Mo_down 10 = .ok (.iload_n 2, 1) := by decide +kernel
theorem d_Mo_down_11 : decode b_Mo_down 11 = .ok (.iconst 1, 1) := by decide +kernel
theorem d_Mo_down_12 : decode b_Mo_down 12 = .ok (.isub, 1) := by decide +kernel
theorem d_Mo_down_13 : decode b_Mo_down 13 = .ok (.goto 4, 3) := by decide +kernel
theorem d_Mo_down_16 : decode b_Mo_down 16 = .ok (.iload_n 2, 1) := by decide +kernel
theorem d_Mo_down_17 : decode b_Mo_down 17 = .ok (.ireturn, 1) := by decide +kernel
set_option maxHeartbeats 4000000 in
set_option maxRecDepth 100000 in
theorem c_Mo_down (F : Nat → Nat → Int) (G : Nat → Int → Int) (a b : Int) (ha : -2147483648 ≤ a ∧ a < 2147483648) (hb : 0 < b ∧ b < 2147483648) : cP y_Mo_down b_Mo_down 3 (some .int) 0 0 F G (fun ad => [.int (iI a), .int (iI b)]) (fun r => r = a / b) := by
  have r1 := tdiv_rng ha hb.1
  have r2 := tmod_rng ha hb
  have r3 := mod_neg (a := a) hb.1
  intro s0 a0 D t ad
  refine g_startP (by decide +kernel) (Nat.le_of_ble_eq_true rfl) (fun p l e R s m args below meth c A ok => ?_)
  show gW p l e R s m args below meth c _ D A 3 (gZ0 s) 0 0 ad 265 (mem ad t F G) 0 [(0, .int (iI a)), (1, .int (iI b))] []
  refine g_iload_n ok d_Mo_down_0 rfl 0 rfl ?_
  refine g_iload_n ok d_Mo_down_1 rfl 1 rfl ?_
  refine g_idiv (z := Int.tdiv a b) ok (iI_ne0 hb) (iI_div ha hb) d_Mo_down_2 ?_
  refine g_istore_n (lv' := [(2, .int (iI (Int.tdiv a b))), (0, .int (iI a)), (1, .int (iI b))]) ok d_Mo_down_3 rfl (by decide) rfl ?_
  refine g_iload_n ok d_Mo_down_4 rfl 1 rfl ?_
  refine g_iload_n ok d_Mo_down_5 rfl 2 rfl ?_
  refine g_irem (z := Int.tmod a b) ok (iI_ne0 hb) (iI_rem ha hb) d_Mo_down_6 ?_
  refine g_if_ge ok 16 d_Mo_down_7 (by decide) (by omega) (fun h1 => ?_) (fun h1 => ?_)
  · refine g_iload_n ok d_Mo_down_16 rfl 0 rfl ?_
    exact g_ipret ok d_Mo_down_17 (fdiv_lo hb.1 (Decidable.byContradiction fun q => absurd (r3.mpr q) (by omega)))
  · refine g_iload_n ok d_Mo_down_10 rfl 0 rfl ?_
    refine g_iconst ok d_Mo_down_11 ?_
    refine g_isub ok d_Mo_down_12 ?_
    refine g_goto ok 17 d_Mo_down_13 (by decide) ?_
    exact g_ipret ok d_Mo_down_17 (fdiv_hi hb.1 (r3.mp (by omega)))
theorem d_Mo_onEdge_0 : decode b_Mo_onEdge 0 = .ok (.aload_n 0, 1) := by decide +kernel
theorem d_Mo_onEdge_1 : decode b_Mo_onEdge 1 = .ok (.getfield 51, 3) := by decide +kernel
theorem d_Mo_onEdge_4 : decode b_Mo_onEdge 4 = .ok (.iload_n 1, 1) := by decide +kernel
theorem d_Mo_onEdge_5 : decode b_Mo_onEdge 5 = .ok (.iaload, 1) := by decide +kernel
theorem d_Mo_onEdge_6 : decode b_Mo_onEdge 6 = .ok (.aload_n 0, 1) := by decide +kernel
theorem d_Mo_onEdge_7 : decode b_Mo_onEdge 7 = .ok (.getfield 54, 3) := by decide +kernel
theorem d_Mo_onEdge_10 : decode b_Mo_onEdge 10 = .ok (.iload_n 1, 1) := by decide +kernel
theorem d_Mo_onEdge_11 : decode b_Mo_onEdge 11 = .ok (.iaload, 1) := by decide +kernel
theorem d_Mo_onEdge_12 : decode b_Mo_onEdge 12 = .ok (.aload_n 0, 1) := by decide +kernel
theorem d_Mo_onEdge_13 : decode b_Mo_onEdge 13 = .ok (.getfield 57, 3) := by decide +kernel
theorem d_Mo_onEdge_16 : decode b_Mo_onEdge 16 = .ok (.iload_n 1, 1) := by decide +kernel
theorem d_Mo_onEdge_17 : decode b_Mo_onEdge 17 = .ok (.iaload, 1) := by decide +kernel
theorem d_Mo_onEdge_18 : decode b_Mo_onEdge 18 = .ok (.aload_n 0, 1) := by decide +kernel
theorem d_Mo_onEdge_19 : decode b_Mo_onEdge 19 = .ok (.getfield 60, 3) := by decide +kernel
theorem d_Mo_onEdge_22 : decode b_Mo_onEdge 22 = .ok (.iload_n 1, 1) := by decide +kernel
theorem d_Mo_onEdge_23 : decode b_Mo_onEdge 23 = .ok (.iaload, 1) := by decide +kernel
theorem d_Mo_onEdge_24 : decode b_Mo_onEdge 24 = .ok (.iload_n 2, 1) := by decide +kernel
theorem d_Mo_onEdge_25 : decode b_Mo_onEdge 25 = .ok (.iload_n 3, 1) := by decide +kernel
theorem d_Mo_onEdge_26 : decode b_Mo_onEdge 26 = .ok (.invokestatic 123, 3) := by decide +kernel
theorem d_Mo_onEdge_29 : decode b_Mo_onEdge 29 = .ok (.ifCond .eq 5, 3) := by decide +kernel
theorem d_Mo_onEdge_32 : decode b_Mo_onEdge 32 = .ok (.iconst 0, 1) := by decide +kernel
theorem d_Mo_onEdge_33 : decode b_Mo_onEdge 33 = .ok (.ireturn, 1) := by decide +kernel
theorem d_Mo_onEdge_34 : decode b_Mo_onEdge 34 = .ok (.aload_n 0, 1) := by decide +kernel
theorem d_Mo_onEdge_35 : decode b_Mo_onEdge 35 = .ok (.getfield 57, 3) := by decide +kernel
theorem d_Mo_onEdge_38 : decode b_Mo_onEdge 38 = .ok (.iload_n 1, 1) := by decide +kernel
theorem d_Mo_onEdge_39 : decode b_Mo_onEdge 39 = .ok (.iaload, 1) := by decide +kernel
theorem d_Mo_onEdge_40 : decode b_Mo_onEdge 40 = .ok (.aload_n 0, 1) := by decide +kernel
theorem d_Mo_onEdge_41 : decode b_Mo_onEdge 41 = .ok (.getfield 51, 3) := by decide +kernel
theorem d_Mo_onEdge_44 : decode b_Mo_onEdge 44 = .ok (.iload_n 1, 1) := by decide +kernel
theorem d_Mo_onEdge_45 : decode b_Mo_onEdge 45 = .ok (.iaload, 1) := by decide +kernel
theorem d_Mo_onEdge_46 : decode b_Mo_onEdge 46 = .ok (.isub, 1) := by decide +kernel
theorem d_Mo_onEdge_47 : decode b_Mo_onEdge 47 = .ok (.invokestatic 127, 3) := by decide +kernel
theorem d_Mo_onEdge_50 : decode b_Mo_onEdge 50 = .ok (.iload_n 2, 1) := by decide +kernel
theorem d_Mo_onEdge_51 : decode b_Mo_onEdge 51 = .ok (.aload_n 0, 1) := by decide +kernel
theorem d_Mo_onEdge_52 : decode b_Mo_onEdge 52 = .ok (.getfield 51, 3) := by decide +kernel
theorem d_Mo_onEdge_55 : decode b_Mo_onEdge 55 = .ok (.iload_n 1, 1) := by decide +kernel
theorem d_Mo_onEdge_56 : decode b_Mo_onEdge 56 = .ok (.iaload, 1) := by decide +kernel
theorem d_Mo_onEdge_57 : decode b_Mo_onEdge 57 = .ok (.isub, 1) := by decide +kernel
theorem d_Mo_onEdge_58 : decode b_Mo_onEdge 58 = .ok (.invokestatic 127, 3) := by decide +kernel
theorem d_Mo_onEdge_61 : decode b_Mo_onEdge 61 = .ok (.if_icmp .lt 97, 3) := by decide +kernel
theorem d_Mo_onEdge_64 : decode b_Mo_onEdge 64 = .ok (.aload_n 0, 1) := by decide +kernel
theorem d_Mo_onEdge_65 : decode b_Mo_onEdge 65 = .ok (.getfield 57, 3) := by decide +kernel
theorem d_Mo_onEdge_68 : decode b_Mo_onEdge 68 = .ok (.iload_n 1, 1) := by decide +kernel
theorem d_Mo_onEdge_69 : decode b_Mo_onEdge 69 = .ok (.iaload, 1) := by decide +kernel
theorem d_Mo_onEdge_70 : decode b_Mo_onEdge 70 = .ok (.aload_n 0, 1) := by decide +kernel
theorem d_Mo_onEdge_71 : decode b_Mo_onEdge 71 = .ok (.getfield 51, 3) := by decide +kernel
theorem d_Mo_onEdge_74 : decode b_Mo_onEdge 74 = .ok (.iload_n 1, 1) := by decide +kernel
theorem d_Mo_onEdge_75 : decode b_Mo_onEdge 75 = .ok (.iaload, 1) := by decide +kernel
theorem d_Mo_onEdge_76 : decode b_Mo_onEdge 76 = .ok (.isub, 1) := by decide +kernel
theorem d_Mo_onEdge_77 : decode b_Mo_onEdge 77 = .ok (.invokestatic 127, 3) := by decide +kernel
theorem d_Mo_onEdge_80 : decode b_Mo_onEdge 80 = .ok (.aload_n 0, 1) := by decide +kernel
theorem d_Mo_onEdge_81 : decode b_Mo_onEdge 81 = .ok (.getfield 57, 3) := by decide +kernel
theorem d_Mo_onEdge_84 : decode b_Mo_onEdge 84 = .ok (.iload_n 1, 1) := by decide +kernel
theorem d_Mo_onEdge_85 : decode b_Mo_onEdge 85 = .ok (.iaload, 1) := by decide +kernel
theorem d_Mo_onEdge_86 : decode b_Mo_onEdge 86 = .ok (.iload_n 2, 1) := by decide +kernel
theorem d_Mo_onEdge_87 : decode b_Mo_onEdge 87 = .ok (.isub, 1) := by decide +kernel
theorem d_Mo_onEdge_88 : decode b_Mo_onEdge 88 = .ok (.invokestatic 127, 3) := by decide +kernel
theorem d_Mo_onEdge_91 : decode b_Mo_onEdge 91 = .ok (.if_icmp .lt 67, 3) := by decide +kernel
theorem d_Mo_onEdge_94 : decode b_Mo_onEdge 94 = .ok (.aload_n 0, 1) := by decide +kernel
theorem d_Mo_onEdge_95 : decode b_Mo_onEdge 95 = .ok (.getfield 60, 3) := by decide +kernel
theorem d_Mo_onEdge_98 : decode b_Mo_onEdge 98 = .ok (.iload_n 1, 1) := by decide +kernel
theorem d_Mo_onEdge_99 : decode b_Mo_onEdge 99 = .ok (.iaload, 1) := by decide +kernel
theorem d_Mo_onEdge_100 : decode b_Mo_onEdge 100 = .ok (.aload_n 0, 1) := by decide +kernel
theorem d_Mo_onEdge_101 : decode b_Mo_onEdge 101 = .ok (.getfield 54, 3) := by decide +kernel
theorem d_Mo_onEdge_104 : decode b_Mo_onEdge 104 = .ok (.iload_n 1, 1) := by decide +kernel
theorem d_Mo_onEdge_105 : decode b_Mo_onEdge 105 = .ok (.iaload, 1) := by decide +kernel
theorem d_Mo_onEdge_106 : decode b_Mo_onEdge 106 = .ok (.isub, 1) := by decide +kernel
theorem d_Mo_onEdge_107 : decode b_Mo_onEdge 107 = .ok (.invokestatic 127, 3) := by decide +kernel
theorem d_Mo_onEdge_110 : decode b_Mo_onEdge 110 = .ok (.iload_n 3, 1) := by decide +kernel
theorem d_Mo_onEdge_111 : decode b_Mo_onEdge 111 = .ok (.aload_n 0, 1) := by decide +kernel
theorem d_Mo_onEdge_112 : decode b_Mo_onEdge 112 = .ok (.getfield 54, 3) := by decide +kernel
theorem d_Mo_onEdge_115 : decode b_Mo_onEdge 115 = .ok (.iload_n 1, 1) := by decide +kernel
theorem d_Mo_onEdge_116 : decode b_Mo_onEdge 116 = .ok (.iaload, 1) := by decide +kernel
theorem d_Mo_onEdge_117 : decode b_Mo_onEdge 117 = .ok (.isub, 1) := by decide +kernel
theorem d_Mo_onEdge_118 : decode b_Mo_onEdge 118 = .ok (.invokestatic 127, 3) := by decide +kernel
theorem d_Mo_onEdge_121 : decode b_Mo_onEdge 121 = .ok (.if_icmp .lt 37, 3) := by decide +kernel
theorem d_Mo_onEdge_124 : decode b_Mo_onEdge 124 = .ok (.aload_n 0, 1) := by decide +kernel
theorem d_Mo_onEdge_125 : decode b_Mo_onEdge 125 = .ok (.getfield 60, 3) := by decide +kernel
theorem d_Mo_onEdge_128 : decode b_Mo_onEdge 128 = .ok (.iload_n 1, 1) := by decide +kernel
theorem d_Mo_onEdge_129 : decode b_Mo_onEdge 129 = .ok (.iaload, 1) := by decide +kernel
theorem d_Mo_onEdge_130 : decode b_Mo_onEdge 130 = .ok (.aload_n 0, 1) := by decide +kernel
theorem d_Mo_onEdge_131 : decode b_Mo_onEdge 131 = .ok (.getfield 54, 3) := by decide +kernel
theorem d_Mo_onEdge_134 : decode b_Mo_onEdge 134 = .ok (.iload_n 1, 1) := by decide +kernel
theorem d_Mo_onEdge_135 : decode b_Mo_onEdge 135 = .ok (.iaload, 1) := by decide +kernel
theorem d_Mo_onEdge_136 : decode b_Mo_onEdge 136 = .ok (.isub, 1) := by decide +kernel
theorem d_Mo_onEdge_137 : decode b_Mo_onEdge 137 = .ok (.invokestatic 127, 3) := by decide +kernel
theorem d_Mo_onEdge_140 : decode b_Mo_onEdge 140 = .ok (.aload_n 0, 1) := by decide +kernel
theorem d_Mo_onEdge_141 : decode b_Mo_onEdge 141 = .ok (.getfield 60, 3) := by decide +kernel
theorem d_Mo_onEdge_144 : decode b_Mo_onEdge 144 = .ok (.iload_n 1, 1) := by decide +kernel
theorem d_Mo_onEdge_145 : decode b_Mo_onEdge 145 = .ok (.iaload, 1) := by decide +kernel
theorem d_Mo_onEdge_146 : decode b_Mo_onEdge 146 = .ok (.iload_n 3, 1) := by decide +kernel
theorem d_Mo_onEdge_147 : decode b_Mo_onEdge 147 = .ok (.isub, 1) := by decide +kernel
theorem d_Mo_onEdge_148 : decode b_Mo_onEdge 148 = .ok (.invokestatic 127, 3) := by decide +kernel
theorem d_Mo_onEdge_151 : decode b_Mo_onEdge 151 = .ok (.if_icmp .lt 7, 3) := by decide +kernel
theorem d_Mo_onEdge_154 : decode b_Mo_onEdge 154 = .ok (.iconst 1, 1) := by decide +kernel
theorem d_Mo_onEdge_155 : decode b_Mo_onEdge 155 = .ok (.goto 4, 3) := by decide +kernel
theorem d_Mo_onEdge_158 : decode b_Mo_onEdge 158 = .ok (.iconst 0, 1) := by decide +kernel
theorem d_Mo_onEdge_159 : decode b_Mo_onEdge 159 = .ok (.ireturn, 1) := by decide +kernel
set_option maxHeartbeats 4000000 in
set_option maxRecDepth 100000 in
theorem c_Mo_onEdge (F : Nat → Nat → Int) (G : Nat → Int → Int) (n : Int) (hn : 0 ≤ n ∧ n ≤ 100) (hE : mE G n) (i x y : Int) (hi : 0 ≤ i ∧ i < n) (hx : 0 ≤ x ∧ x ≤ 600) (hy : 0 ≤ y ∧ y ≤ 600) : cP y_Mo_onEdge b_Mo_onEdge 4 (some .boolean) 1 25 F G (fun ad => [.ref (ad 244), .int (iI i), .int (iI x), .int (iI y)]) (fun r => (r = 0 ∨ r = 1) ∧ (r = 1 ↔ mOn G x y i)) := by
  obtain ⟨e1, e2, e3, e4, e5, e6⟩ := hE i hi.1 hi.2
  have tr := eTurn_rng e1 e2 e3 e4 hx hy
  have b1 := btw_iff (a := G 251 i) (b := G 253 i) (x := x)
  have b2 := btw_iff (a := G 252 i) (b := G 254 i) (x := y)
  intro s0 a0 D t ad
  refine g_startP (by decide +kernel) (Nat.le_of_ble_eq_true rfl) (fun p l e R s m args below meth c A ok => ?_)
  show gW p l e R s m args below meth c _ D A 4 (gZ0 s) 0 0 ad 265 (mem ad t F G) 0 [(0, .ref (ad 244)), (1, .int (iI i)), (2, .int (iI x)), (3, .int (iI y))] []
  refine g_aload_n ok d_Mo_onEdge_0 rfl 0 rfl ?_
  refine gI_Mo_ex ok _ rfl k_1002 d_Mo_onEdge_1 ?_
  refine g_iload_n ok d_Mo_onEdge_4 rfl 1 rfl ?_
  refine h_iald ok _ a_251 (by omega) d_Mo_onEdge_5 ?_
  refine g_aload_n ok d_Mo_onEdge_6 rfl 0 rfl ?_
  refine gI_Mo_ey ok _ rfl k_1003 d_Mo_onEdge_7 ?_
  refine g_iload_n ok d_Mo_onEdge_10 rfl 1 rfl ?_
  refine h_iald ok _ a_252 (by omega) d_Mo_onEdge_11 ?_
  refine g_aload_n ok d_Mo_onEdge_12 rfl 0 rfl ?_
  refine gI_Mo_fx ok _ rfl k_1004 d_Mo_onEdge_13 ?_
  refine g_iload_n ok d_Mo_onEdge_16 rfl 1 rfl ?_
  refine h_iald ok _ a_253 (by omega) d_Mo_onEdge_17 ?_
  refine g_aload_n ok d_Mo_onEdge_18 rfl 0 rfl ?_
  refine gI_Mo_fy ok _ rfl k_1005 d_Mo_onEdge_19 ?_
  refine g_iload_n ok d_Mo_onEdge_22 rfl 1 rfl ?_
  refine h_iald ok _ a_254 (by omega) d_Mo_onEdge_23 ?_
  refine g_iload_n ok d_Mo_onEdge_24 rfl 2 rfl ?_
  refine g_iload_n ok d_Mo_onEdge_25 rfl 3 rfl ?_
  refine g_callPS (As := [.int (iI (G 251 i)), .int (iI (G 252 i)), .int (iI (G 253 i)), .int (iI (G 254 i)), .int (iI x), .int (iI y)]) (st := []) ok (c_Mo_turn F G _ _ _ _ _ _ s0 a0 D t ad) k_1130 k_11 k_1128 k_1129 q_Mo_turn (by decide) (Nat.le_of_ble_eq_true rfl) (by decide) d_Mo_onEdge_26 (fun z1 hc1 => ?_)
  subst hc1
  refine g_if_eq ok 34 d_Mo_onEdge_29 (by decide) (by omega) (fun h2 => ?_) (fun h2 => ?_)
  · refine g_aload_n ok d_Mo_onEdge_34 rfl 0 rfl ?_
    refine gI_Mo_fx ok _ rfl k_1004 d_Mo_onEdge_35 ?_
    refine g_iload_n ok d_Mo_onEdge_38 rfl 1 rfl ?_
    refine h_iald ok _ a_253 (by omega) d_Mo_onEdge_39 ?_
    refine g_aload_n ok d_Mo_onEdge_40 rfl 0 rfl ?_
    refine gI_Mo_ex ok _ rfl k_1002 d_Mo_onEdge_41 ?_
    refine g_iload_n ok d_Mo_onEdge_44 rfl 1 rfl ?_
    refine h_iald ok _ a_251 (by omega) d_Mo_onEdge_45 ?_
    refine g_isub ok d_Mo_onEdge_46 ?_
    refine g_callPS (As := [.int (iI ((G 253 i) - (G 251 i)))]) (st := []) ok (c_Mo_size F G _ (by omega) s0 a0 D t ad) k_1157 k_11 k_1155 k_1156 q_Mo_size (by decide) (Nat.le_of_ble_eq_true rfl) (by decide) d_Mo_onEdge_47 (fun z3 hc3 => ?_)
    subst hc3
    refine g_iload_n ok d_Mo_onEdge_50 rfl 2 rfl ?_
    refine g_aload_n ok d_Mo_onEdge_51 rfl 0 rfl ?_
    refine gI_Mo_ex ok _ rfl k_1002 d_Mo_onEdge_52 ?_
    refine g_iload_n ok d_Mo_onEdge_55 rfl 1 rfl ?_
    refine h_iald ok _ a_251 (by omega) d_Mo_onEdge_56 ?_
    refine g_isub ok d_Mo_onEdge_57 ?_
    refine g_callPS (As := [.int (iI (x - (G 251 i)))]) (st := [.int (iI (if (G 253 i) - (G 251 i) < 0 then -((G 253 i) - (G 251 i)) else (G 253 i) - (G 251 i)))]) ok (c_Mo_size F G _ (by omega) s0 a0 D t ad) k_1157 k_11 k_1155 k_1156 q_Mo_size (by decide) (Nat.le_of_ble_eq_true rfl) (by decide) d_Mo_onEdge_58 (fun z4 hc4 => ?_)
    subst hc4
    refine g_icmp_lt ok 158 d_Mo_onEdge_61 (by decide) (by split <;> omega) (by split <;> omega) (fun h5 => ?_) (fun h5 => ?_)
    · refine g_iconst ok d_Mo_onEdge_158 ?_
      exact g_zpret ok d_Mo_onEdge_159 (by first | exact Or.inl rfl | exact Or.inr rfl | omega) (by unfold mOn eOn; rw [b1, b2]; clear b1 b2; omega)
    · refine g_aload_n ok d_Mo_onEdge_64 rfl 0 rfl ?_
      refine gI_Mo_fx ok _ rfl k_1004 d_Mo_onEdge_65 ?_
      refine g_iload_n ok d_Mo_onEdge_68 rfl 1 rfl ?_
      refine h_iald ok _ a_253 (by omega) d_Mo_onEdge_69 ?_
      refine g_aload_n ok d_Mo_onEdge_70 rfl 0 rfl ?_
      refine gI_Mo_ex ok _ rfl k_1002 d_Mo_onEdge_71 ?_
      refine g_iload_n ok d_Mo_onEdge_74 rfl 1 rfl ?_
      refine h_iald ok _ a_251 (by omega) d_Mo_onEdge_75 ?_
      refine g_isub ok d_Mo_onEdge_76 ?_
      refine g_callPS (As := [.int (iI ((G 253 i) - (G 251 i)))]) (st := []) ok (c_Mo_size F G _ (by omega) s0 a0 D t ad) k_1157 k_11 k_1155 k_1156 q_Mo_size (by decide) (Nat.le_of_ble_eq_true rfl) (by decide) d_Mo_onEdge_77 (fun z6 hc6 => ?_)
      subst hc6
      refine g_aload_n ok d_Mo_onEdge_80 rfl 0 rfl ?_
      refine gI_Mo_fx ok _ rfl k_1004 d_Mo_onEdge_81 ?_
      refine g_iload_n ok d_Mo_onEdge_84 rfl 1 rfl ?_
      refine h_iald ok _ a_253 (by omega) d_Mo_onEdge_85 ?_
      refine g_iload_n ok d_Mo_onEdge_86 rfl 2 rfl ?_
      refine g_isub ok d_Mo_onEdge_87 ?_
      refine g_callPS (As := [.int (iI ((G 253 i) - x))]) (st := [.int (iI (if (G 253 i) - (G 251 i) < 0 then -((G 253 i) - (G 251 i)) else (G 253 i) - (G 251 i)))]) ok (c_Mo_size F G _ (by omega) s0 a0 D t ad) k_1157 k_11 k_1155 k_1156 q_Mo_size (by decide) (Nat.le_of_ble_eq_true rfl) (by decide) d_Mo_onEdge_88 (fun z7 hc7 => ?_)
      subst hc7
      refine g_icmp_lt ok 158 d_Mo_onEdge_91 (by decide) (by split <;> omega) (by split <;> omega) (fun h8 => ?_) (fun h8 => ?_)
      · refine g_iconst ok d_Mo_onEdge_158 ?_
        exact g_zpret ok d_Mo_onEdge_159 (by first | exact Or.inl rfl | exact Or.inr rfl | omega) (by unfold mOn eOn; rw [b1, b2]; clear b1 b2; omega)
      · refine g_aload_n ok d_Mo_onEdge_94 rfl 0 rfl ?_
        refine gI_Mo_fy ok _ rfl k_1005 d_Mo_onEdge_95 ?_
        refine g_iload_n ok d_Mo_onEdge_98 rfl 1 rfl ?_
        refine h_iald ok _ a_254 (by omega) d_Mo_onEdge_99 ?_
        refine g_aload_n ok d_Mo_onEdge_100 rfl 0 rfl ?_
        refine gI_Mo_ey ok _ rfl k_1003 d_Mo_onEdge_101 ?_
        refine g_iload_n ok d_Mo_onEdge_104 rfl 1 rfl ?_
        refine h_iald ok _ a_252 (by omega) d_Mo_onEdge_105 ?_
        refine g_isub ok d_Mo_onEdge_106 ?_
        refine g_callPS (As := [.int (iI ((G 254 i) - (G 252 i)))]) (st := []) ok (c_Mo_size F G _ (by omega) s0 a0 D t ad) k_1157 k_11 k_1155 k_1156 q_Mo_size (by decide) (Nat.le_of_ble_eq_true rfl) (by decide) d_Mo_onEdge_107 (fun z9 hc9 => ?_)
        subst hc9
        refine g_iload_n ok d_Mo_onEdge_110 rfl 3 rfl ?_
        refine g_aload_n ok d_Mo_onEdge_111 rfl 0 rfl ?_
        refine gI_Mo_ey ok _ rfl k_1003 d_Mo_onEdge_112 ?_
        refine g_iload_n ok d_Mo_onEdge_115 rfl 1 rfl ?_
        refine h_iald ok _ a_252 (by omega) d_Mo_onEdge_116 ?_
        refine g_isub ok d_Mo_onEdge_117 ?_
        refine g_callPS (As := [.int (iI (y - (G 252 i)))]) (st := [.int (iI (if (G 254 i) - (G 252 i) < 0 then -((G 254 i) - (G 252 i)) else (G 254 i) - (G 252 i)))]) ok (c_Mo_size F G _ (by omega) s0 a0 D t ad) k_1157 k_11 k_1155 k_1156 q_Mo_size (by decide) (Nat.le_of_ble_eq_true rfl) (by decide) d_Mo_onEdge_118 (fun z10 hc10 => ?_)
        subst hc10
        refine g_icmp_lt ok 158 d_Mo_onEdge_121 (by decide) (by split <;> omega) (by split <;> omega) (fun h11 => ?_) (fun h11 => ?_)
        · refine g_iconst ok d_Mo_onEdge_158 ?_
          exact g_zpret ok d_Mo_onEdge_159 (by first | exact Or.inl rfl | exact Or.inr rfl | omega) (by unfold mOn eOn; rw [b1, b2]; clear b1 b2; omega)
        · refine g_aload_n ok d_Mo_onEdge_124 rfl 0 rfl ?_
          refine gI_Mo_fy ok _ rfl k_1005 d_Mo_onEdge_125 ?_
          refine g_iload_n ok d_Mo_onEdge_128 rfl 1 rfl ?_
          refine h_iald ok _ a_254 (by omega) d_Mo_onEdge_129 ?_
          refine g_aload_n ok d_Mo_onEdge_130 rfl 0 rfl ?_
          refine gI_Mo_ey ok _ rfl k_1003 d_Mo_onEdge_131 ?_
          refine g_iload_n ok d_Mo_onEdge_134 rfl 1 rfl ?_
          refine h_iald ok _ a_252 (by omega) d_Mo_onEdge_135 ?_
          refine g_isub ok d_Mo_onEdge_136 ?_
          refine g_callPS (As := [.int (iI ((G 254 i) - (G 252 i)))]) (st := []) ok (c_Mo_size F G _ (by omega) s0 a0 D t ad) k_1157 k_11 k_1155 k_1156 q_Mo_size (by decide) (Nat.le_of_ble_eq_true rfl) (by decide) d_Mo_onEdge_137 (fun z12 hc12 => ?_)
          subst hc12
          refine g_aload_n ok d_Mo_onEdge_140 rfl 0 rfl ?_
          refine gI_Mo_fy ok _ rfl k_1005 d_Mo_onEdge_141 ?_
          refine g_iload_n ok d_Mo_onEdge_144 rfl 1 rfl ?_
          refine h_iald ok _ a_254 (by omega) d_Mo_onEdge_145 ?_
          refine g_iload_n ok d_Mo_onEdge_146 rfl 3 rfl ?_
          refine g_isub ok d_Mo_onEdge_147 ?_
          refine g_callPS (As := [.int (iI ((G 254 i) - y))]) (st := [.int (iI (if (G 254 i) - (G 252 i) < 0 then -((G 254 i) - (G 252 i)) else (G 254 i) - (G 252 i)))]) ok (c_Mo_size F G _ (by omega) s0 a0 D t ad) k_1157 k_11 k_1155 k_1156 q_Mo_size (by decide) (Nat.le_of_ble_eq_true rfl) (by decide) d_Mo_onEdge_148 (fun z13 hc13 => ?_)
          subst hc13
          refine g_icmp_lt ok 158 d_Mo_onEdge_151 (by decide) (by split <;> omega) (by split <;> omega) (fun h14 => ?_) (fun h14 => ?_)
          · refine g_iconst ok d_Mo_onEdge_158 ?_
            exact g_zpret ok d_Mo_onEdge_159 (by first | exact Or.inl rfl | exact Or.inr rfl | omega) (by unfold mOn eOn; rw [b1, b2]; clear b1 b2; omega)
          · refine g_iconst ok d_Mo_onEdge_154 ?_
            refine g_goto ok 159 d_Mo_onEdge_155 (by decide) ?_
            exact g_zpret ok d_Mo_onEdge_159 (by first | exact Or.inl rfl | exact Or.inr rfl | omega) (by unfold mOn eOn; rw [b1, b2]; clear b1 b2; omega)
  · refine g_iconst ok d_Mo_onEdge_32 ?_
    exact g_zpret ok d_Mo_onEdge_33 (by first | exact Or.inl rfl | exact Or.inr rfl | omega) (by unfold mOn eOn; rw [b1, b2]; clear b1 b2; omega)
theorem d_Mo_passes_0 : decode b_Mo_passes 0 = .ok (.aload_n 0, 1) := by decide +kernel
theorem d_Mo_passes_1 : decode b_Mo_passes 1 = .ok (.getfield 54, 3) := by decide +kernel
theorem d_Mo_passes_4 : decode b_Mo_passes 4 = .ok (.iload_n 1, 1) := by decide +kernel
theorem d_Mo_passes_5 : decode b_Mo_passes 5 = .ok (.iaload, 1) := by decide +kernel
theorem d_Mo_passes_6 : decode b_Mo_passes 6 = .ok (.iload_n 3, 1) := by decide +kernel
theorem d_Mo_passes_7 : decode b_Mo_passes 7 = .ok (.if_icmp .le 7, 3) := by decide +kernel
theorem d_Mo_passes_10 : decode b_Mo_passes 10 = .ok (.iconst 1, 1) := by decide +kernel
theorem d_Mo_passes_11 : decode b_Mo_passes 11 = .ok (.goto 4, 3) := by decide +kernel
theorem d_Mo_passes_14 : decode b_Mo_passes 14 = .ok (.iconst 0, 1) := by decide +kernel
theorem d_Mo_passes_15 : decode b_Mo_passes 15 = .ok (.aload_n 0, 1) := by decide +kernel
theorem d_Mo_passes_16 : decode b_Mo_passes 16 = .ok (.getfield 60, 3) := by decide +kernel
theorem d_Mo_passes_19 : decode b_Mo_passes 19 = .ok (.iload_n 1, 1) := by decide +kernel
theorem d_Mo_passes_20 : decode b_Mo_passes 20 = .ok (.iaload, 1) := by decide +kernel
theorem d_Mo_passes_21 : decode b_Mo_passes 21 = .ok (.iload_n 3, 1) := by decide +kernel
theorem d_Mo_passes_22 : decode b_Mo_passes 22 = .ok (.if_icmp .le 7, 3) := by decide +kernel
theorem d_Mo_passes_25 : decode b_Mo_passes 25 = .ok (.iconst 1, 1) := by decide +kernel
theorem d_Mo_passes_26 : decode b_Mo_passes 26 = .ok (.goto 4, 3) := by decide +kernel
theorem d_Mo_passes_29 : decode b_Mo_passes 29 = .ok (.iconst 0, 1) := by decide +kernel
theorem d_Mo_passes_30 : decode b_Mo_passes 30 = .ok (.if_icmp .ne 5, 3) := by decide +kernel
theorem d_Mo_passes_33 : decode b_Mo_passes 33 = .ok (.iconst 0, 1) := by decide +kernel
theorem d_Mo_passes_34 : decode b_Mo_passes 34 = .ok (.ireturn, 1) := by decide +kernel
theorem d_Mo_passes_35 : decode b_Mo_passes 35 = .ok (.iload_n 3, 1) := by decide +kernel
theorem d_Mo_passes_36 : decode b_Mo_passes 36 = .ok (.aload_n 0, 1) := by decide +kernel
theorem d_Mo_passes_37 : decode b_Mo_passes 37 = .ok (.getfield 54, 3) := by decide +kernel
theorem d_Mo_passes_40 : decode b_Mo_passes 40 = .ok (.iload_n 1, 1) := by decide +kernel
theorem d_Mo_passes_41 : decode b_Mo_passes 41 = .ok (.iaload, 1) := by decide +kernel
theorem d_Mo_passes_42 : decode b_Mo_passes 42 = .ok (.isub, 1) := by decide +kernel
theorem d_Mo_passes_43 : decode b_Mo_passes 43 = .ok (.aload_n 0, 1) := by decide +kernel
theorem d_Mo_passes_44 : decode b_Mo_passes 44 = .ok (.getfield 57, 3) := by decide +kernel
theorem d_Mo_passes_47 : decode b_Mo_passes 47 = .ok (.iload_n 1, 1) := by decide +kernel
theorem d_Mo_passes_48 : decode b_Mo_passes 48 = .ok (.iaload, 1) := by decide +kernel
theorem d_Mo_passes_49 : decode b_Mo_passes 49 = .ok (.aload_n 0, 1) := by decide +kernel
theorem d_Mo_passes_50 : decode b_Mo_passes 50 = .ok (.getfield 51, 3) := by decide +kernel
theorem d_Mo_passes_53 : decode b_Mo_passes 53 = .ok (.iload_n 1, 1) := by decide +kernel
theorem d_Mo_passes_54 : decode b_Mo_passes 54 = .ok (.iaload, 1) := by decide +kernel
theorem d_Mo_passes_55 : decode b_Mo_passes 55 = .ok (.isub, 1) := by decide +kernel
theorem d_Mo_passes_56 : decode b_Mo_passes 56 = .ok (.imul, 1) := by decide +kernel
theorem d_Mo_passes_57 : decode b_Mo_passes 57 = .ok (.iload_n 2, 1) := by decide +kernel
theorem d_Mo_passes_58 : decode b_Mo_passes 58 = .ok (.aload_n 0, 1) := by decide +kernel
theorem d_Mo_passes_59 : decode b_Mo_passes 59 = .ok (.getfield 51, 3) := by decide +kernel
theorem d_Mo_passes_62 : decode b_Mo_passes 62 = .ok (.iload_n 1, 1) := by decide +kernel
theorem d_Mo_passes_63 : decode b_Mo_passes 63 = .ok (.iaload, 1) := by decide +kernel
theorem d_Mo_passes_64 : decode b_Mo_passes 64 = .ok (.isub, 1) := by decide +kernel
theorem d_Mo_passes_65 : decode b_Mo_passes 65 = .ok (.aload_n 0, 1) := by decide +kernel
theorem d_Mo_passes_66 : decode b_Mo_passes 66 = .ok (.getfield 60, 3) := by decide +kernel
theorem d_Mo_passes_69 : decode b_Mo_passes 69 = .ok (.iload_n 1, 1) := by decide +kernel
theorem d_Mo_passes_70 : decode b_Mo_passes 70 = .ok (.iaload, 1) := by decide +kernel
theorem d_Mo_passes_71 : decode b_Mo_passes 71 = .ok (.aload_n 0, 1) := by decide +kernel
theorem d_Mo_passes_72 : decode b_Mo_passes 72 = .ok (.getfield 54, 3) := by decide +kernel
theorem d_Mo_passes_75 : decode b_Mo_passes 75 = .ok (.iload_n 1, 1) := by decide +kernel
theorem d_Mo_passes_76 : decode b_Mo_passes 76 = .ok (.iaload, 1) := by decide +kernel
theorem d_Mo_passes_77 : decode b_Mo_passes 77 = .ok (.isub, 1) := by decide +kernel
theorem d_Mo_passes_78 : decode b_Mo_passes 78 = .ok (.imul, 1) := by decide +kernel
theorem d_Mo_passes_79 : decode b_Mo_passes 79 = .ok (.isub, 1) := by decide +kernel
theorem d_Mo_passes_80 : decode b_Mo_passes 80 = .ok (.istore 4, 2) := by decide +kernel
theorem d_Mo_passes_82 : decode b_Mo_passes 82 = .ok (.aload_n 0, 1) := by decide +kernel
theorem d_Mo_passes_83 : decode b_Mo_passes 83 = .ok (.getfield 60, 3) := by decide +kernel
theorem d_Mo_passes_86 : decode b_Mo_passes 86 = .ok (.iload_n 1, 1) := by decide +kernel
theorem d_Mo_passes_87 : decode b_Mo_passes 87 = .ok (.iaload, 1) := by decide +kernel
theorem d_Mo_passes_88 : decode b_Mo_passes 88 = .ok (.aload_n 0, 1) := by decide +kernel
theorem d_Mo_passes_89 : decode b_Mo_passes 89 = .ok (.getfield 54, 3) := by decide +kernel
theorem d_Mo_passes_92 : decode b_Mo_passes 92 = .ok (.iload_n 1, 1) := by decide +kernel
theorem d_Mo_passes_93 : decode b_Mo_passes 93 = .ok (.iaload, 1) := by decide +kernel
theorem d_Mo_passes_94 : decode b_Mo_passes 94 = .ok (.if_icmp .le 16, 3) := by decide +kernel
theorem d_Mo_passes_97 : decode b_Mo_passes 97 = .ok (.iload 4, 2) := by decide +kernel
theorem d_Mo_passes_99 : decode b_Mo_passes 99 = .ok (.ifCond .le 7, 3) := by decide +kernel
theorem d_Mo_passes_102 : decode b_Mo_passes 102 = .ok (.iconst 1, 1) := by decide +kernel
theorem d_Mo_passes_103 : decode b_Mo_passes 103 = .ok (.goto 17, 3) := by decide +kernel
theorem d_Mo_passes_106 : decode b_Mo_passes 106 = .ok (.iconst 0, 1) := by decide +kernel
theorem d_Mo_passes_107 : decode b_Mo_passes 107 = .ok (.goto 13, 3) := by decide +kernel
theorem d_Mo_passes_110 : decode b_Mo_passes 110 = .ok (.iload 4, 2) := by decide +kernel
theorem d_Mo_passes_112 : decode b_Mo_passes 112 = .ok (.ifCond .ge 7, 3) := by decide +kernel
theorem d_Mo_passes_115 : decode b_Mo_passes 115 = .ok (.iconst 1, 1) := by decide +kernel
theorem d_Mo_passes_116 : decode b_Mo_passes 116 = .ok (.goto 4, 3) := by decide +kernel
theorem d_Mo_passes_119 : decode b_Mo_passes 119 = .ok (.iconst 0, 1) := by decide +kernel
theorem d_Mo_passes_120 : decode b_Mo_passes 120 = .ok (.ireturn, 1) := by decide +kernel
set_option maxHeartbeats 4000000 in
set_option maxRecDepth 100000 in
theorem c_Mo_passes (F : Nat → Nat → Int) (G : Nat → Int → Int) (n : Int) (hn : 0 ≤ n ∧ n ≤ 100) (hE : mE G n) (i x y : Int) (hi : 0 ≤ i ∧ i < n) (hx : 0 ≤ x ∧ x ≤ 600) (hy : 0 ≤ y ∧ y ≤ 600) : cP y_Mo_passes b_Mo_passes 5 (some .boolean) 0 0 F G (fun ad => [.ref (ad 244), .int (iI i), .int (iI x), .int (iI y)]) (fun r => (r = 0 ∨ r = 1) ∧ (r = 1 ↔ mCr G x y i)) := by
  obtain ⟨e1, e2, e3, e4, e5, e6⟩ := hE i hi.1 hi.2
  have tr := eTurn_rng e1 e2 e3 e4 hx hy
  have tq : (y - G 252 i) * (G 253 i - G 251 i) - (x - G 251 i) * (G 254 i - G 252 i) = eTurn (G 251 i) (G 252 i) (G 253 i) (G 254 i) x y := by unfold eTurn; rw [Int.mul_comm (y - G 252 i)]
  intro s0 a0 D t ad
  refine g_startP (by decide +kernel) (Nat.le_of_ble_eq_true rfl) (fun p l e R s m args below meth c A ok => ?_)
  show gW p l e R s m args below meth c _ D A 5 (gZ0 s) 0 0 ad 265 (mem ad t F G) 0 [(0, .ref (ad 244)), (1, .int (iI i)), (2, .int (iI x)), (3, .int (iI y))] []
  refine g_aload_n ok d_Mo_passes_0 rfl 0 rfl ?_
  refine gI_Mo_ey ok _ rfl k_1003 d_Mo_passes_1 ?_
  refine g_iload_n ok d_Mo_passes_4 rfl 1 rfl ?_
  refine h_iald ok _ a_252 (by omega) d_Mo_passes_5 ?_
  refine g_iload_n ok d_Mo_passes_6 rfl 3 rfl ?_
  refine g_icmp_le ok 14 d_Mo_passes_7 (by decide) (by omega) (by omega) (fun h1 => ?_) (fun h1 => ?_)
  · refine g_iconst ok d_Mo_passes_14 ?_
    refine g_aload_n ok d_Mo_passes_15 rfl 0 rfl ?_
    refine gI_Mo_fy ok _ rfl k_1005 d_Mo_passes_16 ?_
    refine g_iload_n ok d_Mo_passes_19 rfl 1 rfl ?_
    refine h_iald ok _ a_254 (by omega) d_Mo_passes_20 ?_
    refine g_iload_n ok d_Mo_passes_21 rfl 3 rfl ?_
    refine g_icmp_le ok 29 d_Mo_passes_22 (by decide) (by omega) (by omega) (fun h2 => ?_) (fun h2 => ?_)
    · refine g_iconst ok d_Mo_passes_29 ?_
      refine g_icmp_ne ok 35 d_Mo_passes_30 (by decide) (by omega) (by omega) (fun h3 => ?_) (fun h3 => ?_)
      · exact absurd h3 (by decide)
      · refine g_iconst ok d_Mo_passes_33 ?_
        exact g_zpret ok d_Mo_passes_34 (by first | exact Or.inl rfl | exact Or.inr rfl | omega) (by unfold mCr eCr; omega)
    · refine g_iconst ok d_Mo_passes_25 ?_
      refine g_goto ok 30 d_Mo_passes_26 (by decide) ?_
      refine g_icmp_ne ok 35 d_Mo_passes_30 (by decide) (by omega) (by omega) (fun h4 => ?_) (fun h4 => ?_)
      · refine g_iload_n ok d_Mo_passes_35 rfl 3 rfl ?_
        refine g_aload_n ok d_Mo_passes_36 rfl 0 rfl ?_
        refine gI_Mo_ey ok _ rfl k_1003 d_Mo_passes_37 ?_
        refine g_iload_n ok d_Mo_passes_40 rfl 1 rfl ?_
        refine h_iald ok _ a_252 (by omega) d_Mo_passes_41 ?_
        refine g_isub ok d_Mo_passes_42 ?_
        refine g_aload_n ok d_Mo_passes_43 rfl 0 rfl ?_
        refine gI_Mo_fx ok _ rfl k_1004 d_Mo_passes_44 ?_
        refine g_iload_n ok d_Mo_passes_47 rfl 1 rfl ?_
        refine h_iald ok _ a_253 (by omega) d_Mo_passes_48 ?_
        refine g_aload_n ok d_Mo_passes_49 rfl 0 rfl ?_
        refine gI_Mo_ex ok _ rfl k_1002 d_Mo_passes_50 ?_
        refine g_iload_n ok d_Mo_passes_53 rfl 1 rfl ?_
        refine h_iald ok _ a_251 (by omega) d_Mo_passes_54 ?_
        refine g_isub ok d_Mo_passes_55 ?_
        refine g_imul ok d_Mo_passes_56 ?_
        refine g_iload_n ok d_Mo_passes_57 rfl 2 rfl ?_
        refine g_aload_n ok d_Mo_passes_58 rfl 0 rfl ?_
        refine gI_Mo_ex ok _ rfl k_1002 d_Mo_passes_59 ?_
        refine g_iload_n ok d_Mo_passes_62 rfl 1 rfl ?_
        refine h_iald ok _ a_251 (by omega) d_Mo_passes_63 ?_
        refine g_isub ok d_Mo_passes_64 ?_
        refine g_aload_n ok d_Mo_passes_65 rfl 0 rfl ?_
        refine gI_Mo_fy ok _ rfl k_1005 d_Mo_passes_66 ?_
        refine g_iload_n ok d_Mo_passes_69 rfl 1 rfl ?_
        refine h_iald ok _ a_254 (by omega) d_Mo_passes_70 ?_
        refine g_aload_n ok d_Mo_passes_71 rfl 0 rfl ?_
        refine gI_Mo_ey ok _ rfl k_1003 d_Mo_passes_72 ?_
        refine g_iload_n ok d_Mo_passes_75 rfl 1 rfl ?_
        refine h_iald ok _ a_252 (by omega) d_Mo_passes_76 ?_
        refine g_isub ok d_Mo_passes_77 ?_
        refine g_imul ok d_Mo_passes_78 ?_
        refine g_isub ok d_Mo_passes_79 ?_
        refine g_istore (lv' := [(4, .int (iI (((y - (G 252 i)) * ((G 253 i) - (G 251 i))) - ((x - (G 251 i)) * ((G 254 i) - (G 252 i)))))), (0, .ref (ad 244)), (1, .int (iI i)), (2, .int (iI x)), (3, .int (iI y))]) ok d_Mo_passes_80 (by decide) rfl ?_
        refine g_aload_n ok d_Mo_passes_82 rfl 1 rfl ?_
        refine gI_Mo_fy ok _ rfl k_1005 d_Mo_passes_83 ?_
        refine g_iload_n ok d_Mo_passes_86 rfl 2 rfl ?_
        refine h_iald ok _ a_254 (by omega) d_Mo_passes_87 ?_
        refine g_aload_n ok d_Mo_passes_88 rfl 1 rfl ?_
        refine gI_Mo_ey ok _ rfl k_1003 d_Mo_passes_89 ?_
        refine g_iload_n ok d_Mo_passes_92 rfl 2 rfl ?_
        refine h_iald ok _ a_252 (by omega) d_Mo_passes_93 ?_
        refine g_icmp_le ok 110 d_Mo_passes_94 (by decide) (by omega) (by omega) (fun h5 => ?_) (fun h5 => ?_)
        · refine g_iload ok d_Mo_passes_110 0 rfl ?_
          refine g_if_ge ok 119 d_Mo_passes_112 (by decide) (by omega) (fun h6 => ?_) (fun h6 => ?_)
          · refine g_iconst ok d_Mo_passes_119 ?_
            exact g_zpret ok d_Mo_passes_120 (by first | exact Or.inl rfl | exact Or.inr rfl | omega) (by unfold mCr eCr; omega)
          · refine g_iconst ok d_Mo_passes_115 ?_
            refine g_goto ok 120 d_Mo_passes_116 (by decide) ?_
            exact g_zpret ok d_Mo_passes_120 (by first | exact Or.inl rfl | exact Or.inr rfl | omega) (by unfold mCr eCr; omega)
        · refine g_iload ok d_Mo_passes_97 0 rfl ?_
          refine g_if_le ok 106 d_Mo_passes_99 (by decide) (by omega) (fun h7 => ?_) (fun h7 => ?_)
          · refine g_iconst ok d_Mo_passes_106 ?_
            refine g_goto ok 120 d_Mo_passes_107 (by decide) ?_
            exact g_zpret ok d_Mo_passes_120 (by first | exact Or.inl rfl | exact Or.inr rfl | omega) (by unfold mCr eCr; omega)
          · refine g_iconst ok d_Mo_passes_102 ?_
            refine g_goto ok 120 d_Mo_passes_103 (by decide) ?_
            exact g_zpret ok d_Mo_passes_120 (by first | exact Or.inl rfl | exact Or.inr rfl | omega) (by unfold mCr eCr; omega)
      · exact absurd h4 (by decide)
  · refine g_iconst ok d_Mo_passes_10 ?_
    refine g_goto ok 15 d_Mo_passes_11 (by decide) ?_
    refine g_aload_n ok d_Mo_passes_15 rfl 0 rfl ?_
    refine gI_Mo_fy ok _ rfl k_1005 d_Mo_passes_16 ?_
    refine g_iload_n ok d_Mo_passes_19 rfl 1 rfl ?_
    refine h_iald ok _ a_254 (by omega) d_Mo_passes_20 ?_
    refine g_iload_n ok d_Mo_passes_21 rfl 3 rfl ?_
    refine g_icmp_le ok 29 d_Mo_passes_22 (by decide) (by omega) (by omega) (fun h8 => ?_) (fun h8 => ?_)
    · refine g_iconst ok d_Mo_passes_29 ?_
      refine g_icmp_ne ok 35 d_Mo_passes_30 (by decide) (by omega) (by omega) (fun h9 => ?_) (fun h9 => ?_)
      · refine g_iload_n ok d_Mo_passes_35 rfl 3 rfl ?_
        refine g_aload_n ok d_Mo_passes_36 rfl 0 rfl ?_
        refine gI_Mo_ey ok _ rfl k_1003 d_Mo_passes_37 ?_
        refine g_iload_n ok d_Mo_passes_40 rfl 1 rfl ?_
        refine h_iald ok _ a_252 (by omega) d_Mo_passes_41 ?_
        refine g_isub ok d_Mo_passes_42 ?_
        refine g_aload_n ok d_Mo_passes_43 rfl 0 rfl ?_
        refine gI_Mo_fx ok _ rfl k_1004 d_Mo_passes_44 ?_
        refine g_iload_n ok d_Mo_passes_47 rfl 1 rfl ?_
        refine h_iald ok _ a_253 (by omega) d_Mo_passes_48 ?_
        refine g_aload_n ok d_Mo_passes_49 rfl 0 rfl ?_
        refine gI_Mo_ex ok _ rfl k_1002 d_Mo_passes_50 ?_
        refine g_iload_n ok d_Mo_passes_53 rfl 1 rfl ?_
        refine h_iald ok _ a_251 (by omega) d_Mo_passes_54 ?_
        refine g_isub ok d_Mo_passes_55 ?_
        refine g_imul ok d_Mo_passes_56 ?_
        refine g_iload_n ok d_Mo_passes_57 rfl 2 rfl ?_
        refine g_aload_n ok d_Mo_passes_58 rfl 0 rfl ?_
        refine gI_Mo_ex ok _ rfl k_1002 d_Mo_passes_59 ?_
        refine g_iload_n ok d_Mo_passes_62 rfl 1 rfl ?_
        refine h_iald ok _ a_251 (by omega) d_Mo_passes_63 ?_
        refine g_isub ok d_Mo_passes_64 ?_
        refine g_aload_n ok d_Mo_passes_65 rfl 0 rfl ?_
        refine gI_Mo_fy ok _ rfl k_1005 d_Mo_passes_66 ?_
        refine g_iload_n ok d_Mo_passes_69 rfl 1 rfl ?_
        refine h_iald ok _ a_254 (by omega) d_Mo_passes_70 ?_
        refine g_aload_n ok d_Mo_passes_71 rfl 0 rfl ?_
        refine gI_Mo_ey ok _ rfl k_1003 d_Mo_passes_72 ?_
        refine g_iload_n ok d_Mo_passes_75 rfl 1 rfl ?_
        refine h_iald ok _ a_252 (by omega) d_Mo_passes_76 ?_
        refine g_isub ok d_Mo_passes_77 ?_
        refine g_imul ok d_Mo_passes_78 ?_
        refine g_isub ok d_Mo_passes_79 ?_
        refine g_istore (lv' := [(4, .int (iI (((y - (G 252 i)) * ((G 253 i) - (G 251 i))) - ((x - (G 251 i)) * ((G 254 i) - (G 252 i)))))), (0, .ref (ad 244)), (1, .int (iI i)), (2, .int (iI x)), (3, .int (iI y))]) ok d_Mo_passes_80 (by decide) rfl ?_
        refine g_aload_n ok d_Mo_passes_82 rfl 1 rfl ?_
        refine gI_Mo_fy ok _ rfl k_1005 d_Mo_passes_83 ?_
        refine g_iload_n ok d_Mo_passes_86 rfl 2 rfl ?_
        refine h_iald ok _ a_254 (by omega) d_Mo_passes_87 ?_
        refine g_aload_n ok d_Mo_passes_88 rfl 1 rfl ?_
        refine gI_Mo_ey ok _ rfl k_1003 d_Mo_passes_89 ?_
        refine g_iload_n ok d_Mo_passes_92 rfl 2 rfl ?_
        refine h_iald ok _ a_252 (by omega) d_Mo_passes_93 ?_
        refine g_icmp_le ok 110 d_Mo_passes_94 (by decide) (by omega) (by omega) (fun h10 => ?_) (fun h10 => ?_)
        · refine g_iload ok d_Mo_passes_110 0 rfl ?_
          refine g_if_ge ok 119 d_Mo_passes_112 (by decide) (by omega) (fun h11 => ?_) (fun h11 => ?_)
          · refine g_iconst ok d_Mo_passes_119 ?_
            exact g_zpret ok d_Mo_passes_120 (by first | exact Or.inl rfl | exact Or.inr rfl | omega) (by unfold mCr eCr; omega)
          · refine g_iconst ok d_Mo_passes_115 ?_
            refine g_goto ok 120 d_Mo_passes_116 (by decide) ?_
            exact g_zpret ok d_Mo_passes_120 (by first | exact Or.inl rfl | exact Or.inr rfl | omega) (by unfold mCr eCr; omega)
        · refine g_iload ok d_Mo_passes_97 0 rfl ?_
          refine g_if_le ok 106 d_Mo_passes_99 (by decide) (by omega) (fun h12 => ?_) (fun h12 => ?_)
          · refine g_iconst ok d_Mo_passes_106 ?_
            refine g_goto ok 120 d_Mo_passes_107 (by decide) ?_
            exact g_zpret ok d_Mo_passes_120 (by first | exact Or.inl rfl | exact Or.inr rfl | omega) (by unfold mCr eCr; omega)
          · refine g_iconst ok d_Mo_passes_102 ?_
            refine g_goto ok 120 d_Mo_passes_103 (by decide) ?_
            exact g_zpret ok d_Mo_passes_120 (by first | exact Or.inl rfl | exact Or.inr rfl | omega) (by unfold mCr eCr; omega)
      · exact absurd h9 (by decide)
    · refine g_iconst ok d_Mo_passes_25 ?_
      refine g_goto ok 30 d_Mo_passes_26 (by decide) ?_
      refine g_icmp_ne ok 35 d_Mo_passes_30 (by decide) (by omega) (by omega) (fun h13 => ?_) (fun h13 => ?_)
      · exact absurd h13 (by decide)
      · refine g_iconst ok d_Mo_passes_33 ?_
        exact g_zpret ok d_Mo_passes_34 (by first | exact Or.inl rfl | exact Or.inr rfl | omega) (by unfold mCr eCr; omega)
theorem d_Mo_folded_0 : decode b_Mo_folded 0 = .ok (.aload_n 0, 1) := by decide +kernel
theorem d_Mo_folded_1 : decode b_Mo_folded 1 = .ok (.getfield 51, 3) := by decide +kernel
theorem d_Mo_folded_4 : decode b_Mo_folded 4 = .ok (.iload_n 1, 1) := by decide +kernel
theorem d_Mo_folded_5 : decode b_Mo_folded 5 = .ok (.iaload, 1) := by decide +kernel
theorem d_Mo_folded_6 : decode b_Mo_folded 6 = .ok (.aload_n 0, 1) := by decide +kernel
theorem d_Mo_folded_7 : decode b_Mo_folded 7 = .ok (.getfield 57, 3) := by decide +kernel
theorem d_Mo_folded_10 : decode b_Mo_folded 10 = .ok (.iload_n 1, 1) := by decide +kernel
theorem d_Mo_folded_11 : decode b_Mo_folded 11 = .ok (.iaload, 1) := by decide +kernel
theorem d_Mo_folded_12 : decode b_Mo_folded 12 = .ok (.isub, 1) := by decide +kernel
theorem d_Mo_folded_13 : decode b_Mo_folded 13 = .ok (.istore_n 3, 1) := by decide +kernel
theorem d_Mo_folded_14 : decode b_Mo_folded 14 = .ok (.aload_n 0, 1) := by decide +kernel
theorem d_Mo_folded_15 : decode b_Mo_folded 15 = .ok (.getfield 54, 3) := by decide +kernel
theorem d_Mo_folded_18 : decode b_Mo_folded 18 = .ok (.iload_n 1, 1) := by decide +kernel
theorem d_Mo_folded_19 : decode b_Mo_folded 19 = .ok (.iaload, 1) := by decide +kernel
theorem d_Mo_folded_20 : decode b_Mo_folded 20 = .ok (.aload_n 0, 1) := by decide +kernel
theorem d_Mo_folded_21 : decode b_Mo_folded 21 = .ok (.getfield 60, 3) := by decide +kernel
theorem d_Mo_folded_24 : decode b_Mo_folded 24 = .ok (.iload_n 1, 1) := by decide +kernel
theorem d_Mo_folded_25 : decode b_Mo_folded 25 = .ok (.iaload, 1) := by decide +kernel
theorem d_Mo_folded_26 : decode b_Mo_folded 26 = .ok (.isub, 1) := by decide +kernel
theorem d_Mo_folded_27 : decode b_Mo_folded 27 = .ok (.istore 4, 2) := by decide +kernel
theorem d_Mo_folded_29 : decode b_Mo_folded 29 = .ok (.aload_n 0, 1) := by decide +kernel
theorem d_Mo_folded_30 : decode b_Mo_folded 30 = .ok (.getfield 57, 3) := by decide +kernel
theorem d_Mo_folded_33 : decode b_Mo_folded 33 = .ok (.iload_n 2, 1) := by decide +kernel
theorem d_Mo_folded_34 : decode b_Mo_folded 34 = .ok (.iaload, 1) := by decide +kernel
theorem d_Mo_folded_35 : decode b_Mo_folded 35 = .ok (.aload_n 0, 1) := by decide +kernel
theorem d_Mo_folded_36 : decode b_Mo_folded 36 = .ok (.getfield 51, 3) := by decide +kernel
theorem d_Mo_folded_39 : decode b_Mo_folded 39 = .ok (.iload_n 2, 1) := by decide +kernel
theorem d_Mo_folded_40 : decode b_Mo_folded 40 = .ok (.iaload, 1) := by decide +kernel
theorem d_Mo_folded_41 : decode b_Mo_folded 41 = .ok (.isub, 1) := by decide +kernel
theorem d_Mo_folded_42 : decode b_Mo_folded 42 = .ok (.istore 5, 2) := by decide +kernel
theorem d_Mo_folded_44 : decode b_Mo_folded 44 = .ok (.aload_n 0, 1) := by decide +kernel
theorem d_Mo_folded_45 : decode b_Mo_folded 45 = .ok (.getfield 60, 3) := by decide +kernel
theorem d_Mo_folded_48 : decode b_Mo_folded 48 = .ok (.iload_n 2, 1) := by decide +kernel
theorem d_Mo_folded_49 : decode b_Mo_folded 49 = .ok (.iaload, 1) := by decide +kernel
theorem d_Mo_folded_50 : decode b_Mo_folded 50 = .ok (.aload_n 0, 1) := by decide +kernel
theorem d_Mo_folded_51 : decode b_Mo_folded 51 = .ok (.getfield 54, 3) := by decide +kernel
theorem d_Mo_folded_54 : decode b_Mo_folded 54 = .ok (.iload_n 2, 1) := by decide +kernel
theorem d_Mo_folded_55 : decode b_Mo_folded 55 = .ok (.iaload, 1) := by decide +kernel
theorem d_Mo_folded_56 : decode b_Mo_folded 56 = .ok (.isub, 1) := by decide +kernel
theorem d_Mo_folded_57 : decode b_Mo_folded 57 = .ok (.istore 6, 2) := by decide +kernel
theorem d_Mo_folded_59 : decode b_Mo_folded 59 = .ok (.iload_n 3, 1) := by decide +kernel
theorem d_Mo_folded_60 : decode b_Mo_folded 60 = .ok (.iload 6, 2) := by decide +kernel
theorem d_Mo_folded_62 : decode b_Mo_folded 62 = .ok (.imul, 1) := by decide +kernel
theorem d_Mo_folded_63 : decode b_Mo_folded 63 = .ok (.iload 4, 2) := by decide +kernel
theorem d_Mo_folded_65 : decode b_Mo_folded 65 = .ok (.iload 5, 2) := by decide +kernel
theorem d_Mo_folded_67 : decode b_Mo_folded 67 = .ok (.imul, 1) := by decide +kernel
theorem d_Mo_folded_68 : decode b_Mo_folded 68 = .ok (.if_icmp .ne 20, 3) := by decide +kernel
theorem d_Mo_folded_71 : decode b_Mo_folded 71 = .ok (.iload_n 3, 1) := by decide +kernel
theorem d_Mo_folded_72 : decode b_Mo_folded 72 = .ok (.iload 5, 2) := by decide +kernel
theorem d_Mo_folded_74 : decode b_Mo_folded 74 = .ok (.imul, 1) := by decide +kernel
theorem d_Mo_folded_75 : decode b_Mo_folded 75 = .ok (.iload 4, 2) := by decide +kernel
theorem d_Mo_folded_77 : decode b_Mo_folded 77 = .ok (.iload 6, 2) := by decide +kernel
theorem d_Mo_folded_79 : decode b_Mo_folded 79 = .ok (.imul, 1) := by decide +kernel
theorem d_Mo_folded_80 : decode b_Mo_folded 80 = .ok (.iadd, 1) := by decide +kernel
theorem d_Mo_folded_81 : decode b_Mo_folded 81 = .ok (.ifCond .le 7, 3) := by decide +kernel
theorem d_Mo_folded_84 : decode b_Mo_folded 84 = .ok (.iconst 1, 1) := by decide +kernel
theorem d_Mo_folded_85 : decode b_Mo_folded 85 = .ok (.goto 4, 3) := by decide +kernel
theorem d_Mo_folded_88 : decode b_Mo_folded 88 = .ok (.iconst 0, 1) := by decide +kernel
theorem d_Mo_folded_89 : decode b_Mo_folded 89 = .ok (.ireturn, 1) := by decide +kernel
set_option maxHeartbeats 4000000 in
set_option maxRecDepth 100000 in
theorem c_Mo_folded (F : Nat → Nat → Int) (G : Nat → Int → Int) (n : Int) (hn : 0 ≤ n ∧ n ≤ 100) (hE : mE G n) (i j : Int) (hi : 0 ≤ i ∧ i < n) (hj : 0 ≤ j ∧ j < n) : cP y_Mo_folded b_Mo_folded 7 (some .boolean) 0 0 F G (fun ad => [.ref (ad 244), .int (iI i), .int (iI j)]) (fun r => (r = 0 ∨ r = 1) ∧ (r = 1 ↔ mBack G i j)) := by
  obtain ⟨e1, e2, e3, e4, e5, e6⟩ := hE i hi.1 hi.2
  obtain ⟨f1, f2, f3, f4, f5, f6⟩ := hE j hj.1 hj.2
  have p1 := mul_rng (a := G 251 i - G 253 i) (b := G 254 j - G 252 j) (by omega) (by omega)
  have p2 := mul_rng (a := G 252 i - G 254 i) (b := G 253 j - G 251 j) (by omega) (by omega)
  have p3 := mul_rng (a := G 251 i - G 253 i) (b := G 253 j - G 251 j) (by omega) (by omega)
  have p4 := mul_rng (a := G 252 i - G 254 i) (b := G 254 j - G 252 j) (by omega) (by omega)
  intro s0 a0 D t ad
  refine g_startP (by decide +kernel) (Nat.le_of_ble_eq_true rfl) (fun p l e R s m args below meth c A ok => ?_)
  show gW p l e R s m args below meth c _ D A 7 (gZ0 s) 0 0 ad 265 (mem ad t F G) 0 [(0, .ref (ad 244)), (1, .int (iI i)), (2, .int (iI j))] []
  refine g_aload_n ok d_Mo_folded_0 rfl 0 rfl ?_
  refine gI_Mo_ex ok _ rfl k_1002 d_Mo_folded_1 ?_
  refine g_iload_n ok d_Mo_folded_4 rfl 1 rfl ?_
  refine h_iald ok _ a_251 (by omega) d_Mo_folded_5 ?_
  refine g_aload_n ok d_Mo_folded_6 rfl 0 rfl ?_
  refine gI_Mo_fx ok _ rfl k_1004 d_Mo_folded_7 ?_
  refine g_iload_n ok d_Mo_folded_10 rfl 1 rfl ?_
  refine h_iald ok _ a_253 (by omega) d_Mo_folded_11 ?_
  refine g_isub ok d_Mo_folded_12 ?_
  refine g_istore_n (lv' := [(3, .int (iI ((G 251 i) - (G 253 i)))), (0, .ref (ad 244)), (1, .int (iI i)), (2, .int (iI j))]) ok d_Mo_folded_13 rfl (by decide) rfl ?_
  refine g_aload_n ok d_Mo_folded_14 rfl 1 rfl ?_
  refine gI_Mo_ey ok _ rfl k_1003 d_Mo_folded_15 ?_
  refine g_iload_n ok d_Mo_folded_18 rfl 2 rfl ?_
  refine h_iald ok _ a_252 (by omega) d_Mo_folded_19 ?_
  refine g_aload_n ok d_Mo_folded_20 rfl 1 rfl ?_
  refine gI_Mo_fy ok _ rfl k_1005 d_Mo_folded_21 ?_
  refine g_iload_n ok d_Mo_folded_24 rfl 2 rfl ?_
  refine h_iald ok _ a_254 (by omega) d_Mo_folded_25 ?_
  refine g_isub ok d_Mo_folded_26 ?_
  refine g_istore (lv' := [(4, .int (iI ((G 252 i) - (G 254 i)))), (3, .int (iI ((G 251 i) - (G 253 i)))), (0, .ref (ad 244)), (1, .int (iI i)), (2, .int (iI j))]) ok d_Mo_folded_27 (by decide) rfl ?_
  refine g_aload_n ok d_Mo_folded_29 rfl 2 rfl ?_
  refine gI_Mo_fx ok _ rfl k_1004 d_Mo_folded_30 ?_
  refine g_iload_n ok d_Mo_folded_33 rfl 4 rfl ?_
  refine h_iald ok _ a_253 (by omega) d_Mo_folded_34 ?_
  refine g_aload_n ok d_Mo_folded_35 rfl 2 rfl ?_
  refine gI_Mo_ex ok _ rfl k_1002 d_Mo_folded_36 ?_
  refine g_iload_n ok d_Mo_folded_39 rfl 4 rfl ?_
  refine h_iald ok _ a_251 (by omega) d_Mo_folded_40 ?_
  refine g_isub ok d_Mo_folded_41 ?_
  refine g_istore (lv' := [(5, .int (iI ((G 253 j) - (G 251 j)))), (4, .int (iI ((G 252 i) - (G 254 i)))), (3, .int (iI ((G 251 i) - (G 253 i)))), (0, .ref (ad 244)), (1, .int (iI i)), (2, .int (iI j))]) ok d_Mo_folded_42 (by decide) rfl ?_
  refine g_aload_n ok d_Mo_folded_44 rfl 3 rfl ?_
  refine gI_Mo_fy ok _ rfl k_1005 d_Mo_folded_45 ?_
  refine g_iload_n ok d_Mo_folded_48 rfl 5 rfl ?_
  refine h_iald ok _ a_254 (by omega) d_Mo_folded_49 ?_
  refine g_aload_n ok d_Mo_folded_50 rfl 3 rfl ?_
  refine gI_Mo_ey ok _ rfl k_1003 d_Mo_folded_51 ?_
  refine g_iload_n ok d_Mo_folded_54 rfl 5 rfl ?_
  refine h_iald ok _ a_252 (by omega) d_Mo_folded_55 ?_
  refine g_isub ok d_Mo_folded_56 ?_
  refine g_istore (lv' := [(6, .int (iI ((G 254 j) - (G 252 j)))), (5, .int (iI ((G 253 j) - (G 251 j)))), (4, .int (iI ((G 252 i) - (G 254 i)))), (3, .int (iI ((G 251 i) - (G 253 i)))), (0, .ref (ad 244)), (1, .int (iI i)), (2, .int (iI j))]) ok d_Mo_folded_57 (by decide) rfl ?_
  refine g_iload_n ok d_Mo_folded_59 rfl 3 rfl ?_
  refine g_iload ok d_Mo_folded_60 0 rfl ?_
  refine g_imul ok d_Mo_folded_62 ?_
  refine g_iload ok d_Mo_folded_63 2 rfl ?_
  refine g_iload ok d_Mo_folded_65 1 rfl ?_
  refine g_imul ok d_Mo_folded_67 ?_
  refine g_icmp_ne ok 88 d_Mo_folded_68 (by decide) (by omega) (by omega) (fun h1 => ?_) (fun h1 => ?_)
  · refine g_iconst ok d_Mo_folded_88 ?_
    exact g_zpret ok d_Mo_folded_89 (by first | exact Or.inl rfl | exact Or.inr rfl | omega) (by unfold mBack eBack; omega)
  · refine g_iload_n ok d_Mo_folded_71 rfl 3 rfl ?_
    refine g_iload ok d_Mo_folded_72 1 rfl ?_
    refine g_imul ok d_Mo_folded_74 ?_
    refine g_iload ok d_Mo_folded_75 2 rfl ?_
    refine g_iload ok d_Mo_folded_77 0 rfl ?_
    refine g_imul ok d_Mo_folded_79 ?_
    refine g_iadd ok d_Mo_folded_80 ?_
    refine g_if_le ok 88 d_Mo_folded_81 (by decide) (by omega) (fun h2 => ?_) (fun h2 => ?_)
    · refine g_iconst ok d_Mo_folded_88 ?_
      exact g_zpret ok d_Mo_folded_89 (by first | exact Or.inl rfl | exact Or.inr rfl | omega) (by unfold mBack eBack; omega)
    · refine g_iconst ok d_Mo_folded_84 ?_
      refine g_goto ok 89 d_Mo_folded_85 (by decide) ?_
      exact g_zpret ok d_Mo_folded_89 (by first | exact Or.inl rfl | exact Or.inr rfl | omega) (by unfold mBack eBack; omega)
theorem d_Mo_touch_0 : decode b_Mo_touch 0 = .ok (.aload_n 0, 1) := by decide +kernel
theorem d_Mo_touch_1 : decode b_Mo_touch 1 = .ok (.iload_n 1, 1) := by decide +kernel
theorem d_Mo_touch_2 : decode b_Mo_touch 2 = .ok (.aload_n 0, 1) := by decide +kernel
theorem d_Mo_touch_3 : decode b_Mo_touch 3 = .ok (.getfield 51, 3) := by decide +kernel
theorem d_Mo_touch_6 : decode b_Mo_touch 6 = .ok (.iload_n 2, 1) := by decide +kernel
theorem d_Mo_touch_7 : decode b_Mo_touch 7 = .ok (.iaload, 1) := by decide +kernel
theorem d_Mo_touch_8 : decode b_Mo_touch 8 = .ok (.aload_n 0, 1) := by decide +kernel
theorem d_Mo_touch_9 : decode b_Mo_touch 9 = .ok (.getfield 54, 3) := by decide +kernel
theorem d_Mo_touch_12 : decode b_Mo_touch 12 = .ok (.iload_n 2, 1) := by decide +kernel
theorem d_Mo_touch_13 : decode b_Mo_touch 13 = .ok (.iaload, 1) := by decide +kernel
theorem d_Mo_touch_14 : decode b_Mo_touch 14 = .ok (.invokevirtual 131, 3) := by decide +kernel
theorem d_Mo_touch_17 : decode b_Mo_touch 17 = .ok (.ifCond .ne 63, 3) := by decide +kernel
theorem d_Mo_touch_20 : decode b_Mo_touch 20 = .ok (.aload_n 0, 1) := by decide +kernel
theorem d_Mo_touch_21 : decode b_Mo_touch 21 = .ok (.iload_n 1, 1) := by decide +kernel
theorem d_Mo_touch_22 : decode b_Mo_touch 22 = .ok (.aload_n 0, 1) := by decide +kernel
theorem d_Mo_touch_23 : decode b_Mo_touch 23 = .ok (.getfield 57, 3) := by decide +kernel
theorem d_Mo_touch_26 : decode b_Mo_touch 26 = .ok (.iload_n 2, 1) := by decide +kernel
theorem d_Mo_touch_27 : decode b_Mo_touch 27 = .ok (.iaload, 1) := by decide +kernel
theorem d_Mo_touch_28 : decode b_Mo_touch 28 = .ok (.aload_n 0, 1) := by decide +kernel
theorem d_Mo_touch_29 : decode b_Mo_touch 29 = .ok (.getfield 60, 3) := by decide +kernel
theorem d_Mo_touch_32 : decode b_Mo_touch 32 = .ok (.iload_n 2, 1) := by decide +kernel
theorem d_Mo_touch_33 : decode b_Mo_touch 33 = .ok (.iaload, 1) := by decide +kernel
theorem d_Mo_touch_34 : decode b_Mo_touch 34 = .ok (.invokevirtual 131, 3) := by decide +kernel
theorem d_Mo_touch_37 : decode b_Mo_touch 37 = .ok (.ifCond .ne 43, 3) := by decide +kernel
theorem d_Mo_touch_40 : decode b_Mo_touch 40 = .ok (.aload_n 0, 1) := by decide +kernel
theorem d_Mo_touch_41 : decode b_Mo_touch 41 = .ok (.iload_n 2, 1) := by decide +kernel
theorem d_Mo_touch_42 : decode b_Mo_touch 42 = .ok (.aload_n 0, 1) := by decide +kernel
theorem d_Mo_touch_43 : decode b_Mo_touch 43 = .ok (.getfield 51, 3) := by decide +kernel
theorem d_Mo_touch_46 : decode b_Mo_touch 46 = .ok (.iload_n 1, 1) := by decide +kernel
theorem d_Mo_touch_47 : decode b_Mo_touch 47 = .ok (.iaload, 1) := by decide +kernel
theorem d_Mo_touch_48 : decode b_Mo_touch 48 = .ok (.aload_n 0, 1) := by decide +kernel
theorem d_Mo_touch_49 : decode b_Mo_touch 49 = .ok (.getfield 54, 3) := by decide +kernel
theorem d_Mo_touch_52 : decode b_Mo_touch 52 = .ok (.iload_n 1, 1) := by decide +kernel
theorem d_Mo_touch_53 : decode b_Mo_touch 53 = .ok (.iaload, 1) := by decide +kernel
theorem d_Mo_touch_54 : decode b_Mo_touch 54 = .ok (.invokevirtual 131, 3) := by decide +kernel
theorem d_Mo_touch_57 : decode b_Mo_touch 57 = .ok (.ifCond .ne 23, 3) := by decide +kernel
theorem d_Mo_touch_60 : decode b_Mo_touch 60 = .ok (.aload_n 0, 1) := by decide +kernel
theorem d_Mo_touch_61 : decode b_Mo_touch 61 = .ok (.iload_n 2, 1) := by decide +kernel
theorem d_Mo_touch_62 : decode b_Mo_touch 62 = .ok (.aload_n 0, 1) := by decide +kernel
theorem d_Mo_touch_63 : decode b_Mo_touch 63 = .ok (.getfield 57, 3) := by decide +kernel
theorem d_Mo_touch_66 : decode b_Mo_touch 66 = .ok (.iload_n 1, 1) := by decide +kernel
theorem d_Mo_touch_67 : decode b_Mo_touch 67 = .ok (.iaload, 1) := by decide +kernel
theorem d_Mo_touch_68 : decode b_Mo_touch 68 = .ok (.aload_n 0, 1) := by decide +kernel
theorem d_Mo_touch_69 : decode b_Mo_touch 69 = .ok (.getfield 60, 3) := by decide +kernel
theorem d_Mo_touch_72 : decode b_Mo_touch 72 = .ok (.iload_n 1, 1) := by decide +kernel
theorem d_Mo_touch_73 : decode b_Mo_touch 73 = .ok (.iaload, 1) := by decide +kernel
theorem d_Mo_touch_74 : decode b_Mo_touch 74 = .ok (.invokevirtual 131, 3) := by decide +kernel
theorem d_Mo_touch_77 : decode b_Mo_touch 77 = .ok (.ifCond .eq 5, 3) := by decide +kernel
theorem d_Mo_touch_80 : decode b_Mo_touch 80 = .ok (.iconst 1, 1) := by decide +kernel
theorem d_Mo_touch_81 : decode b_Mo_touch 81 = .ok (.ireturn, 1) := by decide +kernel
theorem d_Mo_touch_82 : decode b_Mo_touch 82 = .ok (.aload_n 0, 1) := by decide +kernel
theorem d_Mo_touch_83 : decode b_Mo_touch 83 = .ok (.getfield 51, 3) := by decide +kernel
theorem d_Mo_touch_86 : decode b_Mo_touch 86 = .ok (.iload_n 1, 1) := by decide +kernel
theorem d_Mo_touch_87 : decode b_Mo_touch 87 = .ok (.iaload, 1) := by decide +kernel
theorem d_Mo_touch_88 : decode b_Mo_touch 88 = .ok (.aload_n 0, 1) := by decide +kernel
theorem d_Mo_touch_89 : decode b_Mo_touch 89 = .ok (.getfield 54, 3) := by decide +kernel
theorem d_Mo_touch_92 : decode b_Mo_touch 92 = .ok (.iload_n 1, 1) := by decide +kernel
theorem d_Mo_touch_93 : decode b_Mo_touch 93 = .ok (.iaload, 1) := by decide +kernel
theorem d_Mo_touch_94 : decode b_Mo_touch 94 = .ok (.aload_n 0, 1) := by decide +kernel
theorem d_Mo_touch_95 : decode b_Mo_touch 95 = .ok (.getfield 57, 3) := by decide +kernel
theorem d_Mo_touch_98 : decode b_Mo_touch 98 = .ok (.iload_n 1, 1) := by decide +kernel
theorem d_Mo_touch_99 : decode b_Mo_touch 99 = .ok (.iaload, 1) := by decide +kernel
theorem d_Mo_touch_100 : decode b_Mo_touch 100 = .ok (.aload_n 0, 1) := by decide +kernel
theorem d_Mo_touch_101 : decode b_Mo_touch 101 = .ok (.getfield 60, 3) := by decide +kernel
theorem d_Mo_touch_104 : decode b_Mo_touch 104 = .ok (.iload_n 1, 1) := by decide +kernel
theorem d_Mo_touch_105 : decode b_Mo_touch 105 = .ok (.iaload, 1) := by decide +kernel
theorem d_Mo_touch_106 : decode b_Mo_touch 106 = .ok (.aload_n 0, 1) := by decide +kernel
theorem d_Mo_touch_107 : decode b_Mo_touch 107 = .ok (.getfield 51, 3) := by decide +kernel
theorem d_Mo_touch_110 : decode b_Mo_touch 110 = .ok (.iload_n 2, 1) := by decide +kernel
theorem d_Mo_touch_111 : decode b_Mo_touch 111 = .ok (.iaload, 1) := by decide +kernel
theorem d_Mo_touch_112 : decode b_Mo_touch 112 = .ok (.aload_n 0, 1) := by decide +kernel
theorem d_Mo_touch_113 : decode b_Mo_touch 113 = .ok (.getfield 54, 3) := by decide +kernel
theorem d_Mo_touch_116 : decode b_Mo_touch 116 = .ok (.iload_n 2, 1) := by decide +kernel
theorem d_Mo_touch_117 : decode b_Mo_touch 117 = .ok (.iaload, 1) := by decide +kernel
theorem d_Mo_touch_118 : decode b_Mo_touch 118 = .ok (.invokestatic 123, 3) := by decide +kernel
theorem d_Mo_touch_121 : decode b_Mo_touch 121 = .ok (.invokestatic 138, 3) := by decide +kernel
theorem d_Mo_touch_124 : decode b_Mo_touch 124 = .ok (.istore_n 3, 1) := by decide +kernel
theorem d_Mo_touch_125 : decode b_Mo_touch 125 = .ok (.aload_n 0, 1) := by decide +kernel
theorem d_Mo_touch_126 : decode b_Mo_touch 126 = .ok (.getfield 51, 3) := by decide +kernel
theorem d_Mo_touch_129 : decode b_Mo_touch 129 = .ok (.iload_n 1, 1) := by decide +kernel
theorem d_Mo_touch_130 : decode b_Mo_touch 130 = .ok (.iaload, 1) := by decide +kernel
theorem d_Mo_touch_131 : decode b_Mo_touch 131 = .ok (.aload_n 0, 1) := by decide +kernel
theorem d_Mo_touch_132 : decode b_Mo_touch 132 = .ok (.getfield 54, 3) := by decide +kernel
theorem d_Mo_touch_135 : decode b_Mo_touch 135 = .ok (.iload_n 1, 1) := by decide +kernel
theorem d_Mo_touch_136 : decode b_Mo_touch 136 = .ok (.iaload, 1) := by decide +kernel
theorem d_Mo_touch_137 : decode b_Mo_touch 137 = .ok (.aload_n 0, 1) := by decide +kernel
theorem d_Mo_touch_138 : decode b_Mo_touch 138 = .ok (.getfield 57, 3) := by decide +kernel
theorem d_Mo_touch_141 : decode b_Mo_touch 141 = .ok (.iload_n 1, 1) := by decide +kernel
theorem d_Mo_touch_142 : decode b_Mo_touch 142 = .ok (.iaload, 1) := by decide +kernel
theorem d_Mo_touch_143 : decode b_Mo_touch 143 = .ok (.aload_n 0, 1) := by decide +kernel
theorem d_Mo_touch_144 : decode b_Mo_touch 144 = .ok (.getfield 60, 3) := by decide +kernel
theorem d_Mo_touch_147 : decode b_Mo_touch 147 = .ok (.iload_n 1, 1) := by decide +kernel
theorem d_Mo_touch_148 : decode b_Mo_touch 148 = .ok (.iaload, 1) := by decide +kernel
theorem d_Mo_touch_149 : decode b_Mo_touch 149 = .ok (.aload_n 0, 1) := by decide +kernel
theorem d_Mo_touch_150 : decode b_Mo_touch 150 = .ok (.getfield 57, 3) := by decide +kernel
theorem d_Mo_touch_153 : decode b_Mo_touch 153 = .ok (.iload_n 2, 1) := by decide +kernel
theorem d_Mo_touch_154 : decode b_Mo_touch 154 = .ok (.iaload, 1) := by decide +kernel
theorem d_Mo_touch_155 : decode b_Mo_touch 155 = .ok (.aload_n 0, 1) := by decide +kernel
theorem d_Mo_touch_156 : decode b_Mo_touch 156 = .ok (.getfield 60, 3) := by decide +kernel
theorem d_Mo_touch_159 : decode b_Mo_touch 159 = .ok (.iload_n 2, 1) := by decide +kernel
theorem d_Mo_touch_160 : decode b_Mo_touch 160 = .ok (.iaload, 1) := by decide +kernel
theorem d_Mo_touch_161 : decode b_Mo_touch 161 = .ok (.invokestatic 123, 3) := by decide +kernel
theorem d_Mo_touch_164 : decode b_Mo_touch 164 = .ok (.invokestatic 138, 3) := by decide +kernel
theorem d_Mo_touch_167 : decode b_Mo_touch 167 = .ok (.istore 4, 2) := by decide +kernel
theorem d_Mo_touch_169 : decode b_Mo_touch 169 = .ok (.aload_n 0, 1) := by decide +kernel
theorem d_Mo_touch_170 : decode b_Mo_touch 170 = .ok (.getfield 51, 3) := by decide +kernel
theorem d_Mo_touch_173 : decode b_Mo_touch 173 = .ok (.iload_n 2, 1) := by decide +kernel
theorem d_Mo_touch_174 : decode b_Mo_touch 174 = .ok (.iaload, 1) := by decide +kernel
theorem d_Mo_touch_175 : decode b_Mo_touch 175 = .ok (.aload_n 0, 1) := by decide +kernel
theorem d_Mo_touch_176 : decode b_Mo_touch 176 = .ok (.getfield 54, 3) := by decide +kernel
theorem d_Mo_touch_179 : decode b_Mo_touch 179 = .ok (.iload_n 2, 1) := by decide +kernel
theorem d_Mo_touch_180 : decode b_Mo_touch 180 = .ok (.iaload, 1) := by decide +kernel
theorem d_Mo_touch_181 : decode b_Mo_touch 181 = .ok (.aload_n 0, 1) := by decide +kernel
theorem d_Mo_touch_182 : decode b_Mo_touch 182 = .ok (.getfield 57, 3) := by decide +kernel
theorem d_Mo_touch_185 : decode b_Mo_touch 185 = .ok (.iload_n 2, 1) := by decide +kernel
theorem d_Mo_touch_186 : decode b_Mo_touch 186 = .ok (.iaload, 1) := by decide +kernel
theorem d_Mo_touch_187 : decode b_Mo_touch 187 = .ok (.aload_n 0, 1) := by decide +kernel
theorem d_Mo_touch_188 : decode b_Mo_touch 188 = .ok (.getfield 60, 3) := by decide +kernel
theorem d_Mo_touch_191 : decode b_Mo_touch 191 = .ok (.iload_n 2, 1) := by decide +kernel
theorem d_Mo_touch_192 : decode b_Mo_touch 192 = .ok (.iaload, 1) := by decide +kernel
theorem d_Mo_touch_193 : decode b_Mo_touch 193 = .ok (.aload_n 0, 1) := by decide +kernel
theorem d_Mo_touch_194 : decode b_Mo_touch 194 = .ok (.getfield 51, 3) := by decide +kernel
theorem d_Mo_touch_197 : decode b_Mo_touch 197 = .ok (.iload_n 1, 1) := by decide +kernel
theorem d_Mo_touch_198 : decode b_Mo_touch 198 = .ok (.iaload, 1) := by decide +kernel
theorem d_Mo_touch_199 : decode b_Mo_touch 199 = .ok (.aload_n 0, 1) := by decide +kernel
theorem d_Mo_touch_200 : decode b_Mo_touch 200 = .ok (.getfield 54, 3) := by decide +kernel
theorem d_Mo_touch_203 : decode b_Mo_touch 203 = .ok (.iload_n 1, 1) := by decide +kernel
theorem d_Mo_touch_204 : decode b_Mo_touch 204 = .ok (.iaload, 1) := by decide +kernel
theorem d_Mo_touch_205 : decode b_Mo_touch 205 = .ok (.invokestatic 123, 3) := by decide +kernel
theorem d_Mo_touch_208 : decode b_Mo_touch 208 = .ok (.invokestatic 138, 3) := by decide +kernel
theorem d_Mo_touch_211 : decode b_Mo_touch 211 = .ok (.istore 5, 2) := by decide +kernel
theorem d_Mo_touch_213 : decode b_Mo_touch 213 = .ok (.aload_n 0, 1) := by decide +kernel
theorem d_Mo_touch_214 : decode b_Mo_touch 214 = .ok (.getfield 51, 3) := by decide +kernel
theorem d_Mo_touch_217 : decode b_Mo_touch 217 = .ok (.iload_n 2, 1) := by decide +kernel
theorem d_Mo_touch_218 : decode b_Mo_touch 218 = .ok (.iaload, 1) := by decide +kernel
theorem d_Mo_touch_219 : decode b_Mo_touch 219 = .ok (.aload_n 0, 1) := by decide +kernel
theorem d_Mo_touch_220 : decode b_Mo_touch 220 = .ok (.getfield 54, 3) := by decide +kernel
theorem d_Mo_touch_223 : decode b_Mo_touch 223 = .ok (.iload_n 2, 1) := by decide +kernel
theorem d_Mo_touch_224 : decode b_Mo_touch 224 = .ok (.iaload, 1) := by decide +kernel
theorem d_Mo_touch_225 : decode b_Mo_touch 225 = .ok (.aload_n 0, 1) := by decide +kernel
theorem d_Mo_touch_226 : decode b_Mo_touch 226 = .ok (.getfield 57, 3) := by decide +kernel
theorem d_Mo_touch_229 : decode b_Mo_touch 229 = .ok (.iload_n 2, 1) := by decide +kernel
theorem d_Mo_touch_230 : decode b_Mo_touch 230 = .ok (.iaload, 1) := by decide +kernel
theorem d_Mo_touch_231 : decode b_Mo_touch 231 = .ok (.aload_n 0, 1) := by decide +kernel
theorem d_Mo_touch_232 : decode b_Mo_touch 232 = .ok (.getfield 60, 3) := by decide +kernel
theorem d_Mo_touch_235 : decode b_Mo_touch 235 = .ok (.iload_n 2, 1) := by decide +kernel
theorem d_Mo_touch_236 : decode b_Mo_touch 236 = .ok (.iaload, 1) := by decide +kernel
theorem d_Mo_touch_237 : decode b_Mo_touch 237 = .ok (.aload_n 0, 1) := by decide +kernel
theorem d_Mo_touch_238 : decode b_Mo_touch 238 = .ok (.getfield 57, 3) := by decide +kernel
theorem d_Mo_touch_241 : decode b_Mo_touch 241 = .ok (.iload_n 1, 1) := by decide +kernel
theorem d_Mo_touch_242 : decode b_Mo_touch 242 = .ok (.iaload, 1) := by decide +kernel
theorem d_Mo_touch_243 : decode b_Mo_touch 243 = .ok (.aload_n 0, 1) := by decide +kernel
theorem d_Mo_touch_244 : decode b_Mo_touch 244 = .ok (.getfield 60, 3) := by decide +kernel
theorem d_Mo_touch_247 : decode b_Mo_touch 247 = .ok (.iload_n 1, 1) := by decide +kernel
theorem d_Mo_touch_248 : decode b_Mo_touch 248 = .ok (.iaload, 1) := by decide +kernel
theorem d_Mo_touch_249 : decode b_Mo_touch 249 = .ok (.invokestatic 123, 3) := by decide +kernel
theorem d_Mo_touch_252 : decode b_Mo_touch 252 = .ok (.invokestatic 138, 3) := by decide +kernel
theorem d_Mo_touch_255 : decode b_Mo_touch 255 = .ok (.istore 6, 2) := by decide +kernel
theorem d_Mo_touch_257 : decode b_Mo_touch 257 = .ok (.iload_n 3, 1) := by decide +kernel
theorem d_Mo_touch_258 : decode b_Mo_touch 258 = .ok (.iload 4, 2) := by decide +kernel
theorem d_Mo_touch_260 : decode b_Mo_touch 260 = .ok (.imul, 1) := by decide +kernel
theorem d_Mo_touch_261 : decode b_Mo_touch 261 = .ok (.ifCond .ge 15, 3) := by decide +kernel
theorem d_Mo_touch_264 : decode b_Mo_touch 264 = .ok (.iload 5, 2) := by decide +kernel
theorem d_Mo_touch_266 : decode b_Mo_touch 266 = .ok (.iload 6, 2) := by decide +kernel
theorem d_Mo_touch_268 : decode b_Mo_touch 268 = .ok (.imul, 1) := by decide +kernel
theorem d_Mo_touch_269 : decode b_Mo_touch 269 = .ok (.ifCond .ge 7, 3) := by decide +kernel
theorem d_Mo_touch_272 : decode b_Mo_touch 272 = .ok (.iconst 1, 1) := by decide +kernel
theorem d_Mo_touch_273 : decode b_Mo_touch 273 = .ok (.goto 4, 3) := by decide +kernel
theorem d_Mo_touch_276 : decode b_Mo_touch 276 = .ok (.iconst 0, 1) := by decide +kernel
theorem d_Mo_touch_277 : decode b_Mo_touch 277 = .ok (.ireturn, 1) := by decide +kernel
set_option maxHeartbeats 4000000 in
set_option maxRecDepth 100000 in
theorem c_Mo_touch (F : Nat → Nat → Int) (G : Nat → Int → Int) (n : Int) (hn : 0 ≤ n ∧ n ≤ 100) (hE : mE G n) (i j : Int) (hi : 0 ≤ i ∧ i < n) (hj : 0 ≤ j ∧ j < n) : cP y_Mo_touch b_Mo_touch 7 (some .boolean) 2 48 F G (fun ad => [.ref (ad 244), .int (iI i), .int (iI j)]) (fun r => (r = 0 ∨ r = 1) ∧ (r = 1 ↔ mTouch G i j)) := by
  obtain ⟨e1, e2, e3, e4, e5, e6⟩ := hE i hi.1 hi.2
  obtain ⟨f1, f2, f3, f4, f5, f6⟩ := hE j hj.1 hj.2
  have t1 := eTurn_rng e1 e2 e3 e4 f1 f2
  have t2 := eTurn_rng e1 e2 e3 e4 f3 f4
  have t3 := eTurn_rng f1 f2 f3 f4 e1 e2
  have t4 := eTurn_rng f1 f2 f3 f4 e3 e4
  have q1 := sgn_mul (eTurn (G 251 i) (G 252 i) (G 253 i) (G 254 i) (G 251 j) (G 252 j)) (eTurn (G 251 i) (G 252 i) (G 253 i) (G 254 i) (G 253 j) (G 254 j))
  have q2 := sgn_mul (eTurn (G 251 j) (G 252 j) (G 253 j) (G 254 j) (G 251 i) (G 252 i)) (eTurn (G 251 j) (G 252 j) (G 253 j) (G 254 j) (G 253 i) (G 254 i))
  intro s0 a0 D t ad
  refine g_startP (by decide +kernel) (Nat.le_of_ble_eq_true rfl) (fun p l e R s m args below meth c A ok => ?_)
  show gW p l e R s m args below meth c _ D A 7 (gZ0 s) 0 0 ad 265 (mem ad t F G) 0 [(0, .ref (ad 244)), (1, .int (iI i)), (2, .int (iI j))] []
  refine g_aload_n ok d_Mo_touch_0 rfl 0 rfl ?_
  refine g_iload_n ok d_Mo_touch_1 rfl 1 rfl ?_
  refine g_aload_n ok d_Mo_touch_2 rfl 0 rfl ?_
  refine gI_Mo_ex ok _ rfl k_1002 d_Mo_touch_3 ?_
  refine g_iload_n ok d_Mo_touch_6 rfl 2 rfl ?_
  refine h_iald ok _ a_251 (by omega) d_Mo_touch_7 ?_
  refine g_aload_n ok d_Mo_touch_8 rfl 0 rfl ?_
  refine gI_Mo_ey ok _ rfl k_1003 d_Mo_touch_9 ?_
  refine g_iload_n ok d_Mo_touch_12 rfl 2 rfl ?_
  refine h_iald ok _ a_252 (by omega) d_Mo_touch_13 ?_
  refine g_callPV (As := [.int (iI i), .int (iI (G 251 j)), .int (iI (G 252 j))]) (st := []) ok _ (c_Mo_onEdge F G n hn hE _ _ _ (by omega) (by omega) (by omega) s0 a0 D t ad) k_1154 k_11 k_1151 cl_Mo (m_Mo (ad := ad) (t := t) (F := F) (G := G) rfl).1 (m_Mo rfl).2 k_1153 s_Mo_onEdge q_Mo_onEdge (by decide) (Nat.le_of_ble_eq_true rfl) (by decide) d_Mo_touch_14 (fun z1 hc1 => ?_)
  refine g_if_ne ok 80 d_Mo_touch_17 (by decide) (by omega) (fun h2 => ?_) (fun h2 => ?_)
  · refine g_iconst ok d_Mo_touch_80 ?_
    exact g_zpret ok d_Mo_touch_81 (Or.inr rfl) ⟨Or.inr rfl, ⟨fun _ => by unfold mTouch; first | exact Or.inl (hc1.2.mp (by omega)) | exact Or.inr (Or.inl (hc3.2.mp (by omega))) | exact Or.inr (Or.inr (Or.inl (hc5.2.mp (by omega)))) | exact Or.inr (Or.inr (Or.inr (Or.inl (hc7.2.mp (by omega))))) | exact Or.inr (Or.inr (Or.inr (Or.inr ⟨by omega, by omega⟩))), fun _ => rfl⟩⟩
  · refine g_aload_n ok d_Mo_touch_20 rfl 0 rfl ?_
    refine g_iload_n ok d_Mo_touch_21 rfl 1 rfl ?_
    refine g_aload_n ok d_Mo_touch_22 rfl 0 rfl ?_
    refine gI_Mo_fx ok _ rfl k_1004 d_Mo_touch_23 ?_
    refine g_iload_n ok d_Mo_touch_26 rfl 2 rfl ?_
    refine h_iald ok _ a_253 (by omega) d_Mo_touch_27 ?_
    refine g_aload_n ok d_Mo_touch_28 rfl 0 rfl ?_
    refine gI_Mo_fy ok _ rfl k_1005 d_Mo_touch_29 ?_
    refine g_iload_n ok d_Mo_touch_32 rfl 2 rfl ?_
    refine h_iald ok _ a_254 (by omega) d_Mo_touch_33 ?_
    refine g_callPV (As := [.int (iI i), .int (iI (G 253 j)), .int (iI (G 254 j))]) (st := []) ok _ (c_Mo_onEdge F G n hn hE _ _ _ (by omega) (by omega) (by omega) s0 a0 D t ad) k_1154 k_11 k_1151 cl_Mo (m_Mo (ad := ad) (t := t) (F := F) (G := G) rfl).1 (m_Mo rfl).2 k_1153 s_Mo_onEdge q_Mo_onEdge (by decide) (Nat.le_of_ble_eq_true rfl) (by decide) d_Mo_touch_34 (fun z3 hc3 => ?_)
    refine g_if_ne ok 80 d_Mo_touch_37 (by decide) (by omega) (fun h4 => ?_) (fun h4 => ?_)
    · refine g_iconst ok d_Mo_touch_80 ?_
      exact g_zpret ok d_Mo_touch_81 (Or.inr rfl) ⟨Or.inr rfl, ⟨fun _ => by unfold mTouch; first | exact Or.inl (hc1.2.mp (by omega)) | exact Or.inr (Or.inl (hc3.2.mp (by omega))) | exact Or.inr (Or.inr (Or.inl (hc5.2.mp (by omega)))) | exact Or.inr (Or.inr (Or.inr (Or.inl (hc7.2.mp (by omega))))) | exact Or.inr (Or.inr (Or.inr (Or.inr ⟨by omega, by omega⟩))), fun _ => rfl⟩⟩
    · refine g_aload_n ok d_Mo_touch_40 rfl 0 rfl ?_
      refine g_iload_n ok d_Mo_touch_41 rfl 2 rfl ?_
      refine g_aload_n ok d_Mo_touch_42 rfl 0 rfl ?_
      refine gI_Mo_ex ok _ rfl k_1002 d_Mo_touch_43 ?_
      refine g_iload_n ok d_Mo_touch_46 rfl 1 rfl ?_
      refine h_iald ok _ a_251 (by omega) d_Mo_touch_47 ?_
      refine g_aload_n ok d_Mo_touch_48 rfl 0 rfl ?_
      refine gI_Mo_ey ok _ rfl k_1003 d_Mo_touch_49 ?_
      refine g_iload_n ok d_Mo_touch_52 rfl 1 rfl ?_
      refine h_iald ok _ a_252 (by omega) d_Mo_touch_53 ?_
      refine g_callPV (As := [.int (iI j), .int (iI (G 251 i)), .int (iI (G 252 i))]) (st := []) ok _ (c_Mo_onEdge F G n hn hE _ _ _ (by omega) (by omega) (by omega) s0 a0 D t ad) k_1154 k_11 k_1151 cl_Mo (m_Mo (ad := ad) (t := t) (F := F) (G := G) rfl).1 (m_Mo rfl).2 k_1153 s_Mo_onEdge q_Mo_onEdge (by decide) (Nat.le_of_ble_eq_true rfl) (by decide) d_Mo_touch_54 (fun z5 hc5 => ?_)
      refine g_if_ne ok 80 d_Mo_touch_57 (by decide) (by omega) (fun h6 => ?_) (fun h6 => ?_)
      · refine g_iconst ok d_Mo_touch_80 ?_
        exact g_zpret ok d_Mo_touch_81 (Or.inr rfl) ⟨Or.inr rfl, ⟨fun _ => by unfold mTouch; first | exact Or.inl (hc1.2.mp (by omega)) | exact Or.inr (Or.inl (hc3.2.mp (by omega))) | exact Or.inr (Or.inr (Or.inl (hc5.2.mp (by omega)))) | exact Or.inr (Or.inr (Or.inr (Or.inl (hc7.2.mp (by omega))))) | exact Or.inr (Or.inr (Or.inr (Or.inr ⟨by omega, by omega⟩))), fun _ => rfl⟩⟩
      · refine g_aload_n ok d_Mo_touch_60 rfl 0 rfl ?_
        refine g_iload_n ok d_Mo_touch_61 rfl 2 rfl ?_
        refine g_aload_n ok d_Mo_touch_62 rfl 0 rfl ?_
        refine gI_Mo_fx ok _ rfl k_1004 d_Mo_touch_63 ?_
        refine g_iload_n ok d_Mo_touch_66 rfl 1 rfl ?_
        refine h_iald ok _ a_253 (by omega) d_Mo_touch_67 ?_
        refine g_aload_n ok d_Mo_touch_68 rfl 0 rfl ?_
        refine gI_Mo_fy ok _ rfl k_1005 d_Mo_touch_69 ?_
        refine g_iload_n ok d_Mo_touch_72 rfl 1 rfl ?_
        refine h_iald ok _ a_254 (by omega) d_Mo_touch_73 ?_
        refine g_callPV (As := [.int (iI j), .int (iI (G 253 i)), .int (iI (G 254 i))]) (st := []) ok _ (c_Mo_onEdge F G n hn hE _ _ _ (by omega) (by omega) (by omega) s0 a0 D t ad) k_1154 k_11 k_1151 cl_Mo (m_Mo (ad := ad) (t := t) (F := F) (G := G) rfl).1 (m_Mo rfl).2 k_1153 s_Mo_onEdge q_Mo_onEdge (by decide) (Nat.le_of_ble_eq_true rfl) (by decide) d_Mo_touch_74 (fun z7 hc7 => ?_)
        refine g_if_eq ok 82 d_Mo_touch_77 (by decide) (by omega) (fun h8 => ?_) (fun h8 => ?_)
        · refine g_aload_n ok d_Mo_touch_82 rfl 0 rfl ?_
          refine gI_Mo_ex ok _ rfl k_1002 d_Mo_touch_83 ?_
          refine g_iload_n ok d_Mo_touch_86 rfl 1 rfl ?_
          refine h_iald ok _ a_251 (by omega) d_Mo_touch_87 ?_
          refine g_aload_n ok d_Mo_touch_88 rfl 0 rfl ?_
          refine gI_Mo_ey ok _ rfl k_1003 d_Mo_touch_89 ?_
          refine g_iload_n ok d_Mo_touch_92 rfl 1 rfl ?_
          refine h_iald ok _ a_252 (by omega) d_Mo_touch_93 ?_
          refine g_aload_n ok d_Mo_touch_94 rfl 0 rfl ?_
          refine gI_Mo_fx ok _ rfl k_1004 d_Mo_touch_95 ?_
          refine g_iload_n ok d_Mo_touch_98 rfl 1 rfl ?_
          refine h_iald ok _ a_253 (by omega) d_Mo_touch_99 ?_
          refine g_aload_n ok d_Mo_touch_100 rfl 0 rfl ?_
          refine gI_Mo_fy ok _ rfl k_1005 d_Mo_touch_101 ?_
          refine g_iload_n ok d_Mo_touch_104 rfl 1 rfl ?_
          refine h_iald ok _ a_254 (by omega) d_Mo_touch_105 ?_
          refine g_aload_n ok d_Mo_touch_106 rfl 0 rfl ?_
          refine gI_Mo_ex ok _ rfl k_1002 d_Mo_touch_107 ?_
          refine g_iload_n ok d_Mo_touch_110 rfl 2 rfl ?_
          refine h_iald ok _ a_251 (by omega) d_Mo_touch_111 ?_
          refine g_aload_n ok d_Mo_touch_112 rfl 0 rfl ?_
          refine gI_Mo_ey ok _ rfl k_1003 d_Mo_touch_113 ?_
          refine g_iload_n ok d_Mo_touch_116 rfl 2 rfl ?_
          refine h_iald ok _ a_252 (by omega) d_Mo_touch_117 ?_
          refine g_callPS (As := [.int (iI (G 251 i)), .int (iI (G 252 i)), .int (iI (G 253 i)), .int (iI (G 254 i)), .int (iI (G 251 j)), .int (iI (G 252 j))]) (st := []) ok (c_Mo_turn F G _ _ _ _ _ _ s0 a0 D t ad) k_1130 k_11 k_1128 k_1129 q_Mo_turn (by decide) (Nat.le_of_ble_eq_true rfl) (by decide) d_Mo_touch_118 (fun z9 hc9 => ?_)
          subst hc9
          refine g_callPS (As := [.int (iI (eTurn (G 251 i) (G 252 i) (G 253 i) (G 254 i) (G 251 j) (G 252 j)))]) (st := []) ok (c_Mo_sign F G _ (by omega) s0 a0 D t ad) k_1160 k_11 k_1158 k_1159 q_Mo_sign (by decide) (Nat.le_of_ble_eq_true rfl) (by decide) d_Mo_touch_121 (fun z10 hc10 => ?_)
          subst hc10
          refine g_istore_n (lv' := [(3, .int (iI (sgn (eTurn (G 251 i) (G 252 i) (G 253 i) (G 254 i) (G 251 j) (G 252 j))))), (0, .ref (ad 244)), (1, .int (iI i)), (2, .int (iI j))]) ok d_Mo_touch_124 rfl (by decide) rfl ?_
          refine g_aload_n ok d_Mo_touch_125 rfl 1 rfl ?_
          refine gI_Mo_ex ok _ rfl k_1002 d_Mo_touch_126 ?_
          refine g_iload_n ok d_Mo_touch_129 rfl 2 rfl ?_
          refine h_iald ok _ a_251 (by omega) d_Mo_touch_130 ?_
          refine g_aload_n ok d_Mo_touch_131 rfl 1 rfl ?_
          refine gI_Mo_ey ok _ rfl k_1003 d_Mo_touch_132 ?_
          refine g_iload_n ok d_Mo_touch_135 rfl 2 rfl ?_
          refine h_iald ok _ a_252 (by omega) d_Mo_touch_136 ?_
          refine g_aload_n ok d_Mo_touch_137 rfl 1 rfl ?_
          refine gI_Mo_fx ok _ rfl k_1004 d_Mo_touch_138 ?_
          refine g_iload_n ok d_Mo_touch_141 rfl 2 rfl ?_
          refine h_iald ok _ a_253 (by omega) d_Mo_touch_142 ?_
          refine g_aload_n ok d_Mo_touch_143 rfl 1 rfl ?_
          refine gI_Mo_fy ok _ rfl k_1005 d_Mo_touch_144 ?_
          refine g_iload_n ok d_Mo_touch_147 rfl 2 rfl ?_
          refine h_iald ok _ a_254 (by omega) d_Mo_touch_148 ?_
          refine g_aload_n ok d_Mo_touch_149 rfl 1 rfl ?_
          refine gI_Mo_fx ok _ rfl k_1004 d_Mo_touch_150 ?_
          refine g_iload_n ok d_Mo_touch_153 rfl 3 rfl ?_
          refine h_iald ok _ a_253 (by omega) d_Mo_touch_154 ?_
          refine g_aload_n ok d_Mo_touch_155 rfl 1 rfl ?_
          refine gI_Mo_fy ok _ rfl k_1005 d_Mo_touch_156 ?_
          refine g_iload_n ok d_Mo_touch_159 rfl 3 rfl ?_
          refine h_iald ok _ a_254 (by omega) d_Mo_touch_160 ?_
          refine g_callPS (As := [.int (iI (G 251 i)), .int (iI (G 252 i)), .int (iI (G 253 i)), .int (iI (G 254 i)), .int (iI (G 253 j)), .int (iI (G 254 j))]) (st := []) ok (c_Mo_turn F G _ _ _ _ _ _ s0 a0 D t ad) k_1130 k_11 k_1128 k_1129 q_Mo_turn (by decide) (Nat.le_of_ble_eq_true rfl) (by decide) d_Mo_touch_161 (fun z11 hc11 => ?_)
          subst hc11
          refine g_callPS (As := [.int (iI (eTurn (G 251 i) (G 252 i) (G 253 i) (G 254 i) (G 253 j) (G 254 j)))]) (st := []) ok (c_Mo_sign F G _ (by omega) s0 a0 D t ad) k_1160 k_11 k_1158 k_1159 q_Mo_sign (by decide) (Nat.le_of_ble_eq_true rfl) (by decide) d_Mo_touch_164 (fun z12 hc12 => ?_)
          subst hc12
          refine g_istore (lv' := [(4, .int (iI (sgn (eTurn (G 251 i) (G 252 i) (G 253 i) (G 254 i) (G 253 j) (G 254 j))))), (3, .int (iI (sgn (eTurn (G 251 i) (G 252 i) (G 253 i) (G 254 i) (G 251 j) (G 252 j))))), (0, .ref (ad 244)), (1, .int (iI i)), (2, .int (iI j))]) ok d_Mo_touch_167 (by decide) rfl ?_
          refine g_aload_n ok d_Mo_touch_169 rfl 2 rfl ?_
          refine gI_Mo_ex ok _ rfl k_1002 d_Mo_touch_170 ?_
          refine g_iload_n ok d_Mo_touch_173 rfl 4 rfl ?_
          refine h_iald ok _ a_251 (by omega) d_Mo_touch_174 ?_
          refine g_aload_n ok d_Mo_touch_175 rfl 2 rfl ?_
          refine gI_Mo_ey ok _ rfl k_1003 d_Mo_touch_176 ?_
          refine g_iload_n ok d_Mo_touch_179 rfl 4 rfl ?_
          refine h_iald ok _ a_252 (by omega) d_Mo_touch_180 ?_
          refine g_aload_n ok d_Mo_touch_181 rfl 2 rfl ?_
          refine gI_Mo_fx ok _ rfl k_1004 d_Mo_touch_182 ?_
          refine g_iload_n ok d_Mo_touch_185 rfl 4 rfl ?_
          refine h_iald ok _ a_253 (by omega) d_Mo_touch_186 ?_
          refine g_aload_n ok d_Mo_touch_187 rfl 2 rfl ?_
          refine gI_Mo_fy ok _ rfl k_1005 d_Mo_touch_188 ?_
          refine g_iload_n ok d_Mo_touch_191 rfl 4 rfl ?_
          refine h_iald ok _ a_254 (by omega) d_Mo_touch_192 ?_
          refine g_aload_n ok d_Mo_touch_193 rfl 2 rfl ?_
          refine gI_Mo_ex ok _ rfl k_1002 d_Mo_touch_194 ?_
          refine g_iload_n ok d_Mo_touch_197 rfl 3 rfl ?_
          refine h_iald ok _ a_251 (by omega) d_Mo_touch_198 ?_
          refine g_aload_n ok d_Mo_touch_199 rfl 2 rfl ?_
          refine gI_Mo_ey ok _ rfl k_1003 d_Mo_touch_200 ?_
          refine g_iload_n ok d_Mo_touch_203 rfl 3 rfl ?_
          refine h_iald ok _ a_252 (by omega) d_Mo_touch_204 ?_
          refine g_callPS (As := [.int (iI (G 251 j)), .int (iI (G 252 j)), .int (iI (G 253 j)), .int (iI (G 254 j)), .int (iI (G 251 i)), .int (iI (G 252 i))]) (st := []) ok (c_Mo_turn F G _ _ _ _ _ _ s0 a0 D t ad) k_1130 k_11 k_1128 k_1129 q_Mo_turn (by decide) (Nat.le_of_ble_eq_true rfl) (by decide) d_Mo_touch_205 (fun z13 hc13 => ?_)
          subst hc13
          refine g_callPS (As := [.int (iI (eTurn (G 251 j) (G 252 j) (G 253 j) (G 254 j) (G 251 i) (G 252 i)))]) (st := []) ok (c_Mo_sign F G _ (by omega) s0 a0 D t ad) k_1160 k_11 k_1158 k_1159 q_Mo_sign (by decide) (Nat.le_of_ble_eq_true rfl) (by decide) d_Mo_touch_208 (fun z14 hc14 => ?_)
          subst hc14
          refine g_istore (lv' := [(5, .int (iI (sgn (eTurn (G 251 j) (G 252 j) (G 253 j) (G 254 j) (G 251 i) (G 252 i))))), (4, .int (iI (sgn (eTurn (G 251 i) (G 252 i) (G 253 i) (G 254 i) (G 253 j) (G 254 j))))), (3, .int (iI (sgn (eTurn (G 251 i) (G 252 i) (G 253 i) (G 254 i) (G 251 j) (G 252 j))))), (0, .ref (ad 244)), (1, .int (iI i)), (2, .int (iI j))]) ok d_Mo_touch_211 (by decide) rfl ?_
          refine g_aload_n ok d_Mo_touch_213 rfl 3 rfl ?_
          refine gI_Mo_ex ok _ rfl k_1002 d_Mo_touch_214 ?_
          refine g_iload_n ok d_Mo_touch_217 rfl 5 rfl ?_
          refine h_iald ok _ a_251 (by omega) d_Mo_touch_218 ?_
          refine g_aload_n ok d_Mo_touch_219 rfl 3 rfl ?_
          refine gI_Mo_ey ok _ rfl k_1003 d_Mo_touch_220 ?_
          refine g_iload_n ok d_Mo_touch_223 rfl 5 rfl ?_
          refine h_iald ok _ a_252 (by omega) d_Mo_touch_224 ?_
          refine g_aload_n ok d_Mo_touch_225 rfl 3 rfl ?_
          refine gI_Mo_fx ok _ rfl k_1004 d_Mo_touch_226 ?_
          refine g_iload_n ok d_Mo_touch_229 rfl 5 rfl ?_
          refine h_iald ok _ a_253 (by omega) d_Mo_touch_230 ?_
          refine g_aload_n ok d_Mo_touch_231 rfl 3 rfl ?_
          refine gI_Mo_fy ok _ rfl k_1005 d_Mo_touch_232 ?_
          refine g_iload_n ok d_Mo_touch_235 rfl 5 rfl ?_
          refine h_iald ok _ a_254 (by omega) d_Mo_touch_236 ?_
          refine g_aload_n ok d_Mo_touch_237 rfl 3 rfl ?_
          refine gI_Mo_fx ok _ rfl k_1004 d_Mo_touch_238 ?_
          refine g_iload_n ok d_Mo_touch_241 rfl 4 rfl ?_
          refine h_iald ok _ a_253 (by omega) d_Mo_touch_242 ?_
          refine g_aload_n ok d_Mo_touch_243 rfl 3 rfl ?_
          refine gI_Mo_fy ok _ rfl k_1005 d_Mo_touch_244 ?_
          refine g_iload_n ok d_Mo_touch_247 rfl 4 rfl ?_
          refine h_iald ok _ a_254 (by omega) d_Mo_touch_248 ?_
          refine g_callPS (As := [.int (iI (G 251 j)), .int (iI (G 252 j)), .int (iI (G 253 j)), .int (iI (G 254 j)), .int (iI (G 253 i)), .int (iI (G 254 i))]) (st := []) ok (c_Mo_turn F G _ _ _ _ _ _ s0 a0 D t ad) k_1130 k_11 k_1128 k_1129 q_Mo_turn (by decide) (Nat.le_of_ble_eq_true rfl) (by decide) d_Mo_touch_249 (fun z15 hc15 => ?_)
          subst hc15
          refine g_callPS (As := [.int (iI (eTurn (G 251 j) (G 252 j) (G 253 j) (G 254 j) (G 253 i) (G 254 i)))]) (st := []) ok (c_Mo_sign F G _ (by omega) s0 a0 D t ad) k_1160 k_11 k_1158 k_1159 q_Mo_sign (by decide) (Nat.le_of_ble_eq_true rfl) (by decide) d_Mo_touch_252 (fun z16 hc16 => ?_)
          subst hc16
          refine g_istore (lv' := [(6, .int (iI (sgn (eTurn (G 251 j) (G 252 j) (G 253 j) (G 254 j) (G 253 i) (G 254 i))))), (5, .int (iI (sgn (eTurn (G 251 j) (G 252 j) (G 253 j) (G 254 j) (G 251 i) (G 252 i))))), (4, .int (iI (sgn (eTurn (G 251 i) (G 252 i) (G 253 i) (G 254 i) (G 253 j) (G 254 j))))), (3, .int (iI (sgn (eTurn (G 251 i) (G 252 i) (G 253 i) (G 254 i) (G 251 j) (G 252 j))))), (0, .ref (ad 244)), (1, .int (iI i)), (2, .int (iI j))]) ok d_Mo_touch_255 (by decide) rfl ?_
          refine g_iload_n ok d_Mo_touch_257 rfl 3 rfl ?_
          refine g_iload ok d_Mo_touch_258 2 rfl ?_
          refine g_imul ok d_Mo_touch_260 ?_
          refine g_if_ge ok 276 d_Mo_touch_261 (by decide) (by omega) (fun h17 => ?_) (fun h17 => ?_)
          · refine g_iconst ok d_Mo_touch_276 ?_
            exact g_zpret ok d_Mo_touch_277 (Or.inl rfl) ⟨Or.inl rfl, ⟨fun q => by omega, fun q => q.elim (fun z => absurd (hc1.2.mpr z) (by omega)) (fun q => q.elim (fun z => absurd (hc3.2.mpr z) (by omega)) (fun q => q.elim (fun z => absurd (hc5.2.mpr z) (by omega)) (fun q => q.elim (fun z => absurd (hc7.2.mpr z) (by omega)) (fun q => by omega))))⟩⟩
          · refine g_iload ok d_Mo_touch_264 1 rfl ?_
            refine g_iload ok d_Mo_touch_266 0 rfl ?_
            refine g_imul ok d_Mo_touch_268 ?_
            refine g_if_ge ok 276 d_Mo_touch_269 (by decide) (by omega) (fun h18 => ?_) (fun h18 => ?_)
            · refine g_iconst ok d_Mo_touch_276 ?_
              exact g_zpret ok d_Mo_touch_277 (Or.inl rfl) ⟨Or.inl rfl, ⟨fun q => by omega, fun q => q.elim (fun z => absurd (hc1.2.mpr z) (by omega)) (fun q => q.elim (fun z => absurd (hc3.2.mpr z) (by omega)) (fun q => q.elim (fun z => absurd (hc5.2.mpr z) (by omega)) (fun q => q.elim (fun z => absurd (hc7.2.mpr z) (by omega)) (fun q => by omega))))⟩⟩
            · refine g_iconst ok d_Mo_touch_272 ?_
              refine g_goto ok 277 d_Mo_touch_273 (by decide) ?_
              exact g_zpret ok d_Mo_touch_277 (Or.inr rfl) ⟨Or.inr rfl, ⟨fun _ => by unfold mTouch; first | exact Or.inl (hc1.2.mp (by omega)) | exact Or.inr (Or.inl (hc3.2.mp (by omega))) | exact Or.inr (Or.inr (Or.inl (hc5.2.mp (by omega)))) | exact Or.inr (Or.inr (Or.inr (Or.inl (hc7.2.mp (by omega))))) | exact Or.inr (Or.inr (Or.inr (Or.inr ⟨by omega, by omega⟩))), fun _ => rfl⟩⟩
        · refine g_iconst ok d_Mo_touch_80 ?_
          exact g_zpret ok d_Mo_touch_81 (Or.inr rfl) ⟨Or.inr rfl, ⟨fun _ => by unfold mTouch; first | exact Or.inl (hc1.2.mp (by omega)) | exact Or.inr (Or.inl (hc3.2.mp (by omega))) | exact Or.inr (Or.inr (Or.inl (hc5.2.mp (by omega)))) | exact Or.inr (Or.inr (Or.inr (Or.inl (hc7.2.mp (by omega))))) | exact Or.inr (Or.inr (Or.inr (Or.inr ⟨by omega, by omega⟩))), fun _ => rfl⟩⟩
