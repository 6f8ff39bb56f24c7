theorem d_Rg_next_0 : decode b_Rg_next 0 = .ok (.iload_n 1, 1) := by decide +kernel
theorem d_Rg_next_1 : decode b_Rg_next 1 = .ok (.iconst 1, 1) := by decide +kernel
theorem d_Rg_next_2 : decode b_Rg_next 2 = .ok (.iadd, 1) := by decide +kernel
theorem d_Rg_next_3 : decode b_Rg_next 3 = .ok (.aload_n 0, 1) := by decide +kernel
theorem d_Rg_next_4 : decode b_Rg_next 4 = .ok (.getfield 16, 3) := by decide +kernel
theorem d_Rg_next_7 : decode b_Rg_next 7 = .ok (.if_icmp .ge 9, 3) := by decide +kernel
theorem d_Rg_next_10 : decode b_Rg_next 10 = .ok (.iload_n 1, 1) := by decide +kernel
theorem d_Rg_next_11 : decode b_Rg_next 11 = .ok (.iconst 1, 1) := by decide +kernel
theorem d_Rg_next_12 : decode b_Rg_next 12 = .ok (.iadd, 1) := by decide +kernel
theorem d_Rg_next_13 : decode b_Rg_next 13 = .ok (.goto 4, 3) := by decide +kernel
theorem d_Rg_next_16 : decode b_Rg_next 16 = .ok (.iconst 0, 1) := by decide +kernel
theorem d_Rg_next_17 : decode b_Rg_next 17 = .ok (.ireturn, 1) := by decide +kernel
set_option maxHeartbeats 4000000 in
set_option maxRecDepth 100000 in
theorem c_Rg_next (F : Nat → Nat → Int) (G : Nat → Int → Int) (k : Nat) (i : Int) (hK : isRg k) (hi : 0 ≤ i ∧ i < 1000) (hs : 0 ≤ F k 2 ∧ F k 2 < 1000) : cP y_Rg_next b_Rg_next 2 (some .int) 0 0 F G (fun ad => [.ref (ad k), .int (iI i)]) (fun r => r = if i + 1 < F k 2 then i + 1 else 0) := by
  intro s0 a0 D t ad
  refine g_startP (by decide +kernel) (Nat.le_of_ble_eq_true rfl) (fun p l e R s m args below meth c A ok => ?_)
  show gW p l e R s m args below meth c _ D A 2 (gZ0 s) 0 0 ad 265 (mem ad t F G) 0 [(0, .ref (ad k)), (1, .int (iI i))] []
  refine g_iload_n ok d_Rg_next_0 rfl 1 rfl ?_
  refine g_iconst ok d_Rg_next_1 ?_
  refine g_iadd ok d_Rg_next_2 ?_
  refine g_aload_n ok d_Rg_next_3 rfl 0 rfl ?_
  refine gI_Rg_size ok _ hK k_54 d_Rg_next_4 ?_
  refine g_icmp_ge ok 16 d_Rg_next_7 (by decide) (by omega) (by omega) (fun h1 => ?_) (fun h1 => ?_)
  · refine g_iconst ok d_Rg_next_16 ?_
    exact g_ipret ok d_Rg_next_17 (by split <;> omega)
  · refine g_iload_n ok d_Rg_next_10 rfl 1 rfl ?_
    refine g_iconst ok d_Rg_next_11 ?_
    refine g_iadd ok d_Rg_next_12 ?_
    refine g_goto ok 17 d_Rg_next_13 (by decide) ?_
    exact g_ipret ok d_Rg_next_17 (by split <;> omega)
theorem d_Rg_clear_0 : decode b_Rg_clear 0 = .ok (.aload_n 0, 1) := by decide +kernel
theorem d_Rg_clear_1 : decode b_Rg_clear 1 = .ok (.iconst 0, 1) := by decide +kernel
theorem d_Rg_clear_2 : decode b_Rg_clear 2 = .ok (.putfield 16, 3) := by decide +kernel
theorem d_Rg_clear_5 : decode b_Rg_clear 5 = .ok (.return_, 1) := by decide +kernel
set_option maxHeartbeats 4000000 in
set_option maxRecDepth 100000 in
theorem c_Rg_clear (F : Nat → Nat → Int) (G : Nat → Int → Int) (k : Nat) (hK : isRg k) : cV y_Rg_clear b_Rg_clear 1 none 0 0 F G (fun ad => [.ref (ad k)]) (fun F' G' => F' = fU F k 2 0 ∧ G' = G) := by
  intro s0 a0 D t ad
  refine g_startV (by decide +kernel) (Nat.le_of_ble_eq_true rfl) (fun p l e R s m args below meth c A ok => ?_)
  show gW p l e R s m args below meth c _ D A 1 (gZ0 s) 0 0 ad 265 (mem ad t F G) 0 [(0, .ref (ad k))] []
  refine g_aload_n ok d_Rg_clear_0 rfl 0 rfl ?_
  refine g_iconst ok d_Rg_clear_1 ?_
  refine pI_Rg_size ok _ hK k_54 d_Rg_clear_2 ?_
  exact g_vret ok d_Rg_clear_5 ⟨_, _, rfl, rfl, rfl⟩
theorem d_Dk_isBelow_0 : decode b_Dk_isBelow 0 = .ok (.iload_n 0, 1) := by decide +kernel
theorem d_Dk_isBelow_1 : decode b_Dk_isBelow 1 = .ok (.ifCond .lt 12, 3) := by decide +kernel
theorem d_Dk_isBelow_4 : decode b_Dk_isBelow 4 = .ok (.iload_n 0, 1) := by decide +kernel
theorem d_Dk_isBelow_5 : decode b_Dk_isBelow 5 = .ok (.iload_n 1, 1) := by decide +kernel
theorem d_Dk_isBelow_6 : decode b_Dk_isBelow 6 = .ok (.if_icmp .ge 7, 3) := by decide +kernel
theorem d_Dk_isBelow_9 : decode b_Dk_isBelow 9 = .ok (.iconst 1, 1) := by decide +kernel
theorem d_Dk_isBelow_10 : decode b_Dk_isBelow 10 = .ok (.goto 4, 3) := by decide +kernel
theorem d_Dk_isBelow_13 : decode b_Dk_isBelow 13 = .ok (.iconst 0, 1) := by decide +kernel
theorem d_Dk_isBelow_14 : decode b_Dk_isBelow 14 = .ok (.ireturn, 1) := by decide +kernel
set_option maxHeartbeats 4000000 in
set_option maxRecDepth 100000 in
theorem c_Dk_isBelow (F : Nat → Nat → Int) (G : Nat → Int → Int) (a b : Int) (ha : -2147483648 ≤ a ∧ a < 2147483648) (hb : -2147483648 ≤ b ∧ b < 2147483648) : cP y_Dk_isBelow b_Dk_isBelow 2 (some .boolean) 0 0 F G (fun ad => [.int (iI a), .int (iI b)]) (fun r => r = if 0 ≤ a ∧ a < b then 1 else 0) := by
  intro s0 a0 D t ad
  refine g_startP (by decide +kernel) (Nat.le_of_ble_eq_true rfl) (fun p l e R s m args below meth c A ok => ?_)
  show gW p l e R s m args below meth c _ D A 2 (gZ0 s) 0 0 ad 265 (mem ad t F G) 0 [(0, .int (iI a)), (1, .int (iI b))] []
  refine g_iload_n ok d_Dk_isBelow_0 rfl 0 rfl ?_
  refine g_if_lt ok 13 d_Dk_isBelow_1 (by decide) (by omega) (fun h1 => ?_) (fun h1 => ?_)
  · refine g_iconst ok d_Dk_isBelow_13 ?_
    exact g_zpret ok d_Dk_isBelow_14 (by first | exact Or.inl rfl | exact Or.inr rfl | omega) (by split <;> omega)
  · refine g_iload_n ok d_Dk_isBelow_4 rfl 0 rfl ?_
    refine g_iload_n ok d_Dk_isBelow_5 rfl 1 rfl ?_
    refine g_icmp_ge ok 13 d_Dk_isBelow_6 (by decide) (by omega) (by omega) (fun h2 => ?_) (fun h2 => ?_)
    · refine g_iconst ok d_Dk_isBelow_13 ?_
      exact g_zpret ok d_Dk_isBelow_14 (by first | exact Or.inl rfl | exact Or.inr rfl | omega) (by split <;> omega)
    · refine g_iconst ok d_Dk_isBelow_9 ?_
      refine g_goto ok 14 d_Dk_isBelow_10 (by decide) ?_
      exact g_zpret ok d_Dk_isBelow_14 (by first | exact Or.inl rfl | exact Or.inr rfl | omega) (by split <;> omega)
theorem d_Dk_isPlace_0 : decode b_Dk_isPlace 0 = .ok (.iload_n 0, 1) := by decide +kernel
theorem d_Dk_isPlace_1 : decode b_Dk_isPlace 1 = .ok (.ifCond .lt 25, 3) := by decide +kernel
theorem d_Dk_isPlace_4 : decode b_Dk_isPlace 4 = .ok (.iload_n 0, 1) := by decide +kernel
theorem d_Dk_isPlace_5 : decode b_Dk_isPlace 5 = .ok (.sipush 600, 3) := by decide +kernel
theorem d_Dk_isPlace_8 : decode b_Dk_isPlace 8 = .ok (.if_icmp .gt 18, 3) := by decide +kernel
theorem d_Dk_isPlace_11 : decode b_Dk_isPlace 11 = .ok (.iload_n 1, 1) := by decide +kernel
theorem d_Dk_isPlace_12 : decode b_Dk_isPlace 12 = .ok (.ifCond .lt 14, 3) := by decide +kernel
theorem d_Dk_isPlace_15 : decode b_Dk_isPlace 15 = .ok (.iload_n 1, 1) := by decide +kernel
theorem d_Dk_isPlace_16 : decode b_Dk_isPlace 16 = .ok (.sipush 600, 3) := by decide +kernel
theorem d_Dk_isPlace_19 : decode b_Dk_isPlace 19 = .ok (.if_icmp .gt 7, 3) := by decide +kernel
theorem d_Dk_isPlace_22 : decode b_Dk_isPlace 22 = .ok (.iconst 1, 1) := by decide +kernel
theorem d_Dk_isPlace_23 : decode b_Dk_isPlace 23 = .ok (.goto 4, 3) := by decide +kernel
theorem d_Dk_isPlace_26 : decode b_Dk_isPlace 26 = .ok (.iconst 0, 1) := by decide +kernel
theorem d_Dk_isPlace_27 : decode b_Dk_isPlace 27 = .ok (.ireturn, 1) := by decide +kernel
set_option maxHeartbeats 4000000 in
set_option maxRecDepth 100000 in
theorem c_Dk_isPlace (F : Nat → Nat → Int) (G : Nat → Int → Int) (x y : Int) (hx : -2147483648 ≤ x ∧ x < 2147483648) (hy : -2147483648 ≤ y ∧ y < 2147483648) : cP y_Dk_isPlace b_Dk_isPlace 2 (some .boolean) 0 0 F G (fun ad => [.int (iI x), .int (iI y)]) (fun r => r = if 0 ≤ x ∧ x ≤ 600 ∧ 0 ≤ y ∧ y ≤ 600 then 1 else 0) := by
  intro s0 a0 D t ad
  refine g_startP (by decide +kernel) (Nat.le_of_ble_eq_true rfl) (fun p l e R s m args below meth c A ok => ?_)
  show gW p l e R s m args below meth c _ D A 2 (gZ0 s) 0 0 ad 265 (mem ad t F G) 0 [(0, .int (iI x)), (1, .int (iI y))] []
  refine g_iload_n ok d_Dk_isPlace_0 rfl 0 rfl ?_
  refine g_if_lt ok 26 d_Dk_isPlace_1 (by decide) (by omega) (fun h1 => ?_) (fun h1 => ?_)
  · refine g_iconst ok d_Dk_isPlace_26 ?_
    exact g_zpret ok d_Dk_isPlace_27 (by first | exact Or.inl rfl | exact Or.inr rfl | omega) (by split <;> omega)
  · refine g_iload_n ok d_Dk_isPlace_4 rfl 0 rfl ?_
    refine g_sipush ok (by decide) d_Dk_isPlace_5 ?_
    refine g_icmp_gt ok 26 d_Dk_isPlace_8 (by decide) (by omega) (by omega) (fun h2 => ?_) (fun h2 => ?_)
    · refine g_iconst ok d_Dk_isPlace_26 ?_
      exact g_zpret ok d_Dk_isPlace_27 (by first | exact Or.inl rfl | exact Or.inr rfl | omega) (by split <;> omega)
    · refine g_iload_n ok d_Dk_isPlace_11 rfl 1 rfl ?_
      refine g_if_lt ok 26 d_Dk_isPlace_12 (by decide) (by omega) (fun h3 => ?_) (fun h3 => ?_)
      · refine g_iconst ok d_Dk_isPlace_26 ?_
        exact g_zpret ok d_Dk_isPlace_27 (by first | exact Or.inl rfl | exact Or.inr rfl | omega) (by split <;> omega)
      · refine g_iload_n ok d_Dk_isPlace_15 rfl 1 rfl ?_
        refine g_sipush ok (by decide) d_Dk_isPlace_16 ?_
        refine g_icmp_gt ok 26 d_Dk_isPlace_19 (by decide) (by omega) (by omega) (fun h4 => ?_) (fun h4 => ?_)
        · refine g_iconst ok d_Dk_isPlace_26 ?_
          exact g_zpret ok d_Dk_isPlace_27 (by first | exact Or.inl rfl | exact Or.inr rfl | omega) (by split <;> omega)
        · refine g_iconst ok d_Dk_isPlace_22 ?_
          refine g_goto ok 27 d_Dk_isPlace_23 (by decide) ?_
          exact g_zpret ok d_Dk_isPlace_27 (by first | exact Or.inl rfl | exact Or.inr rfl | omega) (by split <;> omega)
theorem d_Ma_max_0 : decode b_Ma_max 0 = .ok (.iload_n 0, 1) := by decide +kernel
theorem d_Ma_max_1 : decode b_Ma_max 1 = .ok (.iload_n 1, 1) := by decide +kernel
theorem d_Ma_max_2 : decode b_Ma_max 2 = .ok (.if_icmp .lt 7, 3) := by decide +kernel
theorem d_Ma_max_5 : decode b_Ma_max 5 = .ok (.iload_n 0, 1) := by decide +kernel
theorem d_Ma_max_6 : decode b_Ma_max 6 = .ok (.goto 4, 3) := by decide +kernel
theorem d_Ma_max_9 : decode b_Ma_max 9 = .ok (.iload_n 1, 1) := by decide +kernel
theorem d_Ma_max_10 : decode b_Ma_max 10 = .ok (.ireturn, 1) := by decide +kernel
set_option maxHeartbeats 4000000 in
set_option maxRecDepth 100000 in
theorem c_Ma_max (F : Nat → Nat → Int) (G : Nat → Int → Int) (a b : Int) (ha : -2147483648 ≤ a ∧ a < 2147483648) (hb : -2147483648 ≤ b ∧ b < 2147483648) : cP y_Ma_max b_Ma_max 2 (some .int) 0 0 F G (fun ad => [.int (iI a), .int (iI b)]) (fun r => r = max a b) := by
  intro s0 a0 D t ad
  refine g_startPF (by decide +kernel) (Nat.le_of_ble_eq_true rfl) (fun p l e R s m args below meth c A ok => ?_)
  show gW p l e R s m args below meth c _ D A 2 (gZ0 s) 0 0 ad 265 (mem ad t F G) 0 [(0, .int (iI a)), (1, .int (iI b))] []
  refine g_iload_n ok d_Ma_max_0 rfl 0 rfl ?_
  refine g_iload_n ok d_Ma_max_1 rfl 1 rfl ?_
  refine g_icmp_lt ok 9 d_Ma_max_2 (by decide) (by omega) (by omega) (fun h1 => ?_) (fun h1 => ?_)
  · refine g_iload_n ok d_Ma_max_9 rfl 1 rfl ?_
    exact g_ipret ok d_Ma_max_10 (by omega)
  · refine g_iload_n ok d_Ma_max_5 rfl 0 rfl ?_
    refine g_goto ok 10 d_Ma_max_6 (by decide) ?_
    exact g_ipret ok d_Ma_max_10 (by omega)
theorem d_Ma_min_0 : decode b_Ma_min 0 = .ok (.iload_n 0, 1) := by decide +kernel
theorem d_Ma_min_1 : decode b_Ma_min 1 = .ok (.iload_n 1, 1) := by decide +kernel
theorem d_Ma_min_2 : decode b_Ma_min 2 = .ok (.if_icmp .gt 7, 3) := by decide +kernel
theorem d_Ma_min_5 : decode b_Ma_min 5 = .ok (.iload_n 0, 1) := by decide +kernel
theorem d_Ma_min_6 : decode b_Ma_min 6 = .ok (.goto 4, 3) := by decide +kernel
theorem d_Ma_min_9 : decode b_Ma_min 9 = .ok (.iload_n 1, 1) := by decide +kernel
theorem d_Ma_min_10 : decode b_Ma_min 10 = .ok (.ireturn, 1) := by decide +kernel
set_option maxHeartbeats 4000000 in
set_option maxRecDepth 100000 in
theorem c_Ma_min (F : Nat → Nat → Int) (G : Nat → Int → Int) (a b : Int) (ha : -2147483648 ≤ a ∧ a < 2147483648) (hb : -2147483648 ≤ b ∧ b < 2147483648) : cP y_Ma_min b_Ma_min 2 (some .int) 0 0 F G (fun ad => [.int (iI a), .int (iI b)]) (fun r => r = min a b) := by
  intro s0 a0 D t ad
  refine g_startPF (by decide +kernel) (Nat.le_of_ble_eq_true rfl) (fun p l e R s m args below meth c A ok => ?_)
  show gW p l e R s m args below meth c _ D A 2 (gZ0 s) 0 0 ad 265 (mem ad t F G) 0 [(0, .int (iI a)), (1, .int (iI b))] []
  refine g_iload_n ok d_Ma_min_0 rfl 0 rfl ?_
  refine g_iload_n ok d_Ma_min_1 rfl 1 rfl ?_
  refine g_icmp_gt ok 9 d_Ma_min_2 (by decide) (by omega) (by omega) (fun h1 => ?_) (fun h1 => ?_)
  · refine g_iload_n ok d_Ma_min_9 rfl 1 rfl ?_
    exact g_ipret ok d_Ma_min_10 (by omega)
  · refine g_iload_n ok d_Ma_min_5 rfl 0 rfl ?_
    refine g_goto ok 10 d_Ma_min_6 (by decide) ?_
    exact g_ipret ok d_Ma_min_10 (by omega)
theorem d_Ma_abs_0 : decode b_Ma_abs 0 = .ok (.iload_n 0, 1) := by decide +kernel
theorem d_Ma_abs_1 : decode b_Ma_abs 1 = .ok (.ifCond .ge 8, 3) := by decide +kernel
theorem d_Ma_abs_4 : decode b_Ma_abs 4 = .ok (.iload_n 0, 1) := by decide +kernel
theorem d_Ma_abs_5 : decode b_Ma_abs 5 = .ok (.ineg, 1) := by decide +kernel
theorem d_Ma_abs_6 : decode b_Ma_abs 6 = .ok (.goto 4, 3) := by decide +kernel
theorem d_Ma_abs_9 : decode b_Ma_abs 9 = .ok (.iload_n 0, 1) := by decide +kernel
theorem d_Ma_abs_10 : decode b_Ma_abs 10 = .ok (.ireturn, 1) := by decide +kernel
set_option maxHeartbeats 4000000 in
set_option maxRecDepth 100000 in
theorem c_Ma_abs (F : Nat → Nat → Int) (G : Nat → Int → Int) (a : Int) (ha : -2147483648 < a ∧ a < 2147483648) : cP y_Ma_abs b_Ma_abs 1 (some .int) 0 0 F G (fun ad => [.int (iI a)]) (fun r => r = if a < 0 then -a else a) := by
  intro s0 a0 D t ad
  refine g_startPF (by decide +kernel) (Nat.le_of_ble_eq_true rfl) (fun p l e R s m args below meth c A ok => ?_)
  show gW p l e R s m args below meth c _ D A 1 (gZ0 s) 0 0 ad 265 (mem ad t F G) 0 [(0, .int (iI a))] []
  refine g_iload_n ok d_Ma_abs_0 rfl 0 rfl ?_
  refine g_if_ge ok 9 d_Ma_abs_1 (by decide) (by omega) (fun h1 => ?_) (fun h1 => ?_)
  · refine g_iload_n ok d_Ma_abs_9 rfl 0 rfl ?_
    exact g_ipret ok d_Ma_abs_10 (by split <;> omega)
  · refine g_iload_n ok d_Ma_abs_4 rfl 0 rfl ?_
    refine g_ineg ok d_Ma_abs_5 ?_
    refine g_goto ok 10 d_Ma_abs_6 (by decide) ?_
    exact g_ipret ok d_Ma_abs_10 (by split <;> omega)
theorem d_Rg_add_0 : decode b_Rg_add 0 = .ok (.aload_n 0, 1) := by decide +kernel
theorem d_Rg_add_1 : decode b_Rg_add 1 = .ok (.getfield 16, 3) := by decide +kernel
theorem d_Rg_add_4 : decode b_Rg_add 4 = .ok (.aload_n 0, 1) := by decide +kernel
theorem d_Rg_add_5 : decode b_Rg_add 5 = .ok (.getfield 7, 3) := by decide +kernel
theorem d_Rg_add_8 : decode b_Rg_add 8 = .ok (.arraylength, 1) := by decide +kernel
theorem d_Rg_add_9 : decode b_Rg_add 9 = .ok (.if_icmp .ge 33, 3) := by decide +kernel
theorem d_Rg_add_12 : decode b_Rg_add 12 = .ok (.aload_n 0, 1) := by decide +kernel
theorem d_Rg_add_13 : decode b_Rg_add 13 = .ok (.getfield 7, 3) := by decide +kernel
theorem d_Rg_add_16 : decode b_Rg_add 16 = .ok (.aload_n 0, 1) := by decide +kernel
theorem d_Rg_add_17 : decode b_Rg_add 17 = .ok (.getfield 16, 3) := by decide +kernel
theorem d_Rg_add_20 : decode b_Rg_add 20 = .ok (.iload_n 1, 1) := by decide +kernel
theorem d_Rg_add_21 : decode b_Rg_add 21 = .ok (.iastore, 1) := by decide +kernel
theorem d_Rg_add_22 : decode b_Rg_add 22 = .ok (.aload_n 0, 1) := by decide +kernel
theorem d_Rg_add_23 : decode b_Rg_add 23 = .ok (.getfield 13, 3) := by decide +kernel
theorem d_Rg_add_26 : decode b_Rg_add 26 = .ok (.aload_n 0, 1) := by decide +kernel
theorem d_Rg_add_27 : decode b_Rg_add 27 = .ok (.getfield 16, 3) := by decide +kernel
theorem d_Rg_add_30 : decode b_Rg_add 30 = .ok (.iload_n 2, 1) := by decide +kernel
theorem d_Rg_add_31 : decode b_Rg_add 31 = .ok (.iastore, 1) := by decide +kernel
theorem d_Rg_add_32 : decode b_Rg_add 32 = .ok (.aload_n 0, 1) := by decide +kernel
theorem d_Rg_add_33 : decode b_Rg_add 33 = .ok (.dup, 1) := by decide +kernel
theorem d_Rg_add_34 : decode b_Rg_add 34 = .ok (.getfield 16, 3) := by decide +kernel
theorem d_Rg_add_37 : decode b_Rg_add 37 = .ok (.iconst 1, 1) := by decide +kernel
theorem d_Rg_add_38 : decode b_Rg_add 38 = .ok (.iadd, 1) := by decide +kernel
theorem d_Rg_add_39 : decode b_Rg_add 39 = .ok (.putfield 16, 3) := by decide +kernel
theorem d_Rg_add_42 : decode b_Rg_add 42 = .ok (.return_, 1) := by decide +kernel
set_option maxHeartbeats 4000000 in
set_option maxRecDepth 100000 in
theorem c_Rg_add (F : Nat → Nat → Int) (G : Nat → Int → Int) (k N : Nat) (x y : Int) (hK : isRg k) (hN : N = rRoom ((k - 2) % 22)) (hs : 0 ≤ F k 2 ∧ F k 2 < N) : cV y_Rg_add b_Rg_add 3 none 0 0 F G (fun ad => [.ref (ad k), .int (iI x), .int (iI y)]) (fun F' G' => F' = fU F k 2 (F k 2 + 1) ∧ G' = gU (gU G (k + 1) (F k 2) x) (k + 2) (F k 2) y) := by
  have a1 : isA (k + 1) N := a_rg hK (Or.inl rfl) hN
  have a2 : isA (k + 2) N := a_rg hK (Or.inr rfl) hN
  have hN1 := a1.1.2
  intro s0 a0 D t ad
  refine g_startV (by decide +kernel) (Nat.le_of_ble_eq_true rfl) (fun p l e R s m args below meth c A ok => ?_)
  show gW p l e R s m args below meth c _ D A 3 (gZ0 s) 0 0 ad 265 (mem ad t F G) 0 [(0, .ref (ad k)), (1, .int (iI x)), (2, .int (iI y))] []
  refine g_aload_n ok d_Rg_add_0 rfl 0 rfl ?_
  refine gI_Rg_size ok _ hK k_54 d_Rg_add_1 ?_
  refine g_aload_n ok d_Rg_add_4 rfl 0 rfl ?_
  refine gI_Rg_xs ok _ hK k_44 d_Rg_add_5 ?_
  refine h_alen ok _ a1 d_Rg_add_8 ?_
  refine g_icmp_ge ok 42 d_Rg_add_9 (by decide) (by omega) (by omega) (fun h1 => ?_) (fun h1 => ?_)
  · exact absurd h1 (by omega)
  · refine g_aload_n ok d_Rg_add_12 rfl 0 rfl ?_
    refine gI_Rg_xs ok _ hK k_44 d_Rg_add_13 ?_
    refine g_aload_n ok d_Rg_add_16 rfl 0 rfl ?_
    refine gI_Rg_size ok _ hK k_54 d_Rg_add_17 ?_
    refine g_iload_n ok d_Rg_add_20 rfl 1 rfl ?_
    refine h_iast ok _ a1 (by omega) d_Rg_add_21 ?_
    refine g_aload_n ok d_Rg_add_22 rfl 0 rfl ?_
    refine gI_Rg_ys ok _ hK k_49 d_Rg_add_23 ?_
    refine g_aload_n ok d_Rg_add_26 rfl 0 rfl ?_
    refine gI_Rg_size ok _ hK k_54 d_Rg_add_27 ?_
    refine g_iload_n ok d_Rg_add_30 rfl 2 rfl ?_
    refine h_iast ok _ a2 (by omega) d_Rg_add_31 ?_
    refine g_aload_n ok d_Rg_add_32 rfl 0 rfl ?_
    refine g_dup ok d_Rg_add_33 rfl ?_
    refine gI_Rg_size ok _ hK k_54 d_Rg_add_34 ?_
    refine g_iconst ok d_Rg_add_37 ?_
    refine g_iadd ok d_Rg_add_38 ?_
    refine pI_Rg_size ok _ hK k_54 d_Rg_add_39 ?_
    exact g_vret ok d_Rg_add_42 ⟨_, _, rfl, rfl, rfl⟩
theorem d_Ma_floorDiv_0 : decode b_Ma_floorDiv 0 = .ok (.iload_n 0, 1) := by decide +kernel
theorem d_Ma_floorDiv_1 : decode b_Ma_floorDiv 1 = .ok (.iload_n 1, 1) := by decide +kernel
theorem d_Ma_floorDiv_2 : decode b_Ma_floorDiv 2 = .ok (.idiv, 1) := by decide +kernel
theorem d_Ma_floorDiv_3 : decode b_Ma_floorDiv 3 = .ok (.istore_n 2, 1) := by decide +kernel
theorem d_Ma_floorDiv_4 : decode b_Ma_floorDiv 4 = .ok (.iload_n 0, 1) := by decide +kernel
theorem d_Ma_floorDiv_5 : decode b_Ma_floorDiv 5 = .ok (.iload_n 1, 1) := by decide +kernel
theorem d_Ma_floorDiv_6 : decode b_Ma_floorDiv 6 = .ok (.ixor, 1) := by decide +kernel
theorem d_Ma_floorDiv_7 : decode b_Ma_floorDiv 7 = .ok (.ifCond .ge 14, 3) := by decide +kernel
theorem d_Ma_floorDiv_10 : decode b_Ma_floorDiv 10 = .ok (.iload_n 2, 1) := by decide +kernel
theorem d_Ma_floorDiv_11 : decode b_Ma_floorDiv 11 = .ok (.iload_n 1, 1) := by decide +kernel
theorem d_Ma_floorDiv_12 : decode b_Ma_floorDiv 12 = .ok (.imul, 1) := by decide +kernel
theorem d_Ma_floorDiv_13 : decode b_Ma_floorDiv 13 = .ok (.iload_n 0, 1) := by decide +kernel
theorem d_Ma_floorDiv_14 : decode b_Ma_floorDiv 14 = .ok (.if_icmp .eq 7, 3) := by decide +kernel
theorem d_Ma_floorDiv_17 : decode b_Ma_floorDiv 17 = .ok (.iload_n 2, 1) := by decide +kernel
theorem d_Ma_floorDiv_18 : decode b_Ma_floorDiv 18 = .ok (.iconst 1, 1) := by decide +kernel
theorem d_Ma_floorDiv_19 : decode b_Ma_floorDiv 19 = .ok (.isub, 1) := by decide +kernel
theorem d_Ma_floorDiv_20 : decode b_Ma_floorDiv 20 = .ok (.ireturn, 1) := by decide +kernel
theorem d_Ma_floorDiv_21 : decode b_Ma_floorDiv 21 = .ok (.iload_n 2, 1) := by decide +kernel
theorem d_Ma_floorDiv_22 : decode b_Ma_floorDiv 22 = .ok (.ireturn, 1) := by decide +kernel
set_option maxHeartbeats 4000000 in
set_option maxRecDepth 100000 in
theorem c_Ma_floorDiv (F : Nat → Nat → Int) (G : Nat → Int → Int) (a b : Int) (ha : -2147483648 ≤ a ∧ a < 2147483648) (hb : 0 < b ∧ b < 2147483648) : cP y_Ma_floorDiv b_Ma_floorDiv 3 (some .int) 0 0 F G (fun ad => [.int (iI a), .int (iI b)]) (fun r => r = a / b) := by
  have r1 := tdiv_rng ha hb.1
  have r2 := tdiv_mul_rng ha hb.1
  have r3 := zxor_rng a b
  have r4 := zxor_neg ha (b := b) (by omega)
  intro s0 a0 D t ad
  refine g_startPF (by decide +kernel) (Nat.le_of_ble_eq_true rfl) (fun p l e R s m args below meth c A ok => ?_)
  show gW p l e R s m args below meth c _ D A 3 (gZ0 s) 0 0 ad 265 (mem ad t F G) 0 [(0, .int (iI a)), (1, .int (iI b))] []
  refine g_iload_n ok d_Ma_floorDiv_0 rfl 0 rfl ?_
  refine g_iload_n ok d_Ma_floorDiv_1 rfl 1 rfl ?_
  refine g_idiv (z := Int.tdiv a b) ok (iI_ne0 hb) (iI_div ha hb) d_Ma_floorDiv_2 ?_
  refine g_istore_n (lv' := [(2, .int (iI (Int.tdiv a b))), (0, .int (iI a)), (1, .int (iI b))]) ok d_Ma_floorDiv_3 rfl (by decide) rfl ?_
  refine g_iload_n ok d_Ma_floorDiv_4 rfl 1 rfl ?_
  refine g_iload_n ok d_Ma_floorDiv_5 rfl 2 rfl ?_
  refine g_ixor (z := zxor a b) ok (iI_xor a b) d_Ma_floorDiv_6 ?_
  refine g_if_ge ok 21 d_Ma_floorDiv_7 (by decide) (by omega) (fun h1 => ?_) (fun h1 => ?_)
  · refine g_iload_n ok d_Ma_floorDiv_21 rfl 0 rfl ?_
    exact g_ipret ok d_Ma_floorDiv_22 (fdiv_lo hb.1 (Or.inl (by omega)))
  · refine g_iload_n ok d_Ma_floorDiv_10 rfl 0 rfl ?_
    refine g_iload_n ok d_Ma_floorDiv_11 rfl 2 rfl ?_
    refine g_imul ok d_Ma_floorDiv_12 ?_
    refine g_iload_n ok d_Ma_floorDiv_13 rfl 1 rfl ?_
    refine g_icmp_eq ok 21 d_Ma_floorDiv_14 (by decide) (by omega) (by omega) (fun h2 => ?_) (fun h2 => ?_)
    · refine g_iload_n ok d_Ma_floorDiv_21 rfl 0 rfl ?_
      exact g_ipret ok d_Ma_floorDiv_22 (fdiv_lo hb.1 (Or.inr ⟨a.tdiv b, by rw [Int.mul_comm]; exact h2.symm⟩))
    · refine g_iload_n ok d_Ma_floorDiv_17 rfl 0 rfl ?_
      refine g_iconst ok d_Ma_floorDiv_18 ?_
      refine g_isub ok d_Ma_floorDiv_19 ?_
      exact g_ipret ok d_Ma_floorDiv_20 (fdiv_hi hb.1 (fun q => q.elim (fun q => by omega) (fun q => h2 (by rw [Int.mul_comm]; exact Int.mul_tdiv_cancel_of_dvd q))))
