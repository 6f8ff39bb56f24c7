def sumN (f : Int → Int) : Nat → Int
  | 0 => 0
  | n + 1 => sumN f n + f (n : Int)
theorem sumN_step {f : Int → Int} {i : Int} (h : 0 ≤ i) : sumN f (i + 1).toNat = sumN f i.toNat + f i := by
  have e : (i + 1).toNat = i.toNat + 1 := by omega
  rw [e]
  show sumN f i.toNat + f ((i.toNat : Nat) : Int) = _
  rw [Int.toNat_of_nonneg h]
theorem d_Mo_thrown_0 : decode b_Mo_thrown 0 = .ok (.aload_n 0, 1) := by decide +kernel
theorem d_Mo_thrown_1 : decode b_Mo_thrown 1 = .ok (.getfield 7, 3) := by decide +kernel
theorem d_Mo_thrown_4 : decode b_Mo_thrown 4 = .ok (.ireturn, 1) := by decide +kernel
set_option maxHeartbeats 4000000 in
set_option maxRecDepth 100000 in
theorem c_Mo_thrown (F : Nat → Nat → Int) (G : Nat → Int → Int) : cP y_Mo_thrown b_Mo_thrown 1 (some .int) 0 0 F G (fun ad => [.ref (ad 244)]) (fun r => r = F 244 0) := by
  intro s0 a0 D t ad
  refine g_startP (by decide +kernel) (Nat.le_of_ble_eq_true rfl) (fun p l e R s m args below meth c A ok => ?_)
  show gW p l e R s m args below meth c _ D A 1 (gZ0 s) 0 0 ad 265 (mem ad t F G) 0 [(0, .ref (ad 244))] []
  refine g_aload_n ok d_Mo_thrown_0 rfl 0 rfl ?_
  refine gI_Mo_thrownCode ok _ rfl k_989 d_Mo_thrown_1 ?_
  exact g_ipret ok d_Mo_thrown_4 (rfl)
theorem d_Mo_fault_0 : decode b_Mo_fault 0 = .ok (.aload_n 0, 1) := by decide +kernel
theorem d_Mo_fault_1 : decode b_Mo_fault 1 = .ok (.iconst 0, 1) := by decide +kernel
theorem d_Mo_fault_2 : decode b_Mo_fault 2 = .ok (.putfield 7, 3) := by decide +kernel
theorem d_Mo_fault_5 : decode b_Mo_fault 5 = .ok (.iload_n 1, 1) := by decide +kernel
theorem d_Mo_fault_6 : decode b_Mo_fault 6 = .ok (.ifCond .ne 10, 3) := by decide +kernel
theorem d_Mo_fault_9 : decode b_Mo_fault 9 = .ok (.aload_n 0, 1) := by decide +kernel
theorem d_Mo_fault_10 : decode b_Mo_fault 10 = .ok (.getfield 39, 3) := by decide +kernel
theorem d_Mo_fault_13 : decode b_Mo_fault 13 = .ok (.goto 28, 3) := by decide +kernel
theorem d_Mo_fault_16 : decode b_Mo_fault 16 = .ok (.iload_n 1, 1) := by decide +kernel
theorem d_Mo_fault_17 : decode b_Mo_fault 17 = .ok (.iconst 1, 1) := by decide +kernel
theorem d_Mo_fault_18 : decode b_Mo_fault 18 = .ok (.if_icmp .ne 10, 3) := by decide +kernel
theorem d_Mo_fault_21 : decode b_Mo_fault 21 = .ok (.aload_n 0, 1) := by decide +kernel
theorem d_Mo_fault_22 : decode b_Mo_fault 22 = .ok (.getfield 42, 3) := by decide +kernel
theorem d_Mo_fault_25 : decode b_Mo_fault 25 = .ok (.goto 16, 3) := by decide +kernel
theorem d_Mo_fault_28 : decode b_Mo_fault 28 = .ok (.iload_n 1, 1) := by decide +kernel
theorem d_Mo_fault_29 : decode b_Mo_fault 29 = .ok (.iconst 2, 1) := by decide +kernel
theorem d_Mo_fault_30 : decode b_Mo_fault 30 = .ok (.if_icmp .ne 10, 3) := by decide +kernel
theorem d_Mo_fault_33 : decode b_Mo_fault 33 = .ok (.aload_n 0, 1) := by decide +kernel
theorem d_Mo_fault_34 : decode b_Mo_fault 34 = .ok (.getfield 45, 3) := by decide +kernel
theorem d_Mo_fault_37 : decode b_Mo_fault 37 = .ok (.goto 4, 3) := by decide +kernel
theorem d_Mo_fault_40 : decode b_Mo_fault 40 = .ok (.iconst (-1), 1) := by decide +kernel
theorem d_Mo_fault_41 : decode b_Mo_fault 41 = .ok (.ireturn, 1) := by decide +kernel
set_option maxHeartbeats 4000000 in
set_option maxRecDepth 100000 in
theorem c_Mo_fault (F : Nat → Nat → Int) (G : Nat → Int → Int) (w : Int) (hw : -2147483648 ≤ w ∧ w < 2147483648) : cI y_Mo_fault b_Mo_fault 2 (some .int) 0 0 F G (fun ad => [.ref (ad 244), .int (iI w)]) (fun z F' G' => F' = fU F 244 0 0 ∧ G' = G ∧ z = (if w = 0 then F 244 9 else if w = 1 then F 244 10 else if w = 2 then F 244 11 else -1)) := by
  intro s0 a0 D t ad
  refine g_startI (by decide +kernel) (Nat.le_of_ble_eq_true rfl) (fun p l e R s m args below meth c A ok => ?_)
  show gW p l e R s m args below meth c _ D A 2 (gZ0 s) 0 0 ad 265 (mem ad t F G) 0 [(0, .ref (ad 244)), (1, .int (iI w))] []
  refine g_aload_n ok d_Mo_fault_0 rfl 0 rfl ?_
  refine g_iconst ok d_Mo_fault_1 ?_
  refine pI_Mo_thrownCode ok _ rfl k_989 d_Mo_fault_2 ?_
  refine g_iload_n ok d_Mo_fault_5 rfl 1 rfl ?_
  refine g_if_ne ok 16 d_Mo_fault_6 (by decide) (by omega) (fun h1 => ?_) (fun h1 => ?_)
  · refine g_iload_n ok d_Mo_fault_16 rfl 1 rfl ?_
    refine g_iconst ok d_Mo_fault_17 ?_
    refine g_icmp_ne ok 28 d_Mo_fault_18 (by decide) (by omega) (by omega) (fun h2 => ?_) (fun h2 => ?_)
    · refine g_iload_n ok d_Mo_fault_28 rfl 1 rfl ?_
      refine g_iconst ok d_Mo_fault_29 ?_
      refine g_icmp_ne ok 40 d_Mo_fault_30 (by decide) (by omega) (by omega) (fun h3 => ?_) (fun h3 => ?_)
      · refine g_iconst ok d_Mo_fault_40 ?_
        exact g_iret ok d_Mo_fault_41 ⟨_, _, rfl, rfl, rfl, by split <;> (try split) <;> (try split) <;> omega⟩
      · refine g_aload_n ok d_Mo_fault_33 rfl 0 rfl ?_
        refine gI_Mo_faultOther ok _ rfl k_1000 d_Mo_fault_34 ?_
        refine g_top (y := F 244 11) (by simp [fU]) ?_
        refine g_goto ok 41 d_Mo_fault_37 (by decide) ?_
        exact g_iret ok d_Mo_fault_41 ⟨_, _, rfl, rfl, rfl, by split <;> (try split) <;> (try split) <;> omega⟩
    · refine g_aload_n ok d_Mo_fault_21 rfl 0 rfl ?_
      refine gI_Mo_faultOne ok _ rfl k_999 d_Mo_fault_22 ?_
      refine g_top (y := F 244 10) (by simp [fU]) ?_
      refine g_goto ok 41 d_Mo_fault_25 (by decide) ?_
      exact g_iret ok d_Mo_fault_41 ⟨_, _, rfl, rfl, rfl, by split <;> (try split) <;> (try split) <;> omega⟩
  · refine g_aload_n ok d_Mo_fault_9 rfl 0 rfl ?_
    refine gI_Mo_faultNow ok _ rfl k_998 d_Mo_fault_10 ?_
    refine g_top (y := F 244 9) (by simp [fU]) ?_
    refine g_goto ok 41 d_Mo_fault_13 (by decide) ?_
    exact g_iret ok d_Mo_fault_41 ⟨_, _, rfl, rfl, rfl, by split <;> (try split) <;> (try split) <;> omega⟩
theorem d_Mo_count_0 : decode b_Mo_count 0 = .ok (.aload_n 0, 1) := by decide +kernel
theorem d_Mo_count_1 : decode b_Mo_count 1 = .ok (.iconst 0, 1) := by decide +kernel
theorem d_Mo_count_2 : decode b_Mo_count 2 = .ok (.putfield 7, 3) := by decide +kernel
theorem d_Mo_count_5 : decode b_Mo_count 5 = .ok (.iload_n 1, 1) := by decide +kernel
theorem d_Mo_count_6 : decode b_Mo_count 6 = .ok (.ifCond .ne 10, 3) := by decide +kernel
theorem d_Mo_count_9 : decode b_Mo_count 9 = .ok (.aload_n 0, 1) := by decide +kernel
theorem d_Mo_count_10 : decode b_Mo_count 10 = .ok (.getfield 13, 3) := by decide +kernel
theorem d_Mo_count_13 : decode b_Mo_count 13 = .ok (.goto 48, 3) := by decide +kernel
theorem d_Mo_count_16 : decode b_Mo_count 16 = .ok (.iload_n 1, 1) := by decide +kernel
theorem d_Mo_count_17 : decode b_Mo_count 17 = .ok (.iconst 1, 1) := by decide +kernel
theorem d_Mo_count_18 : decode b_Mo_count 18 = .ok (.if_icmp .ne 10, 3) := by decide +kernel
theorem d_Mo_count_21 : decode b_Mo_count 21 = .ok (.aload_n 0, 1) := by decide +kernel
theorem d_Mo_count_22 : decode b_Mo_count 22 = .ok (.getfield 73, 3) := by decide +kernel
theorem d_Mo_count_25 : decode b_Mo_count 25 = .ok (.goto 36, 3) := by decide +kernel
theorem d_Mo_count_28 : decode b_Mo_count 28 = .ok (.iload_n 1, 1) := by decide +kernel
theorem d_Mo_count_29 : decode b_Mo_count 29 = .ok (.iconst 2, 1) := by decide +kernel
theorem d_Mo_count_30 : decode b_Mo_count 30 = .ok (.if_icmp .ne 10, 3) := by decide +kernel
theorem d_Mo_count_33 : decode b_Mo_count 33 = .ok (.aload_n 0, 1) := by decide +kernel
theorem d_Mo_count_34 : decode b_Mo_count 34 = .ok (.getfield 103, 3) := by decide +kernel
theorem d_Mo_count_37 : decode b_Mo_count 37 = .ok (.goto 24, 3) := by decide +kernel
theorem d_Mo_count_40 : decode b_Mo_count 40 = .ok (.iload_n 1, 1) := by decide +kernel
theorem d_Mo_count_41 : decode b_Mo_count 41 = .ok (.iconst 3, 1) := by decide +kernel
theorem d_Mo_count_42 : decode b_Mo_count 42 = .ok (.if_icmp .ne 18, 3) := by decide +kernel
theorem d_Mo_count_45 : decode b_Mo_count 45 = .ok (.aload_n 0, 1) := by decide +kernel
theorem d_Mo_count_46 : decode b_Mo_count 46 = .ok (.getfield 16, 3) := by decide +kernel
theorem d_Mo_count_49 : decode b_Mo_count 49 = .ok (.ifCond .eq 7, 3) := by decide +kernel
theorem d_Mo_count_52 : decode b_Mo_count 52 = .ok (.iconst 1, 1) := by decide +kernel
theorem d_Mo_count_53 : decode b_Mo_count 53 = .ok (.goto 8, 3) := by decide +kernel
theorem d_Mo_count_56 : decode b_Mo_count 56 = .ok (.iconst 0, 1) := by decide +kernel
theorem d_Mo_count_57 : decode b_Mo_count 57 = .ok (.goto 4, 3) := by decide +kernel
theorem d_Mo_count_60 : decode b_Mo_count 60 = .ok (.iconst (-1), 1) := by decide +kernel
theorem d_Mo_count_61 : decode b_Mo_count 61 = .ok (.ireturn, 1) := by decide +kernel
set_option maxHeartbeats 4000000 in
set_option maxRecDepth 100000 in
theorem c_Mo_count (F : Nat → Nat → Int) (G : Nat → Int → Int) (w : Int) (hw : -2147483648 ≤ w ∧ w < 2147483648) (hop : F 244 2 = 0 ∨ F 244 2 = 1) : cI y_Mo_count b_Mo_count 2 (some .int) 0 0 F G (fun ad => [.ref (ad 244), .int (iI w)]) (fun z F' G' => F' = fU F 244 0 0 ∧ G' = G ∧ z = (if w = 0 then F 244 1 else if w = 1 then F 244 20 else if w = 2 then F 244 30 else if w = 3 then F 244 2 else -1)) := by
  intro s0 a0 D t ad
  refine g_startI (by decide +kernel) (Nat.le_of_ble_eq_true rfl) (fun p l e R s m args below meth c A ok => ?_)
  show gW p l e R s m args below meth c _ D A 2 (gZ0 s) 0 0 ad 265 (mem ad t F G) 0 [(0, .ref (ad 244)), (1, .int (iI w))] []
  refine g_aload_n ok d_Mo_count_0 rfl 0 rfl ?_
  refine g_iconst ok d_Mo_count_1 ?_
  refine pI_Mo_thrownCode ok _ rfl k_989 d_Mo_count_2 ?_
  refine g_iload_n ok d_Mo_count_5 rfl 1 rfl ?_
  refine g_if_ne ok 16 d_Mo_count_6 (by decide) (by omega) (fun h1 => ?_) (fun h1 => ?_)
  · refine g_iload_n ok d_Mo_count_16 rfl 1 rfl ?_
    refine g_iconst ok d_Mo_count_17 ?_
    refine g_icmp_ne ok 28 d_Mo_count_18 (by decide) (by omega) (by omega) (fun h2 => ?_) (fun h2 => ?_)
    · refine g_iload_n ok d_Mo_count_28 rfl 1 rfl ?_
      refine g_iconst ok d_Mo_count_29 ?_
      refine g_icmp_ne ok 40 d_Mo_count_30 (by decide) (by omega) (by omega) (fun h3 => ?_) (fun h3 => ?_)
      · refine g_iload_n ok d_Mo_count_40 rfl 1 rfl ?_
        refine g_iconst ok d_Mo_count_41 ?_
        refine g_icmp_ne ok 60 d_Mo_count_42 (by decide) (by omega) (by omega) (fun h4 => ?_) (fun h4 => ?_)
        · refine g_iconst ok d_Mo_count_60 ?_
          exact g_iret ok d_Mo_count_61 ⟨_, _, rfl, rfl, rfl, by split <;> (try split) <;> (try split) <;> (try split) <;> omega⟩
        · refine g_aload_n ok d_Mo_count_45 rfl 0 rfl ?_
          refine gI_Mo_open ok _ rfl k_991 d_Mo_count_46 ?_
          refine g_top (y := F 244 2) (by simp [fU]) ?_
          refine g_if_eq ok 56 d_Mo_count_49 (by decide) (by omega) (fun h5 => ?_) (fun h5 => ?_)
          · refine g_iconst ok d_Mo_count_56 ?_
            refine g_goto ok 61 d_Mo_count_57 (by decide) ?_
            exact g_iret ok d_Mo_count_61 ⟨_, _, rfl, rfl, rfl, by split <;> (try split) <;> (try split) <;> (try split) <;> omega⟩
          · refine g_iconst ok d_Mo_count_52 ?_
            refine g_goto ok 61 d_Mo_count_53 (by decide) ?_
            exact g_iret ok d_Mo_count_61 ⟨_, _, rfl, rfl, rfl, by split <;> (try split) <;> (try split) <;> (try split) <;> omega⟩
      · refine g_aload_n ok d_Mo_count_33 rfl 0 rfl ?_
        refine gI_Mo_loaded ok _ rfl k_1019 d_Mo_count_34 ?_
        refine g_top (y := F 244 30) (by simp [fU]) ?_
        refine g_goto ok 61 d_Mo_count_37 (by decide) ?_
        exact g_iret ok d_Mo_count_61 ⟨_, _, rfl, rfl, rfl, by split <;> (try split) <;> (try split) <;> (try split) <;> omega⟩
    · refine g_aload_n ok d_Mo_count_21 rfl 0 rfl ?_
      refine gI_Mo_records ok _ rfl k_1009 d_Mo_count_22 ?_
      refine g_top (y := F 244 20) (by simp [fU]) ?_
      refine g_goto ok 61 d_Mo_count_25 (by decide) ?_
      exact g_iret ok d_Mo_count_61 ⟨_, _, rfl, rfl, rfl, by split <;> (try split) <;> (try split) <;> (try split) <;> omega⟩
  · refine g_aload_n ok d_Mo_count_9 rfl 0 rfl ?_
    refine gI_Mo_shapes ok _ rfl k_990 d_Mo_count_10 ?_
    refine g_top (y := F 244 1) (by simp [fU]) ?_
    refine g_goto ok 61 d_Mo_count_13 (by decide) ?_
    exact g_iret ok d_Mo_count_61 ⟨_, _, rfl, rfl, rfl, by split <;> (try split) <;> (try split) <;> (try split) <;> omega⟩
theorem d_Mo_order_0 : decode b_Mo_order 0 = .ok (.aload_n 0, 1) := by decide +kernel
theorem d_Mo_order_1 : decode b_Mo_order 1 = .ok (.iconst 0, 1) := by decide +kernel
theorem d_Mo_order_2 : decode b_Mo_order 2 = .ok (.putfield 7, 3) := by decide +kernel
theorem d_Mo_order_5 : decode b_Mo_order 5 = .ok (.iload_n 1, 1) := by decide +kernel
theorem d_Mo_order_6 : decode b_Mo_order 6 = .ok (.ifCond .lt 11, 3) := by decide +kernel
theorem d_Mo_order_9 : decode b_Mo_order 9 = .ok (.iload_n 1, 1) := by decide +kernel
theorem d_Mo_order_10 : decode b_Mo_order 10 = .ok (.aload_n 0, 1) := by decide +kernel
theorem d_Mo_order_11 : decode b_Mo_order 11 = .ok (.getfield 13, 3) := by decide +kernel
theorem d_Mo_order_14 : decode b_Mo_order 14 = .ok (.if_icmp .lt 7, 3) := by decide +kernel
theorem d_Mo_order_17 : decode b_Mo_order 17 = .ok (.iconst (-1), 1) := by decide +kernel
theorem d_Mo_order_18 : decode b_Mo_order 18 = .ok (.goto 9, 3) := by decide +kernel
theorem d_Mo_order_21 : decode b_Mo_order 21 = .ok (.aload_n 0, 1) := by decide +kernel
theorem d_Mo_order_22 : decode b_Mo_order 22 = .ok (.getfield 36, 3) := by decide +kernel
theorem d_Mo_order_25 : decode b_Mo_order 25 = .ok (.iload_n 1, 1) := by decide +kernel
theorem d_Mo_order_26 : decode b_Mo_order 26 = .ok (.iaload, 1) := by decide +kernel
theorem d_Mo_order_27 : decode b_Mo_order 27 = .ok (.ireturn, 1) := by decide +kernel
set_option maxHeartbeats 4000000 in
set_option maxRecDepth 100000 in
theorem c_Mo_order (F : Nat → Nat → Int) (G : Nat → Int → Int) (k : Int) (hk : -2147483648 ≤ k ∧ k < 2147483648) (hs : 0 ≤ F 244 1 ∧ F 244 1 ≤ 10) : cI y_Mo_order b_Mo_order 2 (some .int) 0 0 F G (fun ad => [.ref (ad 244), .int (iI k)]) (fun z F' G' => F' = fU F 244 0 0 ∧ G' = G ∧ z = (if 0 ≤ k ∧ k < F 244 1 then G 250 k else -1)) := by
  intro s0 a0 D t ad
  refine g_startI (by decide +kernel) (Nat.le_of_ble_eq_true rfl) (fun p l e R s m args below meth c A ok => ?_)
  show gW p l e R s m args below meth c _ D A 2 (gZ0 s) 0 0 ad 265 (mem ad t F G) 0 [(0, .ref (ad 244)), (1, .int (iI k))] []
  refine g_aload_n ok d_Mo_order_0 rfl 0 rfl ?_
  refine g_iconst ok d_Mo_order_1 ?_
  refine pI_Mo_thrownCode ok _ rfl k_989 d_Mo_order_2 ?_
  refine g_iload_n ok d_Mo_order_5 rfl 1 rfl ?_
  refine g_if_lt ok 17 d_Mo_order_6 (by decide) (by omega) (fun h1 => ?_) (fun h1 => ?_)
  · refine g_iconst ok d_Mo_order_17 ?_
    refine g_goto ok 27 d_Mo_order_18 (by decide) ?_
    exact g_iret ok d_Mo_order_27 ⟨_, _, rfl, rfl, rfl, by split <;> first | rfl | omega⟩
  · refine g_iload_n ok d_Mo_order_9 rfl 1 rfl ?_
    refine g_aload_n ok d_Mo_order_10 rfl 0 rfl ?_
    refine gI_Mo_shapes ok _ rfl k_990 d_Mo_order_11 ?_
    refine g_top (y := F 244 1) (by simp [fU]) ?_
    refine g_icmp_lt ok 21 d_Mo_order_14 (by decide) (by omega) (by omega) (fun h2 => ?_) (fun h2 => ?_)
    · refine g_aload_n ok d_Mo_order_21 rfl 0 rfl ?_
      refine gI_Mo_order ok _ rfl k_997 d_Mo_order_22 ?_
      refine g_iload_n ok d_Mo_order_25 rfl 1 rfl ?_
      refine h_iald ok _ a_250 (by omega) d_Mo_order_26 ?_
      exact g_iret ok d_Mo_order_27 ⟨_, _, rfl, rfl, rfl, by split <;> first | rfl | omega⟩
    · refine g_iconst ok d_Mo_order_17 ?_
      refine g_goto ok 27 d_Mo_order_18 (by decide) ?_
      exact g_iret ok d_Mo_order_27 ⟨_, _, rfl, rfl, rfl, by split <;> first | rfl | omega⟩
theorem d_Mo_record_0 : decode b_Mo_record 0 = .ok (.aload_n 0, 1) := by decide +kernel
theorem d_Mo_record_1 : decode b_Mo_record 1 = .ok (.iload_n 1, 1) := by decide +kernel
theorem d_Mo_record_2 : decode b_Mo_record 2 = .ok (.ifCond .lt 11, 3) := by decide +kernel
theorem d_Mo_record_5 : decode b_Mo_record 5 = .ok (.iload_n 1, 1) := by decide +kernel
theorem d_Mo_record_6 : decode b_Mo_record 6 = .ok (.aload_n 0, 1) := by decide +kernel
theorem d_Mo_record_7 : decode b_Mo_record 7 = .ok (.getfield 73, 3) := by decide +kernel
theorem d_Mo_record_10 : decode b_Mo_record 10 = .ok (.if_icmp .lt 7, 3) := by decide +kernel
theorem d_Mo_record_13 : decode b_Mo_record 13 = .ok (.iconst 1, 1) := by decide +kernel
theorem d_Mo_record_14 : decode b_Mo_record 14 = .ok (.goto 17, 3) := by decide +kernel
theorem d_Mo_record_17 : decode b_Mo_record 17 = .ok (.iload_n 2, 1) := by decide +kernel
theorem d_Mo_record_18 : decode b_Mo_record 18 = .ok (.ifCond .lt 8, 3) := by decide +kernel
theorem d_Mo_record_21 : decode b_Mo_record 21 = .ok (.iload_n 2, 1) := by decide +kernel
theorem d_Mo_record_22 : decode b_Mo_record 22 = .ok (.iconst 2, 1) := by decide +kernel
theorem d_Mo_record_23 : decode b_Mo_record 23 = .ok (.if_icmp .le 7, 3) := by decide +kernel
theorem d_Mo_record_26 : decode b_Mo_record 26 = .ok (.iconst 2, 1) := by decide +kernel
theorem d_Mo_record_27 : decode b_Mo_record 27 = .ok (.goto 4, 3) := by decide +kernel
theorem d_Mo_record_30 : decode b_Mo_record 30 = .ok (.iconst 0, 1) := by decide +kernel
theorem d_Mo_record_31 : decode b_Mo_record 31 = .ok (.putfield 7, 3) := by decide +kernel
theorem d_Mo_record_34 : decode b_Mo_record 34 = .ok (.aload_n 0, 1) := by decide +kernel
theorem d_Mo_record_35 : decode b_Mo_record 35 = .ok (.getfield 7, 3) := by decide +kernel
theorem d_Mo_record_38 : decode b_Mo_record 38 = .ok (.ifCond .eq 5, 3) := by decide +kernel
theorem d_Mo_record_41 : decode b_Mo_record 41 = .ok (.iconst 0, 1) := by decide +kernel
theorem d_Mo_record_42 : decode b_Mo_record 42 = .ok (.ireturn, 1) := by decide +kernel
theorem d_Mo_record_43 : decode b_Mo_record 43 = .ok (.iload_n 2, 1) := by decide +kernel
theorem d_Mo_record_44 : decode b_Mo_record 44 = .ok (.ifCond .ne 12, 3) := by decide +kernel
theorem d_Mo_record_47 : decode b_Mo_record 47 = .ok (.aload_n 0, 1) := by decide +kernel
theorem d_Mo_record_48 : decode b_Mo_record 48 = .ok (.getfield 76, 3) := by decide +kernel
theorem d_Mo_record_51 : decode b_Mo_record 51 = .ok (.iload_n 1, 1) := by decide +kernel
theorem d_Mo_record_52 : decode b_Mo_record 52 = .ok (.iaload, 1) := by decide +kernel
theorem d_Mo_record_53 : decode b_Mo_record 53 = .ok (.goto 23, 3) := by decide +kernel
theorem d_Mo_record_56 : decode b_Mo_record 56 = .ok (.iload_n 2, 1) := by decide +kernel
theorem d_Mo_record_57 : decode b_Mo_record 57 = .ok (.iconst 1, 1) := by decide +kernel
theorem d_Mo_record_58 : decode b_Mo_record 58 = .ok (.if_icmp .ne 12, 3) := by decide +kernel
theorem d_Mo_record_61 : decode b_Mo_record 61 = .ok (.aload_n 0, 1) := by decide +kernel
theorem d_Mo_record_62 : decode b_Mo_record 62 = .ok (.getfield 79, 3) := by decide +kernel
theorem d_Mo_record_65 : decode b_Mo_record 65 = .ok (.iload_n 1, 1) := by decide +kernel
theorem d_Mo_record_66 : decode b_Mo_record 66 = .ok (.iaload, 1) := by decide +kernel
theorem d_Mo_record_67 : decode b_Mo_record 67 = .ok (.goto 9, 3) := by decide +kernel
theorem d_Mo_record_70 : decode b_Mo_record 70 = .ok (.aload_n 0, 1) := by decide +kernel
theorem d_Mo_record_71 : decode b_Mo_record 71 = .ok (.getfield 82, 3) := by decide +kernel
theorem d_Mo_record_74 : decode b_Mo_record 74 = .ok (.iload_n 1, 1) := by decide +kernel
theorem d_Mo_record_75 : decode b_Mo_record 75 = .ok (.iaload, 1) := by decide +kernel
theorem d_Mo_record_76 : decode b_Mo_record 76 = .ok (.ireturn, 1) := by decide +kernel
set_option maxHeartbeats 4000000 in
set_option maxRecDepth 100000 in
theorem c_Mo_record (F : Nat → Nat → Int) (G : Nat → Int → Int) (i f : Int) (hi : -2147483648 ≤ i ∧ i < 2147483648) (hf : -2147483648 ≤ f ∧ f < 2147483648) (hs : 0 ≤ F 244 20 ∧ F 244 20 ≤ 4000) : cI y_Mo_record b_Mo_record 3 (some .int) 0 0 F G (fun ad => [.ref (ad 244), .int (iI i), .int (iI f)]) (fun z F' G' => G' = G ∧ ((¬ (0 ≤ i ∧ i < F 244 20) ∧ F' = fU F 244 0 1) ∨ ((0 ≤ i ∧ i < F 244 20) ∧ ¬ (0 ≤ f ∧ f ≤ 2) ∧ F' = fU F 244 0 2) ∨ ((0 ≤ i ∧ i < F 244 20) ∧ (0 ≤ f ∧ f ≤ 2) ∧ F' = fU F 244 0 0 ∧ z = (if f = 0 then G 258 i else if f = 1 then G 259 i else G 260 i)))) := by
  intro s0 a0 D t ad
  refine g_startI (by decide +kernel) (Nat.le_of_ble_eq_true rfl) (fun p l e R s m args below meth c A ok => ?_)
  show gW p l e R s m args below meth c _ D A 3 (gZ0 s) 0 0 ad 265 (mem ad t F G) 0 [(0, .ref (ad 244)), (1, .int (iI i)), (2, .int (iI f))] []
  refine g_aload_n ok d_Mo_record_0 rfl 0 rfl ?_
  refine g_iload_n ok d_Mo_record_1 rfl 1 rfl ?_
  refine g_if_lt ok 13 d_Mo_record_2 (by decide) (by omega) (fun h1 => ?_) (fun h1 => ?_)
  · refine g_iconst ok d_Mo_record_13 ?_
    refine g_goto ok 31 d_Mo_record_14 (by decide) ?_
    refine pI_Mo_thrownCode ok _ rfl k_989 d_Mo_record_31 ?_
    refine g_aload_n ok d_Mo_record_34 rfl 0 rfl ?_
    refine gI_Mo_thrownCode ok _ rfl k_989 d_Mo_record_35 ?_
    refine g_top (y := 1) (by simp [fU]) ?_
    refine g_if_eq ok 43 d_Mo_record_38 (by decide) (by omega) (fun h2 => ?_) (fun h2 => ?_)
    · exact absurd h2 (by decide)
    · refine g_iconst ok d_Mo_record_41 ?_
      exact g_iret ok d_Mo_record_42 ⟨_, _, rfl, rfl, by first | exact Or.inl ⟨by omega, rfl⟩ | exact Or.inr (Or.inl ⟨by omega, by omega, rfl⟩) | exact Or.inr (Or.inr ⟨by omega, by omega, rfl, by split <;> (try split) <;> first | rfl | omega⟩)⟩
  · refine g_iload_n ok d_Mo_record_5 rfl 1 rfl ?_
    refine g_aload_n ok d_Mo_record_6 rfl 0 rfl ?_
    refine gI_Mo_records ok _ rfl k_1009 d_Mo_record_7 ?_
    refine g_icmp_lt ok 17 d_Mo_record_10 (by decide) (by omega) (by omega) (fun h3 => ?_) (fun h3 => ?_)
    · refine g_iload_n ok d_Mo_record_17 rfl 2 rfl ?_
      refine g_if_lt ok 26 d_Mo_record_18 (by decide) (by omega) (fun h4 => ?_) (fun h4 => ?_)
      · refine g_iconst ok d_Mo_record_26 ?_
        refine g_goto ok 31 d_Mo_record_27 (by decide) ?_
        refine pI_Mo_thrownCode ok _ rfl k_989 d_Mo_record_31 ?_
        refine g_aload_n ok d_Mo_record_34 rfl 0 rfl ?_
        refine gI_Mo_thrownCode ok _ rfl k_989 d_Mo_record_35 ?_
        refine g_top (y := 2) (by simp [fU]) ?_
        refine g_if_eq ok 43 d_Mo_record_38 (by decide) (by omega) (fun h5 => ?_) (fun h5 => ?_)
        · exact absurd h5 (by decide)
        · refine g_iconst ok d_Mo_record_41 ?_
          exact g_iret ok d_Mo_record_42 ⟨_, _, rfl, rfl, by first | exact Or.inl ⟨by omega, rfl⟩ | exact Or.inr (Or.inl ⟨by omega, by omega, rfl⟩) | exact Or.inr (Or.inr ⟨by omega, by omega, rfl, by split <;> (try split) <;> first | rfl | omega⟩)⟩
      · refine g_iload_n ok d_Mo_record_21 rfl 2 rfl ?_
        refine g_iconst ok d_Mo_record_22 ?_
        refine g_icmp_le ok 30 d_Mo_record_23 (by decide) (by omega) (by omega) (fun h6 => ?_) (fun h6 => ?_)
        · refine g_iconst ok d_Mo_record_30 ?_
          refine pI_Mo_thrownCode ok _ rfl k_989 d_Mo_record_31 ?_
          refine g_aload_n ok d_Mo_record_34 rfl 0 rfl ?_
          refine gI_Mo_thrownCode ok _ rfl k_989 d_Mo_record_35 ?_
          refine g_top (y := 0) (by simp [fU]) ?_
          refine g_if_eq ok 43 d_Mo_record_38 (by decide) (by omega) (fun h7 => ?_) (fun h7 => ?_)
          · refine g_iload_n ok d_Mo_record_43 rfl 2 rfl ?_
            refine g_if_ne ok 56 d_Mo_record_44 (by decide) (by omega) (fun h8 => ?_) (fun h8 => ?_)
            · refine g_iload_n ok d_Mo_record_56 rfl 2 rfl ?_
              refine g_iconst ok d_Mo_record_57 ?_
              refine g_icmp_ne ok 70 d_Mo_record_58 (by decide) (by omega) (by omega) (fun h9 => ?_) (fun h9 => ?_)
              · refine g_aload_n ok d_Mo_record_70 rfl 0 rfl ?_
                refine gI_Mo_kind ok _ rfl k_1012 d_Mo_record_71 ?_
                refine g_iload_n ok d_Mo_record_74 rfl 1 rfl ?_
                refine h_iald ok _ a_260 (by omega) d_Mo_record_75 ?_
                exact g_iret ok d_Mo_record_76 ⟨_, _, rfl, rfl, by first | exact Or.inl ⟨by omega, rfl⟩ | exact Or.inr (Or.inl ⟨by omega, by omega, rfl⟩) | exact Or.inr (Or.inr ⟨by omega, by omega, rfl, by split <;> (try split) <;> first | rfl | omega⟩)⟩
              · refine g_aload_n ok d_Mo_record_61 rfl 0 rfl ?_
                refine gI_Mo_dy ok _ rfl k_1011 d_Mo_record_62 ?_
                refine g_iload_n ok d_Mo_record_65 rfl 1 rfl ?_
                refine h_iald ok _ a_259 (by omega) d_Mo_record_66 ?_
                refine g_goto ok 76 d_Mo_record_67 (by decide) ?_
                exact g_iret ok d_Mo_record_76 ⟨_, _, rfl, rfl, by first | exact Or.inl ⟨by omega, rfl⟩ | exact Or.inr (Or.inl ⟨by omega, by omega, rfl⟩) | exact Or.inr (Or.inr ⟨by omega, by omega, rfl, by split <;> (try split) <;> first | rfl | omega⟩)⟩
            · refine g_aload_n ok d_Mo_record_47 rfl 0 rfl ?_
              refine gI_Mo_dx ok _ rfl k_1010 d_Mo_record_48 ?_
              refine g_iload_n ok d_Mo_record_51 rfl 1 rfl ?_
              refine h_iald ok _ a_258 (by omega) d_Mo_record_52 ?_
              refine g_goto ok 76 d_Mo_record_53 (by decide) ?_
              exact g_iret ok d_Mo_record_76 ⟨_, _, rfl, rfl, by first | exact Or.inl ⟨by omega, rfl⟩ | exact Or.inr (Or.inl ⟨by omega, by omega, rfl⟩) | exact Or.inr (Or.inr ⟨by omega, by omega, rfl, by split <;> (try split) <;> first | rfl | omega⟩)⟩
          · exact absurd h7 (by decide)
        · refine g_iconst ok d_Mo_record_26 ?_
          refine g_goto ok 31 d_Mo_record_27 (by decide) ?_
          refine pI_Mo_thrownCode ok _ rfl k_989 d_Mo_record_31 ?_
          refine g_aload_n ok d_Mo_record_34 rfl 0 rfl ?_
          refine gI_Mo_thrownCode ok _ rfl k_989 d_Mo_record_35 ?_
          refine g_top (y := 2) (by simp [fU]) ?_
          refine g_if_eq ok 43 d_Mo_record_38 (by decide) (by omega) (fun h10 => ?_) (fun h10 => ?_)
          · exact absurd h10 (by decide)
          · refine g_iconst ok d_Mo_record_41 ?_
            exact g_iret ok d_Mo_record_42 ⟨_, _, rfl, rfl, by first | exact Or.inl ⟨by omega, rfl⟩ | exact Or.inr (Or.inl ⟨by omega, by omega, rfl⟩) | exact Or.inr (Or.inr ⟨by omega, by omega, rfl, by split <;> (try split) <;> first | rfl | omega⟩)⟩
    · refine g_iconst ok d_Mo_record_13 ?_
      refine g_goto ok 31 d_Mo_record_14 (by decide) ?_
      refine pI_Mo_thrownCode ok _ rfl k_989 d_Mo_record_31 ?_
      refine g_aload_n ok d_Mo_record_34 rfl 0 rfl ?_
      refine gI_Mo_thrownCode ok _ rfl k_989 d_Mo_record_35 ?_
      refine g_top (y := 1) (by simp [fU]) ?_
      refine g_if_eq ok 43 d_Mo_record_38 (by decide) (by omega) (fun h11 => ?_) (fun h11 => ?_)
      · exact absurd h11 (by decide)
      · refine g_iconst ok d_Mo_record_41 ?_
        exact g_iret ok d_Mo_record_42 ⟨_, _, rfl, rfl, by first | exact Or.inl ⟨by omega, rfl⟩ | exact Or.inr (Or.inl ⟨by omega, by omega, rfl⟩) | exact Or.inr (Or.inr ⟨by omega, by omega, rfl, by split <;> (try split) <;> first | rfl | omega⟩)⟩
theorem d_Mo_load_0 : decode b_Mo_load 0 = .ok (.aload_n 0, 1) := by decide +kernel
theorem d_Mo_load_1 : decode b_Mo_load 1 = .ok (.iload_n 1, 1) := by decide +kernel
theorem d_Mo_load_2 : decode b_Mo_load 2 = .ok (.ifCond .lt 18, 3) := by decide +kernel
theorem d_Mo_load_5 : decode b_Mo_load 5 = .ok (.iload_n 1, 1) := by decide +kernel
theorem d_Mo_load_6 : decode b_Mo_load 6 = .ok (.aload_n 0, 1) := by decide +kernel
theorem d_Mo_load_7 : decode b_Mo_load 7 = .ok (.getfield 103, 3) := by decide +kernel
theorem d_Mo_load_10 : decode b_Mo_load 10 = .ok (.if_icmp .gt 10, 3) := by decide +kernel
theorem d_Mo_load_13 : decode b_Mo_load 13 = .ok (.iload_n 1, 1) := by decide +kernel
theorem d_Mo_load_14 : decode b_Mo_load 14 = .ok (.sipush 1500, 3) := by decide +kernel
theorem d_Mo_load_17 : decode b_Mo_load 17 = .ok (.if_icmp .ne 7, 3) := by decide +kernel
theorem d_Mo_load_20 : decode b_Mo_load 20 = .ok (.iconst 1, 1) := by decide +kernel
theorem d_Mo_load_21 : decode b_Mo_load 21 = .ok (.goto 19, 3) := by decide +kernel
theorem d_Mo_load_24 : decode b_Mo_load 24 = .ok (.iload_n 2, 1) := by decide +kernel
theorem d_Mo_load_25 : decode b_Mo_load 25 = .ok (.ifCond .lt 10, 3) := by decide +kernel
theorem d_Mo_load_28 : decode b_Mo_load 28 = .ok (.iload_n 2, 1) := by decide +kernel
theorem d_Mo_load_29 : decode b_Mo_load 29 = .ok (.sipush 255, 3) := by decide +kernel
theorem d_Mo_load_32 : decode b_Mo_load 32 = .ok (.if_icmp .le 7, 3) := by decide +kernel
theorem d_Mo_load_35 : decode b_Mo_load 35 = .ok (.iconst 2, 1) := by decide +kernel
theorem d_Mo_load_36 : decode b_Mo_load 36 = .ok (.goto 4, 3) := by decide +kernel
theorem d_Mo_load_39 : decode b_Mo_load 39 = .ok (.iconst 0, 1) := by decide +kernel
theorem d_Mo_load_40 : decode b_Mo_load 40 = .ok (.putfield 7, 3) := by decide +kernel
theorem d_Mo_load_43 : decode b_Mo_load 43 = .ok (.aload_n 0, 1) := by decide +kernel
theorem d_Mo_load_44 : decode b_Mo_load 44 = .ok (.getfield 7, 3) := by decide +kernel
theorem d_Mo_load_47 : decode b_Mo_load 47 = .ok (.ifCond .eq 5, 3) := by decide +kernel
theorem d_Mo_load_50 : decode b_Mo_load 50 = .ok (.iconst 0, 1) := by decide +kernel
theorem d_Mo_load_51 : decode b_Mo_load 51 = .ok (.ireturn, 1) := by decide +kernel
theorem d_Mo_load_52 : decode b_Mo_load 52 = .ok (.aload_n 0, 1) := by decide +kernel
theorem d_Mo_load_53 : decode b_Mo_load 53 = .ok (.getfield 106, 3) := by decide +kernel
theorem d_Mo_load_56 : decode b_Mo_load 56 = .ok (.iload_n 1, 1) := by decide +kernel
theorem d_Mo_load_57 : decode b_Mo_load 57 = .ok (.iload_n 2, 1) := by decide +kernel
theorem d_Mo_load_58 : decode b_Mo_load 58 = .ok (.iastore, 1) := by decide +kernel
theorem d_Mo_load_59 : decode b_Mo_load 59 = .ok (.iload_n 1, 1) := by decide +kernel
theorem d_Mo_load_60 : decode b_Mo_load 60 = .ok (.aload_n 0, 1) := by decide +kernel
theorem d_Mo_load_61 : decode b_Mo_load 61 = .ok (.getfield 103, 3) := by decide +kernel
theorem d_Mo_load_64 : decode b_Mo_load 64 = .ok (.if_icmp .ne 13, 3) := by decide +kernel
theorem d_Mo_load_67 : decode b_Mo_load 67 = .ok (.aload_n 0, 1) := by decide +kernel
theorem d_Mo_load_68 : decode b_Mo_load 68 = .ok (.dup, 1) := by decide +kernel
theorem d_Mo_load_69 : decode b_Mo_load 69 = .ok (.getfield 103, 3) := by decide +kernel
theorem d_Mo_load_72 : decode b_Mo_load 72 = .ok (.iconst 1, 1) := by decide +kernel
theorem d_Mo_load_73 : decode b_Mo_load 73 = .ok (.iadd, 1) := by decide +kernel
theorem d_Mo_load_74 : decode b_Mo_load 74 = .ok (.putfield 103, 3) := by decide +kernel
theorem d_Mo_load_77 : decode b_Mo_load 77 = .ok (.aload_n 0, 1) := by decide +kernel
theorem d_Mo_load_78 : decode b_Mo_load 78 = .ok (.getfield 103, 3) := by decide +kernel
theorem d_Mo_load_81 : decode b_Mo_load 81 = .ok (.ireturn, 1) := by decide +kernel
set_option maxHeartbeats 4000000 in
set_option maxRecDepth 100000 in
theorem c_Mo_load (F : Nat → Nat → Int) (G : Nat → Int → Int) (i b : Int) (hi : -2147483648 ≤ i ∧ i < 2147483648) (hb : -2147483648 ≤ b ∧ b < 2147483648) (hs : 0 ≤ F 244 30 ∧ F 244 30 ≤ 1500) : cI y_Mo_load b_Mo_load 3 (some .int) 0 0 F G (fun ad => [.ref (ad 244), .int (iI i), .int (iI b)]) (fun z F' G' => (¬ (0 ≤ i ∧ i ≤ F 244 30 ∧ i < 1500) ∧ F' = fU F 244 0 1 ∧ G' = G) ∨ ((0 ≤ i ∧ i ≤ F 244 30 ∧ i < 1500) ∧ ¬ (0 ≤ b ∧ b ≤ 255) ∧ F' = fU F 244 0 2 ∧ G' = G) ∨ ((0 ≤ i ∧ i ≤ F 244 30 ∧ i < 1500) ∧ (0 ≤ b ∧ b ≤ 255) ∧ G' = gU G 261 i b ∧ ((i = F 244 30 ∧ F' = fU (fU F 244 0 0) 244 30 (F 244 30 + 1) ∧ z = F 244 30 + 1) ∨ (¬ i = F 244 30 ∧ F' = fU F 244 0 0 ∧ z = F 244 30)))) := by
  intro s0 a0 D t ad
  refine g_startI (by decide +kernel) (Nat.le_of_ble_eq_true rfl) (fun p l e R s m args below meth c A ok => ?_)
  show gW p l e R s m args below meth c _ D A 3 (gZ0 s) 0 0 ad 265 (mem ad t F G) 0 [(0, .ref (ad 244)), (1, .int (iI i)), (2, .int (iI b))] []
  refine g_aload_n ok d_Mo_load_0 rfl 0 rfl ?_
  refine g_iload_n ok d_Mo_load_1 rfl 1 rfl ?_
  refine g_if_lt ok 20 d_Mo_load_2 (by decide) (by omega) (fun h1 => ?_) (fun h1 => ?_)
  · refine g_iconst ok d_Mo_load_20 ?_
    refine g_goto ok 40 d_Mo_load_21 (by decide) ?_
    refine pI_Mo_thrownCode ok _ rfl k_989 d_Mo_load_40 ?_
    refine g_aload_n ok d_Mo_load_43 rfl 0 rfl ?_
    refine gI_Mo_thrownCode ok _ rfl k_989 d_Mo_load_44 ?_
    refine g_top (y := 1) (by simp [fU]) ?_
    refine g_if_eq ok 52 d_Mo_load_47 (by decide) (by omega) (fun h2 => ?_) (fun h2 => ?_)
    · exact absurd h2 (by decide)
    · refine g_iconst ok d_Mo_load_50 ?_
      exact g_iret ok d_Mo_load_51 ⟨_, _, rfl, by first | exact Or.inl ⟨by omega, rfl, rfl⟩ | exact Or.inr (Or.inl ⟨by omega, by omega, rfl, rfl⟩) | exact Or.inr (Or.inr ⟨by omega, by omega, rfl, Or.inl ⟨by omega, rfl, rfl⟩⟩) | exact Or.inr (Or.inr ⟨by omega, by omega, rfl, Or.inr ⟨by omega, rfl, rfl⟩⟩)⟩
  · refine g_iload_n ok d_Mo_load_5 rfl 1 rfl ?_
    refine g_aload_n ok d_Mo_load_6 rfl 0 rfl ?_
    refine gI_Mo_loaded ok _ rfl k_1019 d_Mo_load_7 ?_
    refine g_icmp_gt ok 20 d_Mo_load_10 (by decide) (by omega) (by omega) (fun h3 => ?_) (fun h3 => ?_)
    · refine g_iconst ok d_Mo_load_20 ?_
      refine g_goto ok 40 d_Mo_load_21 (by decide) ?_
      refine pI_Mo_thrownCode ok _ rfl k_989 d_Mo_load_40 ?_
      refine g_aload_n ok d_Mo_load_43 rfl 0 rfl ?_
      refine gI_Mo_thrownCode ok _ rfl k_989 d_Mo_load_44 ?_
      refine g_top (y := 1) (by simp [fU]) ?_
      refine g_if_eq ok 52 d_Mo_load_47 (by decide) (by omega) (fun h4 => ?_) (fun h4 => ?_)
      · exact absurd h4 (by decide)
      · refine g_iconst ok d_Mo_load_50 ?_
        exact g_iret ok d_Mo_load_51 ⟨_, _, rfl, by first | exact Or.inl ⟨by omega, rfl, rfl⟩ | exact Or.inr (Or.inl ⟨by omega, by omega, rfl, rfl⟩) | exact Or.inr (Or.inr ⟨by omega, by omega, rfl, Or.inl ⟨by omega, rfl, rfl⟩⟩) | exact Or.inr (Or.inr ⟨by omega, by omega, rfl, Or.inr ⟨by omega, rfl, rfl⟩⟩)⟩
    · refine g_iload_n ok d_Mo_load_13 rfl 1 rfl ?_
      refine g_sipush ok (by decide) d_Mo_load_14 ?_
      refine g_icmp_ne ok 24 d_Mo_load_17 (by decide) (by omega) (by omega) (fun h5 => ?_) (fun h5 => ?_)
      · refine g_iload_n ok d_Mo_load_24 rfl 2 rfl ?_
        refine g_if_lt ok 35 d_Mo_load_25 (by decide) (by omega) (fun h6 => ?_) (fun h6 => ?_)
        · refine g_iconst ok d_Mo_load_35 ?_
          refine g_goto ok 40 d_Mo_load_36 (by decide) ?_
          refine pI_Mo_thrownCode ok _ rfl k_989 d_Mo_load_40 ?_
          refine g_aload_n ok d_Mo_load_43 rfl 0 rfl ?_
          refine gI_Mo_thrownCode ok _ rfl k_989 d_Mo_load_44 ?_
          refine g_top (y := 2) (by simp [fU]) ?_
          refine g_if_eq ok 52 d_Mo_load_47 (by decide) (by omega) (fun h7 => ?_) (fun h7 => ?_)
          · exact absurd h7 (by decide)
          · refine g_iconst ok d_Mo_load_50 ?_
            exact g_iret ok d_Mo_load_51 ⟨_, _, rfl, by first | exact Or.inl ⟨by omega, rfl, rfl⟩ | exact Or.inr (Or.inl ⟨by omega, by omega, rfl, rfl⟩) | exact Or.inr (Or.inr ⟨by omega, by omega, rfl, Or.inl ⟨by omega, rfl, rfl⟩⟩) | exact Or.inr (Or.inr ⟨by omega, by omega, rfl, Or.inr ⟨by omega, rfl, rfl⟩⟩)⟩
        · refine g_iload_n ok d_Mo_load_28 rfl 2 rfl ?_
          refine g_sipush ok (by decide) d_Mo_load_29 ?_
          refine g_icmp_le ok 39 d_Mo_load_32 (by decide) (by omega) (by omega) (fun h8 => ?_) (fun h8 => ?_)
          · refine g_iconst ok d_Mo_load_39 ?_
            refine pI_Mo_thrownCode ok _ rfl k_989 d_Mo_load_40 ?_
            refine g_aload_n ok d_Mo_load_43 rfl 0 rfl ?_
            refine gI_Mo_thrownCode ok _ rfl k_989 d_Mo_load_44 ?_
            refine g_top (y := 0) (by simp [fU]) ?_
            refine g_if_eq ok 52 d_Mo_load_47 (by decide) (by omega) (fun h9 => ?_) (fun h9 => ?_)
            · refine g_aload_n ok d_Mo_load_52 rfl 0 rfl ?_
              refine gI_Mo_bytes ok _ rfl k_1020 d_Mo_load_53 ?_
              refine g_iload_n ok d_Mo_load_56 rfl 1 rfl ?_
              refine g_iload_n ok d_Mo_load_57 rfl 2 rfl ?_
              refine h_iast ok _ a_261 (by omega) d_Mo_load_58 ?_
              refine g_iload_n ok d_Mo_load_59 rfl 1 rfl ?_
              refine g_aload_n ok d_Mo_load_60 rfl 0 rfl ?_
              refine gI_Mo_loaded ok _ rfl k_1019 d_Mo_load_61 ?_
              refine g_top (y := F 244 30) (by simp [fU]) ?_
              refine g_icmp_ne ok 77 d_Mo_load_64 (by decide) (by omega) (by omega) (fun h10 => ?_) (fun h10 => ?_)
              · refine g_aload_n ok d_Mo_load_77 rfl 0 rfl ?_
                refine gI_Mo_loaded ok _ rfl k_1019 d_Mo_load_78 ?_
                refine g_top (y := F 244 30) (by simp [fU]) ?_
                exact g_iret ok d_Mo_load_81 ⟨_, _, rfl, by first | exact Or.inl ⟨by omega, rfl, rfl⟩ | exact Or.inr (Or.inl ⟨by omega, by omega, rfl, rfl⟩) | exact Or.inr (Or.inr ⟨by omega, by omega, rfl, Or.inl ⟨by omega, rfl, rfl⟩⟩) | exact Or.inr (Or.inr ⟨by omega, by omega, rfl, Or.inr ⟨by omega, rfl, rfl⟩⟩)⟩
              · refine g_aload_n ok d_Mo_load_67 rfl 0 rfl ?_
                refine g_dup ok d_Mo_load_68 rfl ?_
                refine gI_Mo_loaded ok _ rfl k_1019 d_Mo_load_69 ?_
                refine g_top (y := F 244 30) (by simp [fU]) ?_
                refine g_iconst ok d_Mo_load_72 ?_
                refine g_iadd ok d_Mo_load_73 ?_
                refine pI_Mo_loaded ok _ rfl k_1019 d_Mo_load_74 ?_
                refine g_aload_n ok d_Mo_load_77 rfl 0 rfl ?_
                refine gI_Mo_loaded ok _ rfl k_1019 d_Mo_load_78 ?_
                refine g_top (y := (F 244 30) + 1) (by simp [fU]) ?_
                exact g_iret ok d_Mo_load_81 ⟨_, _, rfl, by first | exact Or.inl ⟨by omega, rfl, rfl⟩ | exact Or.inr (Or.inl ⟨by omega, by omega, rfl, rfl⟩) | exact Or.inr (Or.inr ⟨by omega, by omega, rfl, Or.inl ⟨by omega, rfl, rfl⟩⟩) | exact Or.inr (Or.inr ⟨by omega, by omega, rfl, Or.inr ⟨by omega, rfl, rfl⟩⟩)⟩
            · exact absurd h9 (by decide)
          · refine g_iconst ok d_Mo_load_35 ?_
            refine g_goto ok 40 d_Mo_load_36 (by decide) ?_
            refine pI_Mo_thrownCode ok _ rfl k_989 d_Mo_load_40 ?_
            refine g_aload_n ok d_Mo_load_43 rfl 0 rfl ?_
            refine gI_Mo_thrownCode ok _ rfl k_989 d_Mo_load_44 ?_
            refine g_top (y := 2) (by simp [fU]) ?_
            refine g_if_eq ok 52 d_Mo_load_47 (by decide) (by omega) (fun h11 => ?_) (fun h11 => ?_)
            · exact absurd h11 (by decide)
            · refine g_iconst ok d_Mo_load_50 ?_
              exact g_iret ok d_Mo_load_51 ⟨_, _, rfl, by first | exact Or.inl ⟨by omega, rfl, rfl⟩ | exact Or.inr (Or.inl ⟨by omega, by omega, rfl, rfl⟩) | exact Or.inr (Or.inr ⟨by omega, by omega, rfl, Or.inl ⟨by omega, rfl, rfl⟩⟩) | exact Or.inr (Or.inr ⟨by omega, by omega, rfl, Or.inr ⟨by omega, rfl, rfl⟩⟩)⟩
      · refine g_iconst ok d_Mo_load_20 ?_
        refine g_goto ok 40 d_Mo_load_21 (by decide) ?_
        refine pI_Mo_thrownCode ok _ rfl k_989 d_Mo_load_40 ?_
        refine g_aload_n ok d_Mo_load_43 rfl 0 rfl ?_
        refine gI_Mo_thrownCode ok _ rfl k_989 d_Mo_load_44 ?_
        refine g_top (y := 1) (by simp [fU]) ?_
        refine g_if_eq ok 52 d_Mo_load_47 (by decide) (by omega) (fun h12 => ?_) (fun h12 => ?_)
        · exact absurd h12 (by decide)
        · refine g_iconst ok d_Mo_load_50 ?_
          exact g_iret ok d_Mo_load_51 ⟨_, _, rfl, by first | exact Or.inl ⟨by omega, rfl, rfl⟩ | exact Or.inr (Or.inl ⟨by omega, by omega, rfl, rfl⟩) | exact Or.inr (Or.inr ⟨by omega, by omega, rfl, Or.inl ⟨by omega, rfl, rfl⟩⟩) | exact Or.inr (Or.inr ⟨by omega, by omega, rfl, Or.inr ⟨by omega, rfl, rfl⟩⟩)⟩
theorem d_Mo_stop_0 : decode b_Mo_stop 0 = .ok (.aload_n 0, 1) := by decide +kernel
theorem d_Mo_stop_1 : decode b_Mo_stop 1 = .ok (.iconst 0, 1) := by decide +kernel
theorem d_Mo_stop_2 : decode b_Mo_stop 2 = .ok (.putfield 7, 3) := by decide +kernel
theorem d_Mo_stop_5 : decode b_Mo_stop 5 = .ok (.iload_n 1, 1) := by decide +kernel
theorem d_Mo_stop_6 : decode b_Mo_stop 6 = .ok (.ifCond .ge 5, 3) := by decide +kernel
theorem d_Mo_stop_9 : decode b_Mo_stop 9 = .ok (.iconst (-1), 1) := by decide +kernel
theorem d_Mo_stop_10 : decode b_Mo_stop 10 = .ok (.ireturn, 1) := by decide +kernel
theorem d_Mo_stop_11 : decode b_Mo_stop 11 = .ok (.iload_n 1, 1) := by decide +kernel
theorem d_Mo_stop_12 : decode b_Mo_stop 12 = .ok (.istore_n 2, 1) := by decide +kernel
theorem d_Mo_stop_13 : decode b_Mo_stop 13 = .ok (.iload_n 2, 1) := by decide +kernel
theorem d_Mo_stop_14 : decode b_Mo_stop 14 = .ok (.aload_n 0, 1) := by decide +kernel
theorem d_Mo_stop_15 : decode b_Mo_stop 15 = .ok (.getfield 73, 3) := by decide +kernel
theorem d_Mo_stop_18 : decode b_Mo_stop 18 = .ok (.if_icmp .ge 21, 3) := by decide +kernel
theorem d_Mo_stop_21 : decode b_Mo_stop 21 = .ok (.aload_n 0, 1) := by decide +kernel
theorem d_Mo_stop_22 : decode b_Mo_stop 22 = .ok (.getfield 82, 3) := by decide +kernel
theorem d_Mo_stop_25 : decode b_Mo_stop 25 = .ok (.iload_n 2, 1) := by decide +kernel
theorem d_Mo_stop_26 : decode b_Mo_stop 26 = .ok (.iaload, 1) := by decide +kernel
theorem d_Mo_stop_27 : decode b_Mo_stop 27 = .ok (.iconst 3, 1) := by decide +kernel
theorem d_Mo_stop_28 : decode b_Mo_stop 28 = .ok (.if_icmp .ne 5, 3) := by decide +kernel
theorem d_Mo_stop_31 : decode b_Mo_stop 31 = .ok (.iload_n 2, 1) := by decide +kernel
theorem d_Mo_stop_32 : decode b_Mo_stop 32 = .ok (.ireturn, 1) := by decide +kernel
theorem d_Mo_stop_33 : decode b_Mo_stop 33 = .ok (.iinc 2 1, 3) := by decide +kernel
theorem d_Mo_stop_36 : decode b_Mo_stop 36 = .ok (.goto (-23), 3) := by decide +kernel
theorem d_Mo_stop_39 : decode b_Mo_stop 39 = .ok (.iconst (-1), 1) := by decide +kernel
theorem d_Mo_stop_40 : decode b_Mo_stop 40 = .ok (.ireturn, 1) := by decide +kernel
set_option maxHeartbeats 4000000 in
set_option maxRecDepth 100000 in
theorem c_Mo_stop (F : Nat → Nat → Int) (G : Nat → Int → Int) (i : Int) (hi : -2147483648 ≤ i ∧ i < 2147483648) (hs : 0 ≤ F 244 20 ∧ F 244 20 ≤ 4000) (hk : ∀ a : Int, 0 ≤ a → a < F 244 20 → 0 ≤ G 260 a ∧ G 260 a < 4) : cI y_Mo_stop b_Mo_stop 3 (some .int) 0 0 F G (fun ad => [.ref (ad 244), .int (iI i)]) (fun z F' G' => F' = fU F 244 0 0 ∧ G' = G ∧ ((z = -1 ∧ (i < 0 ∨ ∀ a : Int, i ≤ a → a < F 244 20 → ¬ G 260 a = 3)) ∨ ((0 ≤ i ∧ i ≤ z ∧ z < F 244 20) ∧ G 260 z = 3 ∧ ∀ a : Int, i ≤ a → a < z → ¬ G 260 a = 3))) := by
  intro s0 a0 D t ad
  refine g_startI (by decide +kernel) (Nat.le_of_ble_eq_true rfl) (fun p l e R s m args below meth c A ok => ?_)
  show gW p l e R s m args below meth c _ D A 3 (gZ0 s) 0 0 ad 265 (mem ad t F G) 0 [(0, .ref (ad 244)), (1, .int (iI i))] []
  refine g_aload_n ok d_Mo_stop_0 rfl 0 rfl ?_
  refine g_iconst ok d_Mo_stop_1 ?_
  refine pI_Mo_thrownCode ok _ rfl k_989 d_Mo_stop_2 ?_
  refine g_iload_n ok d_Mo_stop_5 rfl 1 rfl ?_
  refine g_if_ge ok 11 d_Mo_stop_6 (by decide) (by omega) (fun h1 => ?_) (fun h1 => ?_)
  · refine g_iload_n ok d_Mo_stop_11 rfl 1 rfl ?_
    refine g_istore_n (lv' := [(2, .int (iI i)), (0, .ref (ad 244)), (1, .int (iI i))]) ok d_Mo_stop_12 rfl (by decide) rfl ?_
    have L_j : ∀ (n_j : Nat) (j : Int), (0 ≤ i ∧ i ≤ j ∧ (j ≤ F 244 20 ∨ j = i)) → (∀ a : Int, i ≤ a → a < j → ¬ G 260 a = 3) → (F 244 20 + 1 - j + i) < (n_j : Int) → gW p l e R s m args below meth c (MQ below (gQi D A ad 265 (fun z ce' => ∃ F' G', ce' = mem ad t F' G' ∧ (fun z F' G' => F' = fU F 244 0 0 ∧ G' = G ∧ ((z = -1 ∧ (i < 0 ∨ ∀ a : Int, i ≤ a → a < F 244 20 → ¬ G 260 a = 3)) ∨ ((0 ≤ i ∧ i ≤ z ∧ z < F 244 20) ∧ G 260 z = 3 ∧ ∀ a : Int, i ≤ a → a < z → ¬ G 260 a = 3))) z F' G')) args s 0 0 A) D A 3 (gZ) 0 0 ad 265 (mem ad t (fU F 244 0 0) G) 13 [(0, .ref (ad 244)), (1, .int (iI i)), (2, .int (iI j))] [] := by
      intro n_j
      induction n_j with
      | zero =>
        intro j hj ho hm_j
        exact absurd hm_j (by omega)
      | succ n_j ih_j =>
        intro j hj ho hm_j
        refine g_iload_n ok d_Mo_stop_13 rfl 2 rfl ?_
        refine g_aload_n ok d_Mo_stop_14 rfl 0 rfl ?_
        refine gI_Mo_records ok _ rfl k_1009 d_Mo_stop_15 ?_
        refine g_top (y := F 244 20) (by simp [fU]) ?_
        refine g_icmp_ge ok 39 d_Mo_stop_18 (by decide) (by omega) (by omega) (fun h2 => ?_) (fun h2 => ?_)
        · refine g_iconst ok d_Mo_stop_39 ?_
          exact g_iret ok d_Mo_stop_40 ⟨_, _, rfl, rfl, rfl, Or.inl ⟨rfl, Or.inr (fun a q1 q2 => ho a q1 (by omega))⟩⟩
        · have hkj := hk j (by omega) (by omega)
          refine g_aload_n ok d_Mo_stop_21 rfl 0 rfl ?_
          refine gI_Mo_kind ok _ rfl k_1012 d_Mo_stop_22 ?_
          refine g_iload_n ok d_Mo_stop_25 rfl 2 rfl ?_
          refine h_iald ok _ a_260 (by omega) d_Mo_stop_26 ?_
          refine g_iconst ok d_Mo_stop_27 ?_
          refine g_icmp_ne ok 33 d_Mo_stop_28 (by decide) (by omega) (by omega) (fun h3 => ?_) (fun h3 => ?_)
          · refine g_iinc (lv' := [(2, .int (iI (j + 1))), (0, .ref (ad 244)), (1, .int (iI i))]) ok d_Mo_stop_33 2 rfl (by decide) rfl ?_
            refine g_goto ok 13 d_Mo_stop_36 (by decide) ?_
            refine g_lv [1, 2, 0] rfl ?_
            exact ih_j (j + 1) (by omega) (fun a q1 q2 => (Int.lt_or_eq_of_le (show a ≤ j by omega)).elim (fun q => ho a q1 q) (fun q => by subst q; exact h3)) (by omega)
          · refine g_iload_n ok d_Mo_stop_31 rfl 2 rfl ?_
            exact g_iret ok d_Mo_stop_32 ⟨_, _, rfl, rfl, rfl, Or.inr ⟨by omega, by omega, ho⟩⟩
    refine g_z ?_
    refine g_lv [1, 2, 0] rfl ?_
    exact L_j ((F 244 20 + 1 - i + i : Int).toNat + 1) i (by omega) (fun a q1 q2 => by omega) (by omega)
  · refine g_iconst ok d_Mo_stop_9 ?_
    exact g_iret ok d_Mo_stop_10 ⟨_, _, rfl, rfl, rfl, Or.inl ⟨rfl, Or.inl (by omega)⟩⟩
theorem d_Mo_needle_0 : decode b_Mo_needle 0 = .ok (.aload_n 0, 1) := by decide +kernel
theorem d_Mo_needle_1 : decode b_Mo_needle 1 = .ok (.iload_n 1, 1) := by decide +kernel
theorem d_Mo_needle_2 : decode b_Mo_needle 2 = .ok (.ifCond .lt 11, 3) := by decide +kernel
theorem d_Mo_needle_5 : decode b_Mo_needle 5 = .ok (.iload_n 1, 1) := by decide +kernel
theorem d_Mo_needle_6 : decode b_Mo_needle 6 = .ok (.aload_n 0, 1) := by decide +kernel
theorem d_Mo_needle_7 : decode b_Mo_needle 7 = .ok (.getfield 73, 3) := by decide +kernel
theorem d_Mo_needle_10 : decode b_Mo_needle 10 = .ok (.if_icmp .le 7, 3) := by decide +kernel
theorem d_Mo_needle_13 : decode b_Mo_needle 13 = .ok (.iconst 1, 1) := by decide +kernel
theorem d_Mo_needle_14 : decode b_Mo_needle 14 = .ok (.goto 17, 3) := by decide +kernel
theorem d_Mo_needle_17 : decode b_Mo_needle 17 = .ok (.iload_n 2, 1) := by decide +kernel
theorem d_Mo_needle_18 : decode b_Mo_needle 18 = .ok (.ifCond .lt 8, 3) := by decide +kernel
theorem d_Mo_needle_21 : decode b_Mo_needle 21 = .ok (.iload_n 2, 1) := by decide +kernel
theorem d_Mo_needle_22 : decode b_Mo_needle 22 = .ok (.iconst 1, 1) := by decide +kernel
theorem d_Mo_needle_23 : decode b_Mo_needle 23 = .ok (.if_icmp .le 7, 3) := by decide +kernel
theorem d_Mo_needle_26 : decode b_Mo_needle 26 = .ok (.iconst 2, 1) := by decide +kernel
theorem d_Mo_needle_27 : decode b_Mo_needle 27 = .ok (.goto 4, 3) := by decide +kernel
theorem d_Mo_needle_30 : decode b_Mo_needle 30 = .ok (.iconst 0, 1) := by decide +kernel
theorem d_Mo_needle_31 : decode b_Mo_needle 31 = .ok (.putfield 7, 3) := by decide +kernel
theorem d_Mo_needle_34 : decode b_Mo_needle 34 = .ok (.aload_n 0, 1) := by decide +kernel
theorem d_Mo_needle_35 : decode b_Mo_needle 35 = .ok (.getfield 7, 3) := by decide +kernel
theorem d_Mo_needle_38 : decode b_Mo_needle 38 = .ok (.ifCond .eq 5, 3) := by decide +kernel
theorem d_Mo_needle_41 : decode b_Mo_needle 41 = .ok (.iconst 0, 1) := by decide +kernel
theorem d_Mo_needle_42 : decode b_Mo_needle 42 = .ok (.ireturn, 1) := by decide +kernel
theorem d_Mo_needle_43 : decode b_Mo_needle 43 = .ok (.iconst 0, 1) := by decide +kernel
theorem d_Mo_needle_44 : decode b_Mo_needle 44 = .ok (.istore_n 3, 1) := by decide +kernel
theorem d_Mo_needle_45 : decode b_Mo_needle 45 = .ok (.iconst 0, 1) := by decide +kernel
theorem d_Mo_needle_46 : decode b_Mo_needle 46 = .ok (.istore 4, 2) := by decide +kernel
theorem d_Mo_needle_48 : decode b_Mo_needle 48 = .ok (.iload 4, 2) := by decide +kernel
theorem d_Mo_needle_50 : decode b_Mo_needle 50 = .ok (.iload_n 1, 1) := by decide +kernel
theorem d_Mo_needle_51 : decode b_Mo_needle 51 = .ok (.if_icmp .ge 33, 3) := by decide +kernel
theorem d_Mo_needle_54 : decode b_Mo_needle 54 = .ok (.iload_n 3, 1) := by decide +kernel
theorem d_Mo_needle_55 : decode b_Mo_needle 55 = .ok (.iload_n 2, 1) := by decide +kernel
theorem d_Mo_needle_56 : decode b_Mo_needle 56 = .ok (.ifCond .ne 13, 3) := by decide +kernel
theorem d_Mo_needle_59 : decode b_Mo_needle 59 = .ok (.aload_n 0, 1) := by decide +kernel
theorem d_Mo_needle_60 : decode b_Mo_needle 60 = .ok (.getfield 76, 3) := by decide +kernel
theorem d_Mo_needle_63 : decode b_Mo_needle 63 = .ok (.iload 4, 2) := by decide +kernel
theorem d_Mo_needle_65 : decode b_Mo_needle 65 = .ok (.iaload, 1) := by decide +kernel
theorem d_Mo_needle_66 : decode b_Mo_needle 66 = .ok (.goto 10, 3) := by decide +kernel
theorem d_Mo_needle_69 : decode b_Mo_needle 69 = .ok (.aload_n 0, 1) := by decide +kernel
theorem d_Mo_needle_70 : decode b_Mo_needle 70 = .ok (.getfield 79, 3) := by decide +kernel
theorem d_Mo_needle_73 : decode b_Mo_needle 73 = .ok (.iload 4, 2) := by decide +kernel
theorem d_Mo_needle_75 : decode b_Mo_needle 75 = .ok (.iaload, 1) := by decide +kernel
theorem d_Mo_needle_76 : decode b_Mo_needle 76 = .ok (.iadd, 1) := by decide +kernel
theorem d_Mo_needle_77 : decode b_Mo_needle 77 = .ok (.istore_n 3, 1) := by decide +kernel
theorem d_Mo_needle_78 : decode b_Mo_needle 78 = .ok (.iinc 4 1, 3) := by decide +kernel
theorem d_Mo_needle_81 : decode b_Mo_needle 81 = .ok (.goto (-33), 3) := by decide +kernel
theorem d_Mo_needle_84 : decode b_Mo_needle 84 = .ok (.iload_n 3, 1) := by decide +kernel
theorem d_Mo_needle_85 : decode b_Mo_needle 85 = .ok (.ireturn, 1) := by decide +kernel
set_option maxHeartbeats 4000000 in
set_option maxRecDepth 100000 in
theorem c_Mo_needle (F : Nat → Nat → Int) (G : Nat → Int → Int) (i f : Int) (hi : -2147483648 ≤ i ∧ i < 2147483648) (hf : -2147483648 ≤ f ∧ f < 2147483648) (hs : 0 ≤ F 244 20 ∧ F 244 20 ≤ 4000) : cI y_Mo_needle b_Mo_needle 5 (some .int) 0 0 F G (fun ad => [.ref (ad 244), .int (iI i), .int (iI f)]) (fun z F' G' => G' = G ∧ ((¬ (0 ≤ i ∧ i ≤ F 244 20) ∧ F' = fU F 244 0 1) ∨ ((0 ≤ i ∧ i ≤ F 244 20) ∧ ¬ (0 ≤ f ∧ f ≤ 1) ∧ F' = fU F 244 0 2) ∨ ((0 ≤ i ∧ i ≤ F 244 20) ∧ (0 ≤ f ∧ f ≤ 1) ∧ F' = fU F 244 0 0 ∧ z = sumN (G (if f = 0 then 258 else 259)) i.toNat))) := by
  intro s0 a0 D t ad
  refine g_startI (by decide +kernel) (Nat.le_of_ble_eq_true rfl) (fun p l e R s m args below meth c A ok => ?_)
  show gW p l e R s m args below meth c _ D A 5 (gZ0 s) 0 0 ad 265 (mem ad t F G) 0 [(0, .ref (ad 244)), (1, .int (iI i)), (2, .int (iI f))] []
  refine g_aload_n ok d_Mo_needle_0 rfl 0 rfl ?_
  refine g_iload_n ok d_Mo_needle_1 rfl 1 rfl ?_
  refine g_if_lt ok 13 d_Mo_needle_2 (by decide) (by omega) (fun h1 => ?_) (fun h1 => ?_)
  · refine g_iconst ok d_Mo_needle_13 ?_
    refine g_goto ok 31 d_Mo_needle_14 (by decide) ?_
    refine pI_Mo_thrownCode ok _ rfl k_989 d_Mo_needle_31 ?_
    refine g_aload_n ok d_Mo_needle_34 rfl 0 rfl ?_
    refine gI_Mo_thrownCode ok _ rfl k_989 d_Mo_needle_35 ?_
    refine g_top (y := 1) (by simp [fU]) ?_
    refine g_if_eq ok 43 d_Mo_needle_38 (by decide) (by omega) (fun h2 => ?_) (fun h2 => ?_)
    · exact absurd h2 (by decide)
    · refine g_iconst ok d_Mo_needle_41 ?_
      exact g_iret ok d_Mo_needle_42 ⟨_, _, rfl, rfl, by first | exact Or.inl ⟨by omega, rfl⟩ | exact Or.inr (Or.inl ⟨by omega, by omega, rfl⟩) | exact Or.inr (Or.inr ⟨by omega, by omega, rfl, by rw [hv, show r.toNat = i.toNat by omega]⟩)⟩
  · refine g_iload_n ok d_Mo_needle_5 rfl 1 rfl ?_
    refine g_aload_n ok d_Mo_needle_6 rfl 0 rfl ?_
    refine gI_Mo_records ok _ rfl k_1009 d_Mo_needle_7 ?_
    refine g_icmp_le ok 17 d_Mo_needle_10 (by decide) (by omega) (by omega) (fun h3 => ?_) (fun h3 => ?_)
    · refine g_iload_n ok d_Mo_needle_17 rfl 2 rfl ?_
      refine g_if_lt ok 26 d_Mo_needle_18 (by decide) (by omega) (fun h4 => ?_) (fun h4 => ?_)
      · refine g_iconst ok d_Mo_needle_26 ?_
        refine g_goto ok 31 d_Mo_needle_27 (by decide) ?_
        refine pI_Mo_thrownCode ok _ rfl k_989 d_Mo_needle_31 ?_
        refine g_aload_n ok d_Mo_needle_34 rfl 0 rfl ?_
        refine gI_Mo_thrownCode ok _ rfl k_989 d_Mo_needle_35 ?_
        refine g_top (y := 2) (by simp [fU]) ?_
        refine g_if_eq ok 43 d_Mo_needle_38 (by decide) (by omega) (fun h5 => ?_) (fun h5 => ?_)
        · exact absurd h5 (by decide)
        · refine g_iconst ok d_Mo_needle_41 ?_
          exact g_iret ok d_Mo_needle_42 ⟨_, _, rfl, rfl, by first | exact Or.inl ⟨by omega, rfl⟩ | exact Or.inr (Or.inl ⟨by omega, by omega, rfl⟩) | exact Or.inr (Or.inr ⟨by omega, by omega, rfl, by rw [hv, show r.toNat = i.toNat by omega]⟩)⟩
      · refine g_iload_n ok d_Mo_needle_21 rfl 2 rfl ?_
        refine g_iconst ok d_Mo_needle_22 ?_
        refine g_icmp_le ok 30 d_Mo_needle_23 (by decide) (by omega) (by omega) (fun h6 => ?_) (fun h6 => ?_)
        · refine g_iconst ok d_Mo_needle_30 ?_
          refine pI_Mo_thrownCode ok _ rfl k_989 d_Mo_needle_31 ?_
          refine g_aload_n ok d_Mo_needle_34 rfl 0 rfl ?_
          refine gI_Mo_thrownCode ok _ rfl k_989 d_Mo_needle_35 ?_
          refine g_top (y := 0) (by simp [fU]) ?_
          refine g_if_eq ok 43 d_Mo_needle_38 (by decide) (by omega) (fun h7 => ?_) (fun h7 => ?_)
          · refine g_iconst ok d_Mo_needle_43 ?_
            refine g_istore_n (lv' := [(3, .int (iI 0)), (0, .ref (ad 244)), (1, .int (iI i)), (2, .int (iI f))]) ok d_Mo_needle_44 rfl (by decide) rfl ?_
            refine g_iconst ok d_Mo_needle_45 ?_
            refine g_istore (lv' := [(4, .int (iI 0)), (3, .int (iI 0)), (0, .ref (ad 244)), (1, .int (iI i)), (2, .int (iI f))]) ok d_Mo_needle_46 (by decide) rfl ?_
            have L_r : ∀ (n_r : Nat) (v : Int) (r : Int), (0 ≤ i ∧ i ≤ F 244 20) → (0 ≤ f ∧ f ≤ 1) → (0 ≤ r ∧ r ≤ i) → (v = sumN (G (if f = 0 then 258 else 259)) r.toNat) → (i + 1 - r) < (n_r : Int) → gW p l e R s m args below meth c (MQ below (gQi D A ad 265 (fun z ce' => ∃ F' G', ce' = mem ad t F' G' ∧ (fun z F' G' => G' = G ∧ ((¬ (0 ≤ i ∧ i ≤ F 244 20) ∧ F' = fU F 244 0 1) ∨ ((0 ≤ i ∧ i ≤ F 244 20) ∧ ¬ (0 ≤ f ∧ f ≤ 1) ∧ F' = fU F 244 0 2) ∨ ((0 ≤ i ∧ i ≤ F 244 20) ∧ (0 ≤ f ∧ f ≤ 1) ∧ F' = fU F 244 0 0 ∧ z = sumN (G (if f = 0 then 258 else 259)) i.toNat))) z F' G')) args s 0 0 A) D A 5 (gZ) 0 0 ad 265 (mem ad t (fU F 244 0 0) G) 48 [(0, .ref (ad 244)), (1, .int (iI i)), (2, .int (iI f)), (3, .int (iI v)), (4, .int (iI r))] [] := by
              intro n_r
              induction n_r with
              | zero =>
                intro v r hi hf hr hv hm_r
                exact absurd hm_r (by omega)
              | succ n_r ih_r =>
                intro v r hi hf hr hv hm_r
                refine g_iload ok d_Mo_needle_48 4 rfl ?_
                refine g_iload_n ok d_Mo_needle_50 rfl 1 rfl ?_
                refine g_icmp_ge ok 84 d_Mo_needle_51 (by decide) (by omega) (by omega) (fun h8 => ?_) (fun h8 => ?_)
                · refine g_iload_n ok d_Mo_needle_84 rfl 3 rfl ?_
                  exact g_iret ok d_Mo_needle_85 ⟨_, _, rfl, rfl, by first | exact Or.inl ⟨by omega, rfl⟩ | exact Or.inr (Or.inl ⟨by omega, by omega, rfl⟩) | exact Or.inr (Or.inr ⟨by omega, by omega, rfl, by rw [hv, show r.toNat = i.toNat by omega]⟩)⟩
                · refine g_iload_n ok d_Mo_needle_54 rfl 3 rfl ?_
                  refine g_iload_n ok d_Mo_needle_55 rfl 2 rfl ?_
                  refine g_if_ne ok 69 d_Mo_needle_56 (by decide) (by omega) (fun h9 => ?_) (fun h9 => ?_)
                  · refine g_aload_n ok d_Mo_needle_69 rfl 0 rfl ?_
                    refine gI_Mo_dy ok _ rfl k_1011 d_Mo_needle_70 ?_
                    refine g_iload ok d_Mo_needle_73 4 rfl ?_
                    refine h_iald ok _ a_259 (by omega) d_Mo_needle_75 ?_
                    refine g_iadd ok d_Mo_needle_76 ?_
                    refine g_istore_n (lv' := [(3, .int (iI (v + (G 259 r)))), (0, .ref (ad 244)), (1, .int (iI i)), (2, .int (iI f)), (4, .int (iI r))]) ok d_Mo_needle_77 rfl (by decide) rfl ?_
                    refine g_iinc (lv' := [(4, .int (iI (r + 1))), (3, .int (iI (v + (G 259 r)))), (0, .ref (ad 244)), (1, .int (iI i)), (2, .int (iI f))]) ok d_Mo_needle_78 4 rfl (by decide) rfl ?_
                    refine g_goto ok 48 d_Mo_needle_81 (by decide) ?_
                    refine g_lv [2, 3, 4, 1, 0] rfl ?_
                    exact ih_r (v + (G 259 r)) (r + 1) (by omega) (by omega) (by omega) (by rw [sumN_step hr.1, hv, if_neg (by omega)]) (by omega)
                  · refine g_aload_n ok d_Mo_needle_59 rfl 0 rfl ?_
                    refine gI_Mo_dx ok _ rfl k_1010 d_Mo_needle_60 ?_
                    refine g_iload ok d_Mo_needle_63 4 rfl ?_
                    refine h_iald ok _ a_258 (by omega) d_Mo_needle_65 ?_
                    refine g_goto ok 76 d_Mo_needle_66 (by decide) ?_
                    refine g_iadd ok d_Mo_needle_76 ?_
                    refine g_istore_n (lv' := [(3, .int (iI (v + (G 258 r)))), (0, .ref (ad 244)), (1, .int (iI i)), (2, .int (iI f)), (4, .int (iI r))]) ok d_Mo_needle_77 rfl (by decide) rfl ?_
                    refine g_iinc (lv' := [(4, .int (iI (r + 1))), (3, .int (iI (v + (G 258 r)))), (0, .ref (ad 244)), (1, .int (iI i)), (2, .int (iI f))]) ok d_Mo_needle_78 4 rfl (by decide) rfl ?_
                    refine g_goto ok 48 d_Mo_needle_81 (by decide) ?_
                    refine g_lv [2, 3, 4, 1, 0] rfl ?_
                    exact ih_r (v + (G 258 r)) (r + 1) (by omega) (by omega) (by omega) (by rw [sumN_step hr.1, hv, if_pos (by omega)]) (by omega)
            refine g_z ?_
            refine g_lv [2, 3, 4, 1, 0] rfl ?_
            exact L_r ((i + 1 - 0 : Int).toNat + 1) 0 0 (by omega) (by omega) (by omega) (rfl) (by omega)
          · exact absurd h7 (by decide)
        · refine g_iconst ok d_Mo_needle_26 ?_
          refine g_goto ok 31 d_Mo_needle_27 (by decide) ?_
          refine pI_Mo_thrownCode ok _ rfl k_989 d_Mo_needle_31 ?_
          refine g_aload_n ok d_Mo_needle_34 rfl 0 rfl ?_
          refine gI_Mo_thrownCode ok _ rfl k_989 d_Mo_needle_35 ?_
          refine g_top (y := 2) (by simp [fU]) ?_
          refine g_if_eq ok 43 d_Mo_needle_38 (by decide) (by omega) (fun h10 => ?_) (fun h10 => ?_)
          · exact absurd h10 (by decide)
          · refine g_iconst ok d_Mo_needle_41 ?_
            exact g_iret ok d_Mo_needle_42 ⟨_, _, rfl, rfl, by first | exact Or.inl ⟨by omega, rfl⟩ | exact Or.inr (Or.inl ⟨by omega, by omega, rfl⟩) | exact Or.inr (Or.inr ⟨by omega, by omega, rfl, by rw [hv, show r.toNat = i.toNat by omega]⟩)⟩
    · refine g_iconst ok d_Mo_needle_13 ?_
      refine g_goto ok 31 d_Mo_needle_14 (by decide) ?_
      refine pI_Mo_thrownCode ok _ rfl k_989 d_Mo_needle_31 ?_
      refine g_aload_n ok d_Mo_needle_34 rfl 0 rfl ?_
      refine gI_Mo_thrownCode ok _ rfl k_989 d_Mo_needle_35 ?_
      refine g_top (y := 1) (by simp [fU]) ?_
      refine g_if_eq ok 43 d_Mo_needle_38 (by decide) (by omega) (fun h11 => ?_) (fun h11 => ?_)
      · exact absurd h11 (by decide)
      · refine g_iconst ok d_Mo_needle_41 ?_
        exact g_iret ok d_Mo_needle_42 ⟨_, _, rfl, rfl, by first | exact Or.inl ⟨by omega, rfl⟩ | exact Or.inr (Or.inl ⟨by omega, by omega, rfl⟩) | exact Or.inr (Or.inr ⟨by omega, by omega, rfl, by rw [hv, show r.toNat = i.toNat by omega]⟩)⟩
theorem d_Mo_group_0 : decode b_Mo_group 0 = .ok (.aload_n 0, 1) := by decide +kernel
theorem d_Mo_group_1 : decode b_Mo_group 1 = .ok (.getfield 106, 3) := by decide +kernel
theorem d_Mo_group_4 : decode b_Mo_group 4 = .ok (.iload_n 1, 1) := by decide +kernel
theorem d_Mo_group_5 : decode b_Mo_group 5 = .ok (.iaload, 1) := by decide +kernel
theorem d_Mo_group_6 : decode b_Mo_group 6 = .ok (.bipush 16, 2) := by decide +kernel
theorem d_Mo_group_8 : decode b_Mo_group 8 = .ok (.ishl, 1) := by decide +kernel
theorem d_Mo_group_9 : decode b_Mo_group 9 = .ok (.aload_n 0, 1) := by decide +kernel
theorem d_Mo_group_10 : decode b_Mo_group 10 = .ok (.getfield 106, 3) := by decide +kernel
theorem d_Mo_group_13 : decode b_Mo_group 13 = .ok (.iload_n 1, 1) := by decide +kernel
theorem d_Mo_group_14 : decode b_Mo_group 14 = .ok (.iconst 1, 1) := by decide +kernel
theorem d_Mo_group_15 : decode b_Mo_group 15 = .ok (.iadd, 1) := by decide +kernel
theorem d_Mo_group_16 : decode b_Mo_group 16 = .ok (.iaload, 1) := by decide +kernel
theorem d_Mo_group_17 : decode b_Mo_group 17 = .ok (.bipush 8, 2) := by decide +kernel
theorem d_Mo_group_19 : decode b_Mo_group 19 = .ok (.ishl, 1) := by decide +kernel
theorem d_Mo_group_20 : decode b_Mo_group 20 = .ok (.ior, 1) := by decide +kernel
theorem d_Mo_group_21 : decode b_Mo_group 21 = .ok (.aload_n 0, 1) := by decide +kernel
theorem d_Mo_group_22 : decode b_Mo_group 22 = .ok (.getfield 106, 3) := by decide +kernel
theorem d_Mo_group_25 : decode b_Mo_group 25 = .ok (.iload_n 1, 1) := by decide +kernel
theorem d_Mo_group_26 : decode b_Mo_group 26 = .ok (.iconst 2, 1) := by decide +kernel
theorem d_Mo_group_27 : decode b_Mo_group 27 = .ok (.iadd, 1) := by decide +kernel
theorem d_Mo_group_28 : decode b_Mo_group 28 = .ok (.iaload, 1) := by decide +kernel
theorem d_Mo_group_29 : decode b_Mo_group 29 = .ok (.ior, 1) := by decide +kernel
theorem d_Mo_group_30 : decode b_Mo_group 30 = .ok (.ireturn, 1) := by decide +kernel
set_option maxHeartbeats 4000000 in
set_option maxRecDepth 100000 in
theorem c_Mo_group (F : Nat → Nat → Int) (G : Nat → Int → Int) (i : Int) (hi : 0 ≤ i ∧ i + 3 ≤ 1500) (h0 : 0 ≤ G 261 i ∧ G 261 i < 256) (h1 : 0 ≤ G 261 (i + 1) ∧ G 261 (i + 1) < 256) (h2 : 0 ≤ G 261 (i + 2) ∧ G 261 (i + 2) < 256) : cP y_Mo_group b_Mo_group 2 (some .int) 0 0 F G (fun ad => [.ref (ad 244), .int (iI i)]) (fun r => r = G 261 i * 65536 + G 261 (i + 1) * 256 + G 261 (i + 2)) := by
  intro s0 a0 D t ad
  refine g_startP (by decide +kernel) (Nat.le_of_ble_eq_true rfl) (fun p l e R s m args below meth c A ok => ?_)
  show gW p l e R s m args below meth c _ D A 2 (gZ0 s) 0 0 ad 265 (mem ad t F G) 0 [(0, .ref (ad 244)), (1, .int (iI i))] []
  refine g_aload_n ok d_Mo_group_0 rfl 0 rfl ?_
  refine gI_Mo_bytes ok _ rfl k_1020 d_Mo_group_1 ?_
  refine g_iload_n ok d_Mo_group_4 rfl 1 rfl ?_
  refine h_iald ok _ a_261 (by omega) d_Mo_group_5 ?_
  refine g_bipush ok (by decide) d_Mo_group_6 ?_
  refine g_ishl (z := G 261 i * 65536) ok (iI_shl 16 (by decide) (by omega) (by omega) rfl) d_Mo_group_8 ?_
  refine g_aload_n ok d_Mo_group_9 rfl 0 rfl ?_
  refine gI_Mo_bytes ok _ rfl k_1020 d_Mo_group_10 ?_
  refine g_iload_n ok d_Mo_group_13 rfl 1 rfl ?_
  refine g_iconst ok d_Mo_group_14 ?_
  refine g_iadd ok d_Mo_group_15 ?_
  refine h_iald ok _ a_261 (by omega) d_Mo_group_16 ?_
  refine g_bipush ok (by decide) d_Mo_group_17 ?_
  refine g_ishl (z := G 261 (i + 1) * 256) ok (iI_shl 8 (by decide) (by omega) (by omega) rfl) d_Mo_group_19 ?_
  refine g_ior (z := G 261 i * 65536 + G 261 (i + 1) * 256) ok (iI_or (a := G 261 i) 16 (by omega) (by omega)) d_Mo_group_20 ?_
  refine g_aload_n ok d_Mo_group_21 rfl 0 rfl ?_
  refine gI_Mo_bytes ok _ rfl k_1020 d_Mo_group_22 ?_
  refine g_iload_n ok d_Mo_group_25 rfl 1 rfl ?_
  refine g_iconst ok d_Mo_group_26 ?_
  refine g_iadd ok d_Mo_group_27 ?_
  refine h_iald ok _ a_261 (by omega) d_Mo_group_28 ?_
  refine g_ior (z := G 261 i * 65536 + G 261 (i + 1) * 256 + G 261 (i + 2)) ok (by have h := iI_or (a := G 261 i * 256 + G 261 (i + 1)) (b := G 261 (i + 2)) 8 (by omega) (by omega); rw [show (G 261 i * 256 + G 261 (i + 1)) * 2 ^ 8 = G 261 i * 65536 + G 261 (i + 1) * 256 by omega] at h; exact h) d_Mo_group_29 ?_
  exact g_ipret ok d_Mo_group_30 (rfl)
theorem d_Mo_xOf_0 : decode b_Mo_xOf 0 = .ok (.iload_n 0, 1) := by decide +kernel
theorem d_Mo_xOf_1 : decode b_Mo_xOf 1 = .ok (.iconst 1, 1) := by decide +kernel
theorem d_Mo_xOf_2 : decode b_Mo_xOf 2 = .ok (.if_icmp .ne 7, 3) := by decide +kernel
theorem d_Mo_xOf_5 : decode b_Mo_xOf 5 = .ok (.iload_n 1, 1) := by decide +kernel
theorem d_Mo_xOf_6 : decode b_Mo_xOf 6 = .ok (.goto 4, 3) := by decide +kernel
theorem d_Mo_xOf_9 : decode b_Mo_xOf 9 = .ok (.iload_n 2, 1) := by decide +kernel
theorem d_Mo_xOf_10 : decode b_Mo_xOf 10 = .ok (.ireturn, 1) := by decide +kernel
set_option maxHeartbeats 4000000 in
set_option maxRecDepth 100000 in
theorem c_Mo_xOf (F : Nat → Nat → Int) (G : Nat → Int → Int) (d f p0 : Int) (hd : 0 ≤ d ∧ d ≤ 3) : cP y_Mo_xOf b_Mo_xOf 3 (some .int) 0 0 F G (fun ad => [.int (iI d), .int (iI f), .int (iI p0)]) (fun r => r = if d = 1 then f else p0) := by
  intro s0 a0 D t ad
  refine g_startP (by decide +kernel) (Nat.le_of_ble_eq_true rfl) (fun p l e R s m args below meth c A ok => ?_)
  show gW p l e R s m args below meth c _ D A 3 (gZ0 s) 0 0 ad 265 (mem ad t F G) 0 [(0, .int (iI d)), (1, .int (iI f)), (2, .int (iI p0))] []
  refine g_iload_n ok d_Mo_xOf_0 rfl 0 rfl ?_
  refine g_iconst ok d_Mo_xOf_1 ?_
  refine g_icmp_ne ok 9 d_Mo_xOf_2 (by decide) (by omega) (by omega) (fun h1 => ?_) (fun h1 => ?_)
  · refine g_iload_n ok d_Mo_xOf_9 rfl 2 rfl ?_
    exact g_ipret ok d_Mo_xOf_10 (by split <;> omega)
  · refine g_iload_n ok d_Mo_xOf_5 rfl 1 rfl ?_
    refine g_goto ok 10 d_Mo_xOf_6 (by decide) ?_
    exact g_ipret ok d_Mo_xOf_10 (by split <;> omega)
theorem d_Mo_yOf_0 : decode b_Mo_yOf 0 = .ok (.iload_n 0, 1) := by decide +kernel
theorem d_Mo_yOf_1 : decode b_Mo_yOf 1 = .ok (.ifCond .ne 7, 3) := by decide +kernel
theorem d_Mo_yOf_4 : decode b_Mo_yOf 4 = .ok (.iload_n 1, 1) := by decide +kernel
theorem d_Mo_yOf_5 : decode b_Mo_yOf 5 = .ok (.goto 26, 3) := by decide +kernel
theorem d_Mo_yOf_8 : decode b_Mo_yOf 8 = .ok (.iload_n 0, 1) := by decide +kernel
theorem d_Mo_yOf_9 : decode b_Mo_yOf 9 = .ok (.iconst 1, 1) := by decide +kernel
theorem d_Mo_yOf_10 : decode b_Mo_yOf 10 = .ok (.if_icmp .ne 7, 3) := by decide +kernel
theorem d_Mo_yOf_13 : decode b_Mo_yOf 13 = .ok (.iload_n 2, 1) := by decide +kernel
theorem d_Mo_yOf_14 : decode b_Mo_yOf 14 = .ok (.goto 17, 3) := by decide +kernel
theorem d_Mo_yOf_17 : decode b_Mo_yOf 17 = .ok (.iload_n 0, 1) := by decide +kernel
theorem d_Mo_yOf_18 : decode b_Mo_yOf 18 = .ok (.iconst 2, 1) := by decide +kernel
theorem d_Mo_yOf_19 : decode b_Mo_yOf 19 = .ok (.if_icmp .ne 9, 3) := by decide +kernel
theorem d_Mo_yOf_22 : decode b_Mo_yOf 22 = .ok (.iload_n 1, 1) := by decide +kernel
theorem d_Mo_yOf_23 : decode b_Mo_yOf 23 = .ok (.iload_n 2, 1) := by decide +kernel
theorem d_Mo_yOf_24 : decode b_Mo_yOf 24 = .ok (.isub, 1) := by decide +kernel
theorem d_Mo_yOf_25 : decode b_Mo_yOf 25 = .ok (.goto 6, 3) := by decide +kernel
theorem d_Mo_yOf_28 : decode b_Mo_yOf 28 = .ok (.iload_n 1, 1) := by decide +kernel
theorem d_Mo_yOf_29 : decode b_Mo_yOf 29 = .ok (.iload_n 2, 1) := by decide +kernel
theorem d_Mo_yOf_30 : decode b_Mo_yOf 30 = .ok (.iadd, 1) := by decide +kernel
theorem d_Mo_yOf_31 : decode b_Mo_yOf 31 = .ok (.ireturn, 1) := by decide +kernel
set_option maxHeartbeats 4000000 in
set_option maxRecDepth 100000 in
theorem c_Mo_yOf (F : Nat → Nat → Int) (G : Nat → Int → Int) (d f p0 : Int) (hd : 0 ≤ d ∧ d ≤ 3) : cP y_Mo_yOf b_Mo_yOf 3 (some .int) 0 0 F G (fun ad => [.int (iI d), .int (iI f), .int (iI p0)]) (fun r => r = if d = 0 then f else if d = 1 then p0 else if d = 2 then f - p0 else f + p0) := by
  intro s0 a0 D t ad
  refine g_startP (by decide +kernel) (Nat.le_of_ble_eq_true rfl) (fun p l e R s m args below meth c A ok => ?_)
  show gW p l e R s m args below meth c _ D A 3 (gZ0 s) 0 0 ad 265 (mem ad t F G) 0 [(0, .int (iI d)), (1, .int (iI f)), (2, .int (iI p0))] []
  refine g_iload_n ok d_Mo_yOf_0 rfl 0 rfl ?_
  refine g_if_ne ok 8 d_Mo_yOf_1 (by decide) (by omega) (fun h1 => ?_) (fun h1 => ?_)
  · refine g_iload_n ok d_Mo_yOf_8 rfl 0 rfl ?_
    refine g_iconst ok d_Mo_yOf_9 ?_
    refine g_icmp_ne ok 17 d_Mo_yOf_10 (by decide) (by omega) (by omega) (fun h2 => ?_) (fun h2 => ?_)
    · refine g_iload_n ok d_Mo_yOf_17 rfl 0 rfl ?_
      refine g_iconst ok d_Mo_yOf_18 ?_
      refine g_icmp_ne ok 28 d_Mo_yOf_19 (by decide) (by omega) (by omega) (fun h3 => ?_) (fun h3 => ?_)
      · refine g_iload_n ok d_Mo_yOf_28 rfl 1 rfl ?_
        refine g_iload_n ok d_Mo_yOf_29 rfl 2 rfl ?_
        refine g_iadd ok d_Mo_yOf_30 ?_
        exact g_ipret ok d_Mo_yOf_31 (by split <;> (try split) <;> (try split) <;> omega)
      · refine g_iload_n ok d_Mo_yOf_22 rfl 1 rfl ?_
        refine g_iload_n ok d_Mo_yOf_23 rfl 2 rfl ?_
        refine g_isub ok d_Mo_yOf_24 ?_
        refine g_goto ok 31 d_Mo_yOf_25 (by decide) ?_
        exact g_ipret ok d_Mo_yOf_31 (by split <;> (try split) <;> (try split) <;> omega)
    · refine g_iload_n ok d_Mo_yOf_13 rfl 2 rfl ?_
      refine g_goto ok 31 d_Mo_yOf_14 (by decide) ?_
      exact g_ipret ok d_Mo_yOf_31 (by split <;> (try split) <;> (try split) <;> omega)
  · refine g_iload_n ok d_Mo_yOf_4 rfl 1 rfl ?_
    refine g_goto ok 31 d_Mo_yOf_5 (by decide) ?_
    exact g_ipret ok d_Mo_yOf_31 (by split <;> (try split) <;> (try split) <;> omega)
theorem d_Mo_meetBoxes_0 : decode b_Mo_meetBoxes 0 = .ok (.aload_n 0, 1) := by decide +kernel
theorem d_Mo_meetBoxes_1 : decode b_Mo_meetBoxes 1 = .ok (.getfield 33, 3) := by decide +kernel
theorem d_Mo_meetBoxes_4 : decode b_Mo_meetBoxes 4 = .ok (.iconst 4, 1) := by decide +kernel
theorem d_Mo_meetBoxes_5 : decode b_Mo_meetBoxes 5 = .ok (.iload_n 1, 1) := by decide +kernel
theorem d_Mo_meetBoxes_6 : decode b_Mo_meetBoxes 6 = .ok (.imul, 1) := by decide +kernel
theorem d_Mo_meetBoxes_7 : decode b_Mo_meetBoxes 7 = .ok (.iaload, 1) := by decide +kernel
theorem d_Mo_meetBoxes_8 : decode b_Mo_meetBoxes 8 = .ok (.aload_n 0, 1) := by decide +kernel
theorem d_Mo_meetBoxes_9 : decode b_Mo_meetBoxes 9 = .ok (.getfield 33, 3) := by decide +kernel
theorem d_Mo_meetBoxes_12 : decode b_Mo_meetBoxes 12 = .ok (.iconst 4, 1) := by decide +kernel
theorem d_Mo_meetBoxes_13 : decode b_Mo_meetBoxes 13 = .ok (.iload_n 2, 1) := by decide +kernel
theorem d_Mo_meetBoxes_14 : decode b_Mo_meetBoxes 14 = .ok (.imul, 1) := by decide +kernel
theorem d_Mo_meetBoxes_15 : decode b_Mo_meetBoxes 15 = .ok (.iconst 2, 1) := by decide +kernel
theorem d_Mo_meetBoxes_16 : decode b_Mo_meetBoxes 16 = .ok (.iadd, 1) := by decide +kernel
theorem d_Mo_meetBoxes_17 : decode b_Mo_meetBoxes 17 = .ok (.iaload, 1) := by decide +kernel
theorem d_Mo_meetBoxes_18 : decode b_Mo_meetBoxes 18 = .ok (.if_icmp .gt 74, 3) := by decide +kernel
theorem d_Mo_meetBoxes_21 : decode b_Mo_meetBoxes 21 = .ok (.aload_n 0, 1) := by decide +kernel
theorem d_Mo_meetBoxes_22 : decode b_Mo_meetBoxes 22 = .ok (.getfield 33, 3) := by decide +kernel
theorem d_Mo_meetBoxes_25 : decode b_Mo_meetBoxes 25 = .ok (.iconst 4, 1) := by decide +kernel
theorem d_Mo_meetBoxes_26 : decode b_Mo_meetBoxes 26 = .ok (.iload_n 2, 1) := by decide +kernel
theorem d_Mo_meetBoxes_27 : decode b_Mo_meetBoxes 27 = .ok (.imul, 1) := by decide +kernel
theorem d_Mo_meetBoxes_28 : decode b_Mo_meetBoxes 28 = .ok (.iaload, 1) := by decide +kernel
theorem d_Mo_meetBoxes_29 : decode b_Mo_meetBoxes 29 = .ok (.aload_n 0, 1) := by decide +kernel
theorem d_Mo_meetBoxes_30 : decode b_Mo_meetBoxes 30 = .ok (.getfield 33, 3) := by decide +kernel
theorem d_Mo_meetBoxes_33 : decode b_Mo_meetBoxes 33 = .ok (.iconst 4, 1) := by decide +kernel
theorem d_Mo_meetBoxes_34 : decode b_Mo_meetBoxes 34 = .ok (.iload_n 1, 1) := by decide +kernel
theorem d_Mo_meetBoxes_35 : decode b_Mo_meetBoxes 35 = .ok (.imul, 1) := by decide +kernel
theorem d_Mo_meetBoxes_36 : decode b_Mo_meetBoxes 36 = .ok (.iconst 2, 1) := by decide +kernel
theorem d_Mo_meetBoxes_37 : decode b_Mo_meetBoxes 37 = .ok (.iadd, 1) := by decide +kernel
theorem d_Mo_meetBoxes_38 : decode b_Mo_meetBoxes 38 = .ok (.iaload, 1) := by decide +kernel
theorem d_Mo_meetBoxes_39 : decode b_Mo_meetBoxes 39 = .ok (.if_icmp .gt 53, 3) := by decide +kernel
theorem d_Mo_meetBoxes_42 : decode b_Mo_meetBoxes 42 = .ok (.aload_n 0, 1) := by decide +kernel
theorem d_Mo_meetBoxes_43 : decode b_Mo_meetBoxes 43 = .ok (.getfield 33, 3) := by decide +kernel
theorem d_Mo_meetBoxes_46 : decode b_Mo_meetBoxes 46 = .ok (.iconst 4, 1) := by decide +kernel
theorem d_Mo_meetBoxes_47 : decode b_Mo_meetBoxes 47 = .ok (.iload_n 1, 1) := by decide +kernel
theorem d_Mo_meetBoxes_48 : decode b_Mo_meetBoxes 48 = .ok (.imul, 1) := by decide +kernel
theorem d_Mo_meetBoxes_49 : decode b_Mo_meetBoxes 49 = .ok (.iconst 1, 1) := by decide +kernel
theorem d_Mo_meetBoxes_50 : decode b_Mo_meetBoxes 50 = .ok (.iadd, 1) := by decide +kernel
theorem d_Mo_meetBoxes_51 : decode b_Mo_meetBoxes 51 = .ok (.iaload, 1) := by decide +kernel
theorem d_Mo_meetBoxes_52 : decode b_Mo_meetBoxes 52 = .ok (.aload_n 0, 1) := by decide +kernel
theorem d_Mo_meetBoxes_53 : decode b_Mo_meetBoxes 53 = .ok (.getfield 33, 3) := by decide +kernel
theorem d_Mo_meetBoxes_56 : decode b_Mo_meetBoxes 56 = .ok (.iconst 4, 1) := by decide +kernel
theorem d_Mo_meetBoxes_57 : decode b_Mo_meetBoxes 57 = .ok (.iload_n 2, 1) := by decide +kernel
theorem d_Mo_meetBoxes_58 : decode b_Mo_meetBoxes 58 = .ok (.imul, 1) := by decide +kernel
theorem d_Mo_meetBoxes_59 : decode b_Mo_meetBoxes 59 = .ok (.iconst 3, 1) := by decide +kernel
theorem d_Mo_meetBoxes_60 : decode b_Mo_meetBoxes 60 = .ok (.iadd, 1) := by decide +kernel
theorem d_Mo_meetBoxes_61 : decode b_Mo_meetBoxes 61 = .ok (.iaload, 1) := by decide +kernel
theorem d_Mo_meetBoxes_62 : decode b_Mo_meetBoxes 62 = .ok (.if_icmp .gt 30, 3) := by decide +kernel
theorem d_Mo_meetBoxes_65 : decode b_Mo_meetBoxes 65 = .ok (.aload_n 0, 1) := by decide +kernel
theorem d_Mo_meetBoxes_66 : decode b_Mo_meetBoxes 66 = .ok (.getfield 33, 3) := by decide +kernel
theorem d_Mo_meetBoxes_69 : decode b_Mo_meetBoxes 69 = .ok (.iconst 4, 1) := by decide +kernel
theorem d_Mo_meetBoxes_70 : decode b_Mo_meetBoxes 70 = .ok (.iload_n 2, 1) := by decide +kernel
theorem d_Mo_meetBoxes_71 : decode b_Mo_meetBoxes 71 = .ok (.imul, 1) := by decide +kernel
theorem d_Mo_meetBoxes_72 : decode b_Mo_meetBoxes 72 = .ok (.iconst 1, 1) := by decide +kernel
theorem d_Mo_meetBoxes_73 : decode b_Mo_meetBoxes 73 = .ok (.iadd, 1) := by decide +kernel
theorem d_Mo_meetBoxes_74 : decode b_Mo_meetBoxes 74 = .ok (.iaload, 1) := by decide +kernel
theorem d_Mo_meetBoxes_75 : decode b_Mo_meetBoxes 75 = .ok (.aload_n 0, 1) := by decide +kernel
theorem d_Mo_meetBoxes_76 : decode b_Mo_meetBoxes 76 = .ok (.getfield 33, 3) := by decide +kernel
theorem d_Mo_meetBoxes_79 : decode b_Mo_meetBoxes 79 = .ok (.iconst 4, 1) := by decide +kernel
theorem d_Mo_meetBoxes_80 : decode b_Mo_meetBoxes 80 = .ok (.iload_n 1, 1) := by decide +kernel
theorem d_Mo_meetBoxes_81 : decode b_Mo_meetBoxes 81 = .ok (.imul, 1) := by decide +kernel
theorem d_Mo_meetBoxes_82 : decode b_Mo_meetBoxes 82 = .ok (.iconst 3, 1) := by decide +kernel
theorem d_Mo_meetBoxes_83 : decode b_Mo_meetBoxes 83 = .ok (.iadd, 1) := by decide +kernel
theorem d_Mo_meetBoxes_84 : decode b_Mo_meetBoxes 84 = .ok (.iaload, 1) := by decide +kernel
theorem d_Mo_meetBoxes_85 : decode b_Mo_meetBoxes 85 = .ok (.if_icmp .gt 7, 3) := by decide +kernel
theorem d_Mo_meetBoxes_88 : decode b_Mo_meetBoxes 88 = .ok (.iconst 1, 1) := by decide +kernel
theorem d_Mo_meetBoxes_89 : decode b_Mo_meetBoxes 89 = .ok (.goto 4, 3) := by decide +kernel
theorem d_Mo_meetBoxes_92 : decode b_Mo_meetBoxes 92 = .ok (.iconst 0, 1) := by decide +kernel
theorem d_Mo_meetBoxes_93 : decode b_Mo_meetBoxes 93 = .ok (.ireturn, 1) := by decide +kernel
set_option maxHeartbeats 4000000 in
set_option maxRecDepth 100000 in
theorem c_Mo_meetBoxes (F : Nat → Nat → Int) (G : Nat → Int → Int) (a b : Int) (ha : 0 ≤ a ∧ a ≤ 10) (hb : 0 ≤ b ∧ b ≤ 10) (hx : (0 ≤ G 249 (4 * a) ∧ G 249 (4 * a) ≤ 600) ∧ (0 ≤ G 249 (4 * a + 1) ∧ G 249 (4 * a + 1) ≤ 600) ∧ (0 ≤ G 249 (4 * a + 2) ∧ G 249 (4 * a + 2) ≤ 600) ∧ (0 ≤ G 249 (4 * a + 3) ∧ G 249 (4 * a + 3) ≤ 600) ∧ (0 ≤ G 249 (4 * b) ∧ G 249 (4 * b) ≤ 600) ∧ (0 ≤ G 249 (4 * b + 1) ∧ G 249 (4 * b + 1) ≤ 600) ∧ (0 ≤ G 249 (4 * b + 2) ∧ G 249 (4 * b + 2) ≤ 600) ∧ (0 ≤ G 249 (4 * b + 3) ∧ G 249 (4 * b + 3) ≤ 600)) : cP y_Mo_meetBoxes b_Mo_meetBoxes 3 (some .boolean) 0 0 F G (fun ad => [.ref (ad 244), .int (iI a), .int (iI b)]) (fun r => r = if G 249 (4 * a) ≤ G 249 (4 * b + 2) ∧ G 249 (4 * b) ≤ G 249 (4 * a + 2) ∧ G 249 (4 * a + 1) ≤ G 249 (4 * b + 3) ∧ G 249 (4 * b + 1) ≤ G 249 (4 * a + 3) then 1 else 0) := by
  intro s0 a0 D t ad
  refine g_startP (by decide +kernel) (Nat.le_of_ble_eq_true rfl) (fun p l e R s m args below meth c A ok => ?_)
  show gW p l e R s m args below meth c _ D A 3 (gZ0 s) 0 0 ad 265 (mem ad t F G) 0 [(0, .ref (ad 244)), (1, .int (iI a)), (2, .int (iI b))] []
  refine g_aload_n ok d_Mo_meetBoxes_0 rfl 0 rfl ?_
  refine gI_Mo_box ok _ rfl k_996 d_Mo_meetBoxes_1 ?_
  refine g_iconst ok d_Mo_meetBoxes_4 ?_
  refine g_iload_n ok d_Mo_meetBoxes_5 rfl 1 rfl ?_
  refine g_imul ok d_Mo_meetBoxes_6 ?_
  refine h_iald ok _ a_249 (by omega) d_Mo_meetBoxes_7 ?_
  refine g_aload_n ok d_Mo_meetBoxes_8 rfl 0 rfl ?_
  refine gI_Mo_box ok _ rfl k_996 d_Mo_meetBoxes_9 ?_
  refine g_iconst ok d_Mo_meetBoxes_12 ?_
  refine g_iload_n ok d_Mo_meetBoxes_13 rfl 2 rfl ?_
  refine g_imul ok d_Mo_meetBoxes_14 ?_
  refine g_iconst ok d_Mo_meetBoxes_15 ?_
  refine g_iadd ok d_Mo_meetBoxes_16 ?_
  refine h_iald ok _ a_249 (by omega) d_Mo_meetBoxes_17 ?_
  refine g_icmp_gt ok 92 d_Mo_meetBoxes_18 (by decide) (by omega) (by omega) (fun h1 => ?_) (fun h1 => ?_)
  · refine g_iconst ok d_Mo_meetBoxes_92 ?_
    exact g_zpret ok d_Mo_meetBoxes_93 (by first | exact Or.inl rfl | exact Or.inr rfl | omega) (by split <;> omega)
  · refine g_aload_n ok d_Mo_meetBoxes_21 rfl 0 rfl ?_
    refine gI_Mo_box ok _ rfl k_996 d_Mo_meetBoxes_22 ?_
    refine g_iconst ok d_Mo_meetBoxes_25 ?_
    refine g_iload_n ok d_Mo_meetBoxes_26 rfl 2 rfl ?_
    refine g_imul ok d_Mo_meetBoxes_27 ?_
    refine h_iald ok _ a_249 (by omega) d_Mo_meetBoxes_28 ?_
    refine g_aload_n ok d_Mo_meetBoxes_29 rfl 0 rfl ?_
    refine gI_Mo_box ok _ rfl k_996 d_Mo_meetBoxes_30 ?_
    refine g_iconst ok d_Mo_meetBoxes_33 ?_
    refine g_iload_n ok d_Mo_meetBoxes_34 rfl 1 rfl ?_
    refine g_imul ok d_Mo_meetBoxes_35 ?_
    refine g_iconst ok d_Mo_meetBoxes_36 ?_
    refine g_iadd ok d_Mo_meetBoxes_37 ?_
    refine h_iald ok _ a_249 (by omega) d_Mo_meetBoxes_38 ?_
    refine g_icmp_gt ok 92 d_Mo_meetBoxes_39 (by decide) (by omega) (by omega) (fun h2 => ?_) (fun h2 => ?_)
    · refine g_iconst ok d_Mo_meetBoxes_92 ?_
      exact g_zpret ok d_Mo_meetBoxes_93 (by first | exact Or.inl rfl | exact Or.inr rfl | omega) (by split <;> omega)
    · refine g_aload_n ok d_Mo_meetBoxes_42 rfl 0 rfl ?_
      refine gI_Mo_box ok _ rfl k_996 d_Mo_meetBoxes_43 ?_
      refine g_iconst ok d_Mo_meetBoxes_46 ?_
      refine g_iload_n ok d_Mo_meetBoxes_47 rfl 1 rfl ?_
      refine g_imul ok d_Mo_meetBoxes_48 ?_
      refine g_iconst ok d_Mo_meetBoxes_49 ?_
      refine g_iadd ok d_Mo_meetBoxes_50 ?_
      refine h_iald ok _ a_249 (by omega) d_Mo_meetBoxes_51 ?_
      refine g_aload_n ok d_Mo_meetBoxes_52 rfl 0 rfl ?_
      refine gI_Mo_box ok _ rfl k_996 d_Mo_meetBoxes_53 ?_
      refine g_iconst ok d_Mo_meetBoxes_56 ?_
      refine g_iload_n ok d_Mo_meetBoxes_57 rfl 2 rfl ?_
      refine g_imul ok d_Mo_meetBoxes_58 ?_
      refine g_iconst ok d_Mo_meetBoxes_59 ?_
      refine g_iadd ok d_Mo_meetBoxes_60 ?_
      refine h_iald ok _ a_249 (by omega) d_Mo_meetBoxes_61 ?_
      refine g_icmp_gt ok 92 d_Mo_meetBoxes_62 (by decide) (by omega) (by omega) (fun h3 => ?_) (fun h3 => ?_)
      · refine g_iconst ok d_Mo_meetBoxes_92 ?_
        exact g_zpret ok d_Mo_meetBoxes_93 (by first | exact Or.inl rfl | exact Or.inr rfl | omega) (by split <;> omega)
      · refine g_aload_n ok d_Mo_meetBoxes_65 rfl 0 rfl ?_
        refine gI_Mo_box ok _ rfl k_996 d_Mo_meetBoxes_66 ?_
        refine g_iconst ok d_Mo_meetBoxes_69 ?_
        refine g_iload_n ok d_Mo_meetBoxes_70 rfl 2 rfl ?_
        refine g_imul ok d_Mo_meetBoxes_71 ?_
        refine g_iconst ok d_Mo_meetBoxes_72 ?_
        refine g_iadd ok d_Mo_meetBoxes_73 ?_
        refine h_iald ok _ a_249 (by omega) d_Mo_meetBoxes_74 ?_
        refine g_aload_n ok d_Mo_meetBoxes_75 rfl 0 rfl ?_
        refine gI_Mo_box ok _ rfl k_996 d_Mo_meetBoxes_76 ?_
        refine g_iconst ok d_Mo_meetBoxes_79 ?_
        refine g_iload_n ok d_Mo_meetBoxes_80 rfl 1 rfl ?_
        refine g_imul ok d_Mo_meetBoxes_81 ?_
        refine g_iconst ok d_Mo_meetBoxes_82 ?_
        refine g_iadd ok d_Mo_meetBoxes_83 ?_
        refine h_iald ok _ a_249 (by omega) d_Mo_meetBoxes_84 ?_
        refine g_icmp_gt ok 92 d_Mo_meetBoxes_85 (by decide) (by omega) (by omega) (fun h4 => ?_) (fun h4 => ?_)
        · refine g_iconst ok d_Mo_meetBoxes_92 ?_
          exact g_zpret ok d_Mo_meetBoxes_93 (by first | exact Or.inl rfl | exact Or.inr rfl | omega) (by split <;> omega)
        · refine g_iconst ok d_Mo_meetBoxes_88 ?_
          refine g_goto ok 93 d_Mo_meetBoxes_89 (by decide) ?_
          exact g_zpret ok d_Mo_meetBoxes_93 (by first | exact Or.inl rfl | exact Or.inr rfl | omega) (by split <;> omega)
theorem d_Mo_oneMore_0 : decode b_Mo_oneMore 0 = .ok (.aload_n 0, 1) := by decide +kernel
theorem d_Mo_oneMore_1 : decode b_Mo_oneMore 1 = .ok (.getfield 24, 3) := by decide +kernel
theorem d_Mo_oneMore_4 : decode b_Mo_oneMore 4 = .ok (.bipush 40, 2) := by decide +kernel
theorem d_Mo_oneMore_6 : decode b_Mo_oneMore 6 = .ok (.iload_n 1, 1) := by decide +kernel
theorem d_Mo_oneMore_7 : decode b_Mo_oneMore 7 = .ok (.iadd, 1) := by decide +kernel
theorem d_Mo_oneMore_8 : decode b_Mo_oneMore 8 = .ok (.iaload, 1) := by decide +kernel
theorem d_Mo_oneMore_9 : decode b_Mo_oneMore 9 = .ok (.istore 4, 2) := by decide +kernel
theorem d_Mo_oneMore_11 : decode b_Mo_oneMore 11 = .ok (.aload_n 0, 1) := by decide +kernel
theorem d_Mo_oneMore_12 : decode b_Mo_oneMore 12 = .ok (.getfield 27, 3) := by decide +kernel
theorem d_Mo_oneMore_15 : decode b_Mo_oneMore 15 = .ok (.sipush 960, 3) := by decide +kernel
theorem d_Mo_oneMore_18 : decode b_Mo_oneMore 18 = .ok (.bipush 24, 2) := by decide +kernel
theorem d_Mo_oneMore_20 : decode b_Mo_oneMore 20 = .ok (.iload_n 1, 1) := by decide +kernel
theorem d_Mo_oneMore_21 : decode b_Mo_oneMore 21 = .ok (.imul, 1) := by decide +kernel
theorem d_Mo_oneMore_22 : decode b_Mo_oneMore 22 = .ok (.iadd, 1) := by decide +kernel
theorem d_Mo_oneMore_23 : decode b_Mo_oneMore 23 = .ok (.iload 4, 2) := by decide +kernel
theorem d_Mo_oneMore_25 : decode b_Mo_oneMore 25 = .ok (.iadd, 1) := by decide +kernel
theorem d_Mo_oneMore_26 : decode b_Mo_oneMore 26 = .ok (.iload_n 2, 1) := by decide +kernel
theorem d_Mo_oneMore_27 : decode b_Mo_oneMore 27 = .ok (.iastore, 1) := by decide +kernel
theorem d_Mo_oneMore_28 : decode b_Mo_oneMore 28 = .ok (.aload_n 0, 1) := by decide +kernel
theorem d_Mo_oneMore_29 : decode b_Mo_oneMore 29 = .ok (.getfield 30, 3) := by decide +kernel
theorem d_Mo_oneMore_32 : decode b_Mo_oneMore 32 = .ok (.sipush 960, 3) := by decide +kernel
theorem d_Mo_oneMore_35 : decode b_Mo_oneMore 35 = .ok (.bipush 24, 2) := by decide +kernel
theorem d_Mo_oneMore_37 : decode b_Mo_oneMore 37 = .ok (.iload_n 1, 1) := by decide +kernel
theorem d_Mo_oneMore_38 : decode b_Mo_oneMore 38 = .ok (.imul, 1) := by decide +kernel
theorem d_Mo_oneMore_39 : decode b_Mo_oneMore 39 = .ok (.iadd, 1) := by decide +kernel
theorem d_Mo_oneMore_40 : decode b_Mo_oneMore 40 = .ok (.iload 4, 2) := by decide +kernel
theorem d_Mo_oneMore_42 : decode b_Mo_oneMore 42 = .ok (.iadd, 1) := by decide +kernel
theorem d_Mo_oneMore_43 : decode b_Mo_oneMore 43 = .ok (.iload_n 3, 1) := by decide +kernel
theorem d_Mo_oneMore_44 : decode b_Mo_oneMore 44 = .ok (.iastore, 1) := by decide +kernel
theorem d_Mo_oneMore_45 : decode b_Mo_oneMore 45 = .ok (.aload_n 0, 1) := by decide +kernel
theorem d_Mo_oneMore_46 : decode b_Mo_oneMore 46 = .ok (.getfield 24, 3) := by decide +kernel
theorem d_Mo_oneMore_49 : decode b_Mo_oneMore 49 = .ok (.bipush 40, 2) := by decide +kernel
theorem d_Mo_oneMore_51 : decode b_Mo_oneMore 51 = .ok (.iload_n 1, 1) := by decide +kernel
theorem d_Mo_oneMore_52 : decode b_Mo_oneMore 52 = .ok (.iadd, 1) := by decide +kernel
theorem d_Mo_oneMore_53 : decode b_Mo_oneMore 53 = .ok (.iload 4, 2) := by decide +kernel
theorem d_Mo_oneMore_55 : decode b_Mo_oneMore 55 = .ok (.iconst 1, 1) := by decide +kernel
theorem d_Mo_oneMore_56 : decode b_Mo_oneMore 56 = .ok (.iadd, 1) := by decide +kernel
theorem d_Mo_oneMore_57 : decode b_Mo_oneMore 57 = .ok (.iastore, 1) := by decide +kernel
theorem d_Mo_oneMore_58 : decode b_Mo_oneMore 58 = .ok (.iload 4, 2) := by decide +kernel
theorem d_Mo_oneMore_60 : decode b_Mo_oneMore 60 = .ok (.iconst 1, 1) := by decide +kernel
theorem d_Mo_oneMore_61 : decode b_Mo_oneMore 61 = .ok (.iadd, 1) := by decide +kernel
theorem d_Mo_oneMore_62 : decode b_Mo_oneMore 62 = .ok (.ireturn, 1) := by decide +kernel
set_option maxHeartbeats 4000000 in
set_option maxRecDepth 100000 in
theorem c_Mo_oneMore (F : Nat → Nat → Int) (G : Nat → Int → Int) (r x y : Int) (hr : 0 ≤ r ∧ r ≤ 3) (hc : 0 ≤ G 246 (40 + r) ∧ G 246 (40 + r) < 24) : cI y_Mo_oneMore b_Mo_oneMore 5 (some .int) 0 0 F G (fun ad => [.ref (ad 244), .int (iI r), .int (iI x), .int (iI y)]) (fun z F' G' => z = G 246 (40 + r) + 1 ∧ F' = F ∧ G' = gU (gU (gU G 247 (960 + 24 * r + G 246 (40 + r)) x) 248 (960 + 24 * r + G 246 (40 + r)) y) 246 (40 + r) (G 246 (40 + r) + 1)) := by
  intro s0 a0 D t ad
  refine g_startI (by decide +kernel) (Nat.le_of_ble_eq_true rfl) (fun p l e R s m args below meth c A ok => ?_)
  show gW p l e R s m args below meth c _ D A 5 (gZ0 s) 0 0 ad 265 (mem ad t F G) 0 [(0, .ref (ad 244)), (1, .int (iI r)), (2, .int (iI x)), (3, .int (iI y))] []
  refine g_aload_n ok d_Mo_oneMore_0 rfl 0 rfl ?_
  refine gI_Mo_corners ok _ rfl k_993 d_Mo_oneMore_1 ?_
  refine g_bipush ok (by decide) d_Mo_oneMore_4 ?_
  refine g_iload_n ok d_Mo_oneMore_6 rfl 1 rfl ?_
  refine g_iadd ok d_Mo_oneMore_7 ?_
  refine h_iald ok _ a_246 (by omega) d_Mo_oneMore_8 ?_
  refine g_istore (lv' := [(4, .int (iI (G 246 (40 + r)))), (0, .ref (ad 244)), (1, .int (iI r)), (2, .int (iI x)), (3, .int (iI y))]) ok d_Mo_oneMore_9 (by decide) rfl ?_
  refine g_aload_n ok d_Mo_oneMore_11 rfl 1 rfl ?_
  refine gI_Mo_cx ok _ rfl k_994 d_Mo_oneMore_12 ?_
  refine g_sipush ok (by decide) d_Mo_oneMore_15 ?_
  refine g_bipush ok (by decide) d_Mo_oneMore_18 ?_
  refine g_iload_n ok d_Mo_oneMore_20 rfl 2 rfl ?_
  refine g_imul ok d_Mo_oneMore_21 ?_
  refine g_iadd ok d_Mo_oneMore_22 ?_
  refine g_iload ok d_Mo_oneMore_23 0 rfl ?_
  refine g_iadd ok d_Mo_oneMore_25 ?_
  refine g_iload_n ok d_Mo_oneMore_26 rfl 3 rfl ?_
  refine h_iast ok _ a_247 (by omega) d_Mo_oneMore_27 ?_
  refine g_aload_n ok d_Mo_oneMore_28 rfl 1 rfl ?_
  refine gI_Mo_cy ok _ rfl k_995 d_Mo_oneMore_29 ?_
  refine g_sipush ok (by decide) d_Mo_oneMore_32 ?_
  refine g_bipush ok (by decide) d_Mo_oneMore_35 ?_
  refine g_iload_n ok d_Mo_oneMore_37 rfl 2 rfl ?_
  refine g_imul ok d_Mo_oneMore_38 ?_
  refine g_iadd ok d_Mo_oneMore_39 ?_
  refine g_iload ok d_Mo_oneMore_40 0 rfl ?_
  refine g_iadd ok d_Mo_oneMore_42 ?_
  refine g_iload_n ok d_Mo_oneMore_43 rfl 4 rfl ?_
  refine h_iast ok _ a_248 (by omega) d_Mo_oneMore_44 ?_
  refine g_aload_n ok d_Mo_oneMore_45 rfl 1 rfl ?_
  refine gI_Mo_corners ok _ rfl k_993 d_Mo_oneMore_46 ?_
  refine g_bipush ok (by decide) d_Mo_oneMore_49 ?_
  refine g_iload_n ok d_Mo_oneMore_51 rfl 2 rfl ?_
  refine g_iadd ok d_Mo_oneMore_52 ?_
  refine g_iload ok d_Mo_oneMore_53 0 rfl ?_
  refine g_iconst ok d_Mo_oneMore_55 ?_
  refine g_iadd ok d_Mo_oneMore_56 ?_
  refine h_iast ok _ a_246 (by omega) d_Mo_oneMore_57 ?_
  refine g_iload ok d_Mo_oneMore_58 0 rfl ?_
  refine g_iconst ok d_Mo_oneMore_60 ?_
  refine g_iadd ok d_Mo_oneMore_61 ?_
  exact g_iret ok d_Mo_oneMore_62 ⟨_, _, rfl, rfl, rfl, rfl⟩
