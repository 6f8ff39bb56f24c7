/-! constructors of shape and desk -/
theorem d_Sh_init_0 : decode b_Sh_init 0 = .ok (.aload_n 0, 1) := by decide +kernel
theorem d_Sh_init_1 : decode b_Sh_init 1 = .ok (.invokespecial 3, 3) := by decide +kernel
theorem d_Sh_init_4 : decode b_Sh_init 4 = .ok (.aload_n 0, 1) := by decide +kernel
theorem d_Sh_init_5 : decode b_Sh_init 5 = .ok (.iconst 4, 1) := by decide +kernel
theorem d_Sh_init_6 : decode b_Sh_init 6 = .ok (.anewarray 9, 3) := by decide +kernel
theorem d_Sh_init_9 : decode b_Sh_init 9 = .ok (.putfield 11, 3) := by decide +kernel
theorem d_Sh_init_12 : decode b_Sh_init 12 = .ok (.aload_n 0, 1) := by decide +kernel
theorem d_Sh_init_13 : decode b_Sh_init 13 = .ok (.iconst 2, 1) := by decide +kernel
theorem d_Sh_init_14 : decode b_Sh_init 14 = .ok (.anewarray 9, 3) := by decide +kernel
theorem d_Sh_init_17 : decode b_Sh_init 17 = .ok (.putfield 17, 3) := by decide +kernel
theorem d_Sh_init_20 : decode b_Sh_init 20 = .ok (.aload_n 0, 1) := by decide +kernel
theorem d_Sh_init_21 : decode b_Sh_init 21 = .ok (.getfield 11, 3) := by decide +kernel
theorem d_Sh_init_24 : decode b_Sh_init 24 = .ok (.iconst 0, 1) := by decide +kernel
theorem d_Sh_init_25 : decode b_Sh_init 25 = .ok (.new 9, 3) := by decide +kernel
theorem d_Sh_init_28 : decode b_Sh_init 28 = .ok (.dup, 1) := by decide +kernel
theorem d_Sh_init_29 : decode b_Sh_init 29 = .ok (.bipush 32, 2) := by decide +kernel
theorem d_Sh_init_31 : decode b_Sh_init 31 = .ok (.invokespecial 20, 3) := by decide +kernel
theorem d_Sh_init_34 : decode b_Sh_init 34 = .ok (.aastore, 1) := by decide +kernel
theorem d_Sh_init_35 : decode b_Sh_init 35 = .ok (.iconst 1, 1) := by decide +kernel
theorem d_Sh_init_36 : decode b_Sh_init 36 = .ok (.istore_n 1, 1) := by decide +kernel
theorem d_Sh_init_37 : decode b_Sh_init 37 = .ok (.iload_n 1, 1) := by decide +kernel
theorem d_Sh_init_38 : decode b_Sh_init 38 = .ok (.iconst 4, 1) := by decide +kernel
theorem d_Sh_init_39 : decode b_Sh_init 39 = .ok (.if_icmp .ge 24, 3) := by decide +kernel
theorem d_Sh_init_42 : decode b_Sh_init 42 = .ok (.aload_n 0, 1) := by decide +kernel
theorem d_Sh_init_43 : decode b_Sh_init 43 = .ok (.getfield 11, 3) := by decide +kernel
theorem d_Sh_init_46 : decode b_Sh_init 46 = .ok (.iload_n 1, 1) := by decide +kernel
theorem d_Sh_init_47 : decode b_Sh_init 47 = .ok (.new 9, 3) := by decide +kernel
theorem d_Sh_init_50 : decode b_Sh_init 50 = .ok (.dup, 1) := by decide +kernel
theorem d_Sh_init_51 : decode b_Sh_init 51 = .ok (.bipush 24, 2) := by decide +kernel
theorem d_Sh_init_53 : decode b_Sh_init 53 = .ok (.invokespecial 20, 3) := by decide +kernel
theorem d_Sh_init_56 : decode b_Sh_init 56 = .ok (.aastore, 1) := by decide +kernel
theorem d_Sh_init_57 : decode b_Sh_init 57 = .ok (.iinc 1 1, 3) := by decide +kernel
theorem d_Sh_init_60 : decode b_Sh_init 60 = .ok (.goto (-23), 3) := by decide +kernel
theorem d_Sh_init_63 : decode b_Sh_init 63 = .ok (.iconst 0, 1) := by decide +kernel
theorem d_Sh_init_64 : decode b_Sh_init 64 = .ok (.istore_n 1, 1) := by decide +kernel
theorem d_Sh_init_65 : decode b_Sh_init 65 = .ok (.iload_n 1, 1) := by decide +kernel
theorem d_Sh_init_66 : decode b_Sh_init 66 = .ok (.iconst 2, 1) := by decide +kernel
theorem d_Sh_init_67 : decode b_Sh_init 67 = .ok (.if_icmp .ge 24, 3) := by decide +kernel
theorem d_Sh_init_70 : decode b_Sh_init 70 = .ok (.aload_n 0, 1) := by decide +kernel
theorem d_Sh_init_71 : decode b_Sh_init 71 = .ok (.getfield 17, 3) := by decide +kernel
theorem d_Sh_init_74 : decode b_Sh_init 74 = .ok (.iload_n 1, 1) := by decide +kernel
theorem d_Sh_init_75 : decode b_Sh_init 75 = .ok (.new 9, 3) := by decide +kernel
theorem d_Sh_init_78 : decode b_Sh_init 78 = .ok (.dup, 1) := by decide +kernel
theorem d_Sh_init_79 : decode b_Sh_init 79 = .ok (.bipush 16, 2) := by decide +kernel
theorem d_Sh_init_81 : decode b_Sh_init 81 = .ok (.invokespecial 20, 3) := by decide +kernel
theorem d_Sh_init_84 : decode b_Sh_init 84 = .ok (.aastore, 1) := by decide +kernel
theorem d_Sh_init_85 : decode b_Sh_init 85 = .ok (.iinc 1 1, 3) := by decide +kernel
theorem d_Sh_init_88 : decode b_Sh_init 88 = .ok (.goto (-23), 3) := by decide +kernel
theorem d_Sh_init_91 : decode b_Sh_init 91 = .ok (.aload_n 0, 1) := by decide +kernel
theorem d_Sh_init_92 : decode b_Sh_init 92 = .ok (.new 23, 3) := by decide +kernel
theorem d_Sh_init_95 : decode b_Sh_init 95 = .ok (.dup, 1) := by decide +kernel
theorem d_Sh_init_96 : decode b_Sh_init 96 = .ok (.invokespecial 25, 3) := by decide +kernel
theorem d_Sh_init_99 : decode b_Sh_init 99 = .ok (.putfield 26, 3) := by decide +kernel
theorem d_Sh_init_102 : decode b_Sh_init 102 = .ok (.aload_n 0, 1) := by decide +kernel
theorem d_Sh_init_103 : decode b_Sh_init 103 = .ok (.iconst 4, 1) := by decide +kernel
theorem d_Sh_init_104 : decode b_Sh_init 104 = .ok (.putfield 30, 3) := by decide +kernel
theorem d_Sh_init_107 : decode b_Sh_init 107 = .ok (.return_, 1) := by decide +kernel
set_option maxHeartbeats 1000000 in
set_option maxRecDepth 100000 in
theorem k_Sh_init (s0 : State) (a0 : Array Value) (D : va_G) (t : Nat → ClassId) (C : Nat → va_E) (k0 : Nat) (hK : isSh k0) : gK s0 a0 D t y_Sh_init b_Sh_init 2 2 41 21 (0 + 4 + 2 + 3 + (0 + 32 + 32) + 3 + (0 + 24 + 24) + 3 + (0 + 24 + 24) + 3 + (0 + 24 + 24) + 3 + (0 + 16 + 16) + 3 + (0 + 16 + 16) + 2 + 0) (k0 + 1) (va_up C k0 (.inr (1, [.null, .null, .null, .int (iI 0), .int (iI 0), .int (iI 0), .int (iI 0), .int (iI 0), .int (iI 0), .int (iI 0), .int (iI 0)]))) [.ref (adB s0 k0)] (k0 + 22) (shW s0 t C k0) := by
  refine g_startK (by decide +kernel) (Nat.le_of_ble_eq_true rfl) (fun p l e R s m args below meth c A hsz ok => ?_)
  show gW p l e R s m args below meth c _ D A 2 (gZ0 s) 0 0 (adB s0) (k0 + 1) _ 0 [(0, .ref (adB s0 k0))] []
  refine g_aload_n ok d_Sh_init_0 rfl 0 rfl ?_
  refine a_obj ok k_36 k_28 k_29 (by decide) (by decide) d_Sh_init_1 ?_
  refine g_aload_n ok d_Sh_init_4 rfl 0 rfl ?_
  refine g_iconst ok d_Sh_init_5 ?_
  refine b_refs ok (by omega) (by omega) 4 2 rfl rfl (by decide) k_37 k_38 (by decide) d_Sh_init_6 ?_
  refine b_putF (fs' := [.ref (adB s0 (k0 + 1)), .null, .null, .int (iI 0), .int (iI 0), .int (iI 0), .int (iI 0), .int (iI 0), .int (iI 0), .int (iI 0), .int (iI 0)]) ok in_Sh cl_Sh k0 (by omega) 0 (by decide) ty_Sh ok_Sh nm_Sh rfl k_83 rfl rfl rfl rfl rfl (Nat.le_of_ble_eq_true rfl) rfl d_Sh_init_9 ?_
  refine g_aload_n ok d_Sh_init_12 rfl 0 rfl ?_
  refine g_iconst ok d_Sh_init_13 ?_
  refine b_refs ok (by omega) (by omega) 2 2 rfl rfl (by decide) k_37 k_38 (by decide) d_Sh_init_14 ?_
  refine b_putF (fs' := [.ref (adB s0 (k0 + 1)), .ref (adB s0 (k0 + 2)), .null, .int (iI 0), .int (iI 0), .int (iI 0), .int (iI 0), .int (iI 0), .int (iI 0), .int (iI 0), .int (iI 0)]) ok in_Sh cl_Sh k0 (by omega) 1 (by decide) ty_Sh ok_Sh nm_Sh rfl k_88 rfl rfl rfl rfl rfl (Nat.le_of_ble_eq_true rfl) rfl d_Sh_init_17 ?_
  refine b_cong (ce' := shB s0 t C k0 (.inr (1, [.ref (adB s0 (k0 + 1)), .ref (adB s0 (k0 + 2)), .null, .int (iI 0), .int (iI 0), .int (iI 0), .int (iI 0), .int (iI 0), .int (iI 0), .int (iI 0), .int (iI 0)])) (fun _ => none) (fun _ => none)) (fun k hk => vEq.rf ?_) ?_
  · unfold va_up shB
    by_cases h0 : k = k0
    · rw [if_pos h0, if_pos h0]
    · rw [if_neg h0, if_neg h0]
      by_cases h1 : k = k0 + 1
      · rw [if_neg (by omega), if_pos h1, if_pos h1]
      · rw [if_neg h1]
        by_cases h2 : k = k0 + 1 + 1
        · rw [if_pos h2, if_neg h1, if_pos h2]
        · rw [if_neg h2, if_neg h1, if_neg h2, if_neg (by omega)]
  refine g_aload_n ok d_Sh_init_20 rfl 0 rfl ?_
  refine g_get ok in_Sh cl_Sh k0 (by omega) shB_0 0 (by decide) rfl k_83 rfl d_Sh_init_21 ?_
  refine g_iconst ok d_Sh_init_24 ?_
  refine b_new (N := 3) ok (by omega) in_Rg cl_Rg ty_Rg ok_Rg k_37 k_39 k_3 [.null, .null, .int (iI 0)] (by decide +kernel) (by decide) d_Sh_init_25 ?_
  refine g_dup ok d_Sh_init_28 rfl ?_
  refine g_bipush ok (by decide) d_Sh_init_29 ?_
  refine g_callKJN (As := [.int (iI 32)]) ok (k0 + 3) (k_Rg_init s0 a0 D t (shB s0 t C k0 (.inr (1, [.ref (adB s0 (k0 + 1)), .ref (adB s0 (k0 + 2)), .null, .int (iI 0), .int (iI 0), .int (iI 0), .int (iI 0), .int (iI 0), .int (iI 0), .int (iI 0), .int (iI 0)])) (fun _ => none) (fun _ => none)) (k0 + 3) 32 (by decide)) (by omega) k_42 k_3 k_40 k_41 rfl q_Rg_init (by decide) (Nat.le_of_ble_eq_true rfl) (by decide) d_Sh_init_31 ?_
  rw [sh_made (j := 3) (N := 32) (by decide) (by decide) (by decide)]
  refine a_ast ok (k0 + 1) (k0 + 3) (by omega) (by omega) shB_1 ((shB_j (by decide)).trans (sh_ring (by decide))) cl_Rg rfl (by decide) (by decide) d_Sh_init_34 ?_
  rw [sh_st1]
  refine g_iconst ok d_Sh_init_35 ?_
  refine g_istore_n (lv' := [(1, .int (iI 1)), (0, .ref (adB s0 k0))]) ok d_Sh_init_36 rfl (by decide) rfl ?_
  refine g_iload_n ok d_Sh_init_37 rfl 0 rfl ?_
  refine g_iconst ok d_Sh_init_38 ?_
  refine g_icmp_ge ok 63 d_Sh_init_39 (by decide) (by decide) (by decide) (fun h => absurd h (by decide)) (fun _ => ?_)
  refine g_aload_n ok d_Sh_init_42 rfl 1 rfl ?_
  refine g_get ok in_Sh cl_Sh k0 (by omega) shB_0 0 (by decide) rfl k_83 rfl d_Sh_init_43 ?_
  refine g_iload_n ok d_Sh_init_46 rfl 0 rfl ?_
  refine b_new (N := 3) ok (by omega) in_Rg cl_Rg ty_Rg ok_Rg k_37 k_39 k_3 [.null, .null, .int (iI 0)] (by decide +kernel) (by decide) d_Sh_init_47 ?_
  refine g_dup ok d_Sh_init_50 rfl ?_
  refine g_bipush ok (by decide) d_Sh_init_51 ?_
  refine g_callKJN (As := [.int (iI 24)]) ok (k0 + 6) (k_Rg_init s0 a0 D t (shB s0 t C k0 (.inr (1, [.ref (adB s0 (k0 + 1)), .ref (adB s0 (k0 + 2)), .null, .int (iI 0), .int (iI 0), .int (iI 0), .int (iI 0), .int (iI 0), .int (iI 0), .int (iI 0), .int (iI 0)])) (va_up (fun _ => none) 0 (some (adB s0 (k0 + 3)))) (fun _ => none)) (k0 + 6) 24 (by decide)) (by omega) k_42 k_3 k_40 k_41 rfl q_Rg_init (by decide) (Nat.le_of_ble_eq_true rfl) (by decide) d_Sh_init_53 ?_
  rw [sh_made (j := 6) (N := 24) (by decide) (by decide) (by decide)]
  refine a_ast ok (k0 + 1) (k0 + 6) (by omega) (by omega) shB_1 ((shB_j (by decide)).trans (sh_ring (by decide))) cl_Rg rfl (by decide) (by decide) d_Sh_init_56 ?_
  rw [sh_st1]
  refine g_iinc (lv' := [(1, .int (iI 2)), (0, .ref (adB s0 k0))]) ok d_Sh_init_57 0 rfl (by decide) rfl ?_
  refine g_goto ok 37 d_Sh_init_60 (by decide) ?_
  refine g_iload_n ok d_Sh_init_37 rfl 0 rfl ?_
  refine g_iconst ok d_Sh_init_38 ?_
  refine g_icmp_ge ok 63 d_Sh_init_39 (by decide) (by decide) (by decide) (fun h => absurd h (by decide)) (fun _ => ?_)
  refine g_aload_n ok d_Sh_init_42 rfl 1 rfl ?_
  refine g_get ok in_Sh cl_Sh k0 (by omega) shB_0 0 (by decide) rfl k_83 rfl d_Sh_init_43 ?_
  refine g_iload_n ok d_Sh_init_46 rfl 0 rfl ?_
  refine b_new (N := 3) ok (by omega) in_Rg cl_Rg ty_Rg ok_Rg k_37 k_39 k_3 [.null, .null, .int (iI 0)] (by decide +kernel) (by decide) d_Sh_init_47 ?_
  refine g_dup ok d_Sh_init_50 rfl ?_
  refine g_bipush ok (by decide) d_Sh_init_51 ?_
  refine g_callKJN (As := [.int (iI 24)]) ok (k0 + 9) (k_Rg_init s0 a0 D t (shB s0 t C k0 (.inr (1, [.ref (adB s0 (k0 + 1)), .ref (adB s0 (k0 + 2)), .null, .int (iI 0), .int (iI 0), .int (iI 0), .int (iI 0), .int (iI 0), .int (iI 0), .int (iI 0), .int (iI 0)])) (va_up (va_up (fun _ => none) 0 (some (adB s0 (k0 + 3)))) 1 (some (adB s0 (k0 + 6)))) (fun _ => none)) (k0 + 9) 24 (by decide)) (by omega) k_42 k_3 k_40 k_41 rfl q_Rg_init (by decide) (Nat.le_of_ble_eq_true rfl) (by decide) d_Sh_init_53 ?_
  rw [sh_made (j := 9) (N := 24) (by decide) (by decide) (by decide)]
  refine a_ast ok (k0 + 1) (k0 + 9) (by omega) (by omega) shB_1 ((shB_j (by decide)).trans (sh_ring (by decide))) cl_Rg rfl (by decide) (by decide) d_Sh_init_56 ?_
  rw [sh_st1]
  refine g_iinc (lv' := [(1, .int (iI 3)), (0, .ref (adB s0 k0))]) ok d_Sh_init_57 0 rfl (by decide) rfl ?_
  refine g_goto ok 37 d_Sh_init_60 (by decide) ?_
  refine g_iload_n ok d_Sh_init_37 rfl 0 rfl ?_
  refine g_iconst ok d_Sh_init_38 ?_
  refine g_icmp_ge ok 63 d_Sh_init_39 (by decide) (by decide) (by decide) (fun h => absurd h (by decide)) (fun _ => ?_)
  refine g_aload_n ok d_Sh_init_42 rfl 1 rfl ?_
  refine g_get ok in_Sh cl_Sh k0 (by omega) shB_0 0 (by decide) rfl k_83 rfl d_Sh_init_43 ?_
  refine g_iload_n ok d_Sh_init_46 rfl 0 rfl ?_
  refine b_new (N := 3) ok (by omega) in_Rg cl_Rg ty_Rg ok_Rg k_37 k_39 k_3 [.null, .null, .int (iI 0)] (by decide +kernel) (by decide) d_Sh_init_47 ?_
  refine g_dup ok d_Sh_init_50 rfl ?_
  refine g_bipush ok (by decide) d_Sh_init_51 ?_
  refine g_callKJN (As := [.int (iI 24)]) ok (k0 + 12) (k_Rg_init s0 a0 D t (shB s0 t C k0 (.inr (1, [.ref (adB s0 (k0 + 1)), .ref (adB s0 (k0 + 2)), .null, .int (iI 0), .int (iI 0), .int (iI 0), .int (iI 0), .int (iI 0), .int (iI 0), .int (iI 0), .int (iI 0)])) (va_up (va_up (va_up (fun _ => none) 0 (some (adB s0 (k0 + 3)))) 1 (some (adB s0 (k0 + 6)))) 2 (some (adB s0 (k0 + 9)))) (fun _ => none)) (k0 + 12) 24 (by decide)) (by omega) k_42 k_3 k_40 k_41 rfl q_Rg_init (by decide) (Nat.le_of_ble_eq_true rfl) (by decide) d_Sh_init_53 ?_
  rw [sh_made (j := 12) (N := 24) (by decide) (by decide) (by decide)]
  refine a_ast ok (k0 + 1) (k0 + 12) (by omega) (by omega) shB_1 ((shB_j (by decide)).trans (sh_ring (by decide))) cl_Rg rfl (by decide) (by decide) d_Sh_init_56 ?_
  rw [sh_st1]
  refine g_iinc (lv' := [(1, .int (iI 4)), (0, .ref (adB s0 k0))]) ok d_Sh_init_57 0 rfl (by decide) rfl ?_
  refine g_goto ok 37 d_Sh_init_60 (by decide) ?_
  refine g_iload_n ok d_Sh_init_37 rfl 0 rfl ?_
  refine g_iconst ok d_Sh_init_38 ?_
  refine g_icmp_ge ok 63 d_Sh_init_39 (by decide) (by decide) (by decide) (fun _ => ?_) (fun h => absurd (show (4 : Int) ≤ 4 by decide) h)
  refine g_iconst ok d_Sh_init_63 ?_
  refine g_istore_n (lv' := [(1, .int (iI 0)), (0, .ref (adB s0 k0))]) ok d_Sh_init_64 rfl (by decide) rfl ?_
  refine g_iload_n ok d_Sh_init_65 rfl 0 rfl ?_
  refine g_iconst ok d_Sh_init_66 ?_
  refine g_icmp_ge ok 91 d_Sh_init_67 (by decide) (by decide) (by decide) (fun h => absurd h (by decide)) (fun _ => ?_)
  refine g_aload_n ok d_Sh_init_70 rfl 1 rfl ?_
  refine g_get ok in_Sh cl_Sh k0 (by omega) shB_0 1 (by decide) rfl k_88 rfl d_Sh_init_71 ?_
  refine g_iload_n ok d_Sh_init_74 rfl 0 rfl ?_
  refine b_new (N := 3) ok (by omega) in_Rg cl_Rg ty_Rg ok_Rg k_37 k_39 k_3 [.null, .null, .int (iI 0)] (by decide +kernel) (by decide) d_Sh_init_75 ?_
  refine g_dup ok d_Sh_init_78 rfl ?_
  refine g_bipush ok (by decide) d_Sh_init_79 ?_
  refine g_callKJN (As := [.int (iI 16)]) ok (k0 + 15) (k_Rg_init s0 a0 D t (shB s0 t C k0 (.inr (1, [.ref (adB s0 (k0 + 1)), .ref (adB s0 (k0 + 2)), .null, .int (iI 0), .int (iI 0), .int (iI 0), .int (iI 0), .int (iI 0), .int (iI 0), .int (iI 0), .int (iI 0)])) (va_up (va_up (va_up (va_up (fun _ => none) 0 (some (adB s0 (k0 + 3)))) 1 (some (adB s0 (k0 + 6)))) 2 (some (adB s0 (k0 + 9)))) 3 (some (adB s0 (k0 + 12)))) (fun _ => none)) (k0 + 15) 16 (by decide)) (by omega) k_42 k_3 k_40 k_41 rfl q_Rg_init (by decide) (Nat.le_of_ble_eq_true rfl) (by decide) d_Sh_init_81 ?_
  rw [sh_made (j := 15) (N := 16) (by decide) (by decide) (by decide)]
  refine a_ast ok (k0 + 2) (k0 + 15) (by omega) (by omega) shB_2 ((shB_j (by decide)).trans (sh_ring (by decide))) cl_Rg rfl (by decide) (by decide) d_Sh_init_84 ?_
  rw [sh_st2]
  refine g_iinc (lv' := [(1, .int (iI 1)), (0, .ref (adB s0 k0))]) ok d_Sh_init_85 0 rfl (by decide) rfl ?_
  refine g_goto ok 65 d_Sh_init_88 (by decide) ?_
  refine g_iload_n ok d_Sh_init_65 rfl 0 rfl ?_
  refine g_iconst ok d_Sh_init_66 ?_
  refine g_icmp_ge ok 91 d_Sh_init_67 (by decide) (by decide) (by decide) (fun h => absurd h (by decide)) (fun _ => ?_)
  refine g_aload_n ok d_Sh_init_70 rfl 1 rfl ?_
  refine g_get ok in_Sh cl_Sh k0 (by omega) shB_0 1 (by decide) rfl k_88 rfl d_Sh_init_71 ?_
  refine g_iload_n ok d_Sh_init_74 rfl 0 rfl ?_
  refine b_new (N := 3) ok (by omega) in_Rg cl_Rg ty_Rg ok_Rg k_37 k_39 k_3 [.null, .null, .int (iI 0)] (by decide +kernel) (by decide) d_Sh_init_75 ?_
  refine g_dup ok d_Sh_init_78 rfl ?_
  refine g_bipush ok (by decide) d_Sh_init_79 ?_
  refine g_callKJN (As := [.int (iI 16)]) ok (k0 + 18) (k_Rg_init s0 a0 D t (shB s0 t C k0 (.inr (1, [.ref (adB s0 (k0 + 1)), .ref (adB s0 (k0 + 2)), .null, .int (iI 0), .int (iI 0), .int (iI 0), .int (iI 0), .int (iI 0), .int (iI 0), .int (iI 0), .int (iI 0)])) (va_up (va_up (va_up (va_up (fun _ => none) 0 (some (adB s0 (k0 + 3)))) 1 (some (adB s0 (k0 + 6)))) 2 (some (adB s0 (k0 + 9)))) 3 (some (adB s0 (k0 + 12)))) (va_up (fun _ => none) 0 (some (adB s0 (k0 + 15))))) (k0 + 18) 16 (by decide)) (by omega) k_42 k_3 k_40 k_41 rfl q_Rg_init (by decide) (Nat.le_of_ble_eq_true rfl) (by decide) d_Sh_init_81 ?_
  rw [sh_made (j := 18) (N := 16) (by decide) (by decide) (by decide)]
  refine a_ast ok (k0 + 2) (k0 + 18) (by omega) (by omega) shB_2 ((shB_j (by decide)).trans (sh_ring (by decide))) cl_Rg rfl (by decide) (by decide) d_Sh_init_84 ?_
  rw [sh_st2]
  refine g_iinc (lv' := [(1, .int (iI 2)), (0, .ref (adB s0 k0))]) ok d_Sh_init_85 0 rfl (by decide) rfl ?_
  refine g_goto ok 65 d_Sh_init_88 (by decide) ?_
  refine g_iload_n ok d_Sh_init_65 rfl 0 rfl ?_
  refine g_iconst ok d_Sh_init_66 ?_
  refine g_icmp_ge ok 91 d_Sh_init_67 (by decide) (by decide) (by decide) (fun _ => ?_) (fun h => absurd (show (2 : Int) ≤ 2 by decide) h)
  refine g_aload_n ok d_Sh_init_91 rfl 1 rfl ?_
  refine b_new (N := 2) ok (by omega) in_Ty cl_Ty ty_Ty ok_Ty k_68 k_69 k_4 [.int (iI 0), .int (iI 0)] (by decide +kernel) (by decide) d_Sh_init_92 ?_
  refine g_dup ok d_Sh_init_95 rfl ?_
  refine g_callKJN (As := []) ok (k0 + 21) (k_Ty_init s0 a0 D t (shB s0 t C k0 (.inr (1, [.ref (adB s0 (k0 + 1)), .ref (adB s0 (k0 + 2)), .null, .int (iI 0), .int (iI 0), .int (iI 0), .int (iI 0), .int (iI 0), .int (iI 0), .int (iI 0), .int (iI 0)])) (va_up (va_up (va_up (va_up (fun _ => none) 0 (some (adB s0 (k0 + 3)))) 1 (some (adB s0 (k0 + 6)))) 2 (some (adB s0 (k0 + 9)))) 3 (some (adB s0 (k0 + 12)))) (va_up (va_up (fun _ => none) 0 (some (adB s0 (k0 + 15)))) 1 (some (adB s0 (k0 + 18))))) (k0 + 21)) (by omega) k_72 k_4 k_70 k_71 rfl q_Ty_init (by decide) (Nat.le_of_ble_eq_true rfl) (by decide) d_Sh_init_96 ?_
  rw [sh_ty hK]
  rw [← sh_ob (ob := (.inr (1, [.null, .null, .null, .int (iI 0), .int (iI 0), .int (iI 0), .int (iI 0), .int (iI 0), .int (iI 0), .int (iI 0), .int (iI 0)]))) (ob' := (.inr (1, [.ref (adB s0 (k0 + 1)), .ref (adB s0 (k0 + 2)), .null, .int (iI 0), .int (iI 0), .int (iI 0), .int (iI 0), .int (iI 0), .int (iI 0), .int (iI 0), .int (iI 0)])))]
  refine b_putF (fs' := [.ref (adB s0 (k0 + 1)), .ref (adB s0 (k0 + 2)), .ref (adB s0 (k0 + 21)), .int (iI 0), .int (iI 0), .int (iI 0), .int (iI 0), .int (iI 0), .int (iI 0), .int (iI 0), .int (iI 0)]) ok in_Sh cl_Sh k0 (by omega) 2 (by decide) ty_Sh ok_Sh nm_Sh rfl k_92 rfl rfl rfl rfl rfl (Nat.le_of_ble_eq_true rfl) rfl d_Sh_init_99 ?_
  rw [sh_ob]
  refine g_aload_n ok d_Sh_init_102 rfl 1 rfl ?_
  refine g_iconst ok d_Sh_init_103 ?_
  rw [← sh_ob (ob := (.inr (1, [.null, .null, .null, .int (iI 0), .int (iI 0), .int (iI 0), .int (iI 0), .int (iI 0), .int (iI 0), .int (iI 0), .int (iI 0)]))) (ob' := (.inr (1, [.ref (adB s0 (k0 + 1)), .ref (adB s0 (k0 + 2)), .ref (adB s0 (k0 + 21)), .int (iI 0), .int (iI 0), .int (iI 0), .int (iI 0), .int (iI 0), .int (iI 0), .int (iI 0), .int (iI 0)])))]
  refine b_put (fs' := [.ref (adB s0 (k0 + 1)), .ref (adB s0 (k0 + 2)), .ref (adB s0 (k0 + 21)), .int (iI 0), .int (iI 0), .int (iI 4), .int (iI 0), .int (iI 0), .int (iI 0), .int (iI 0), .int (iI 0)]) ok in_Sh cl_Sh k0 (by omega) 5 (by decide) ty_Sh ok_Sh nm_Sh rfl k_102 rfl rfl rfl (Nat.le_of_ble_eq_true rfl) rfl d_Sh_init_104 ?_
  rw [sh_ob]
  refine b_cong (ce' := shW s0 t C k0) (fun k hk => sh_done hK (fun j hj => ?_) (fun j hj => ?_) k) ?_
  · rcases (show j = 0 ∨ j = 1 ∨ j = 2 ∨ j = 3 by omega) with h | h | h | h <;> subst h <;> rfl
  · rcases (show j = 0 ∨ j = 1 by omega) with h | h <;> subst h <;> rfl
  exact g_kret ok d_Sh_init_107
