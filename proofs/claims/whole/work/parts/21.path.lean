theorem d_Pa_dx_0 : decode b_Pa_dx 0 = .ok (.aload_n 0, 1) := by decide +kernel
theorem d_Pa_dx_1 : decode b_Pa_dx 1 = .ok (.getfield 9, 3) := by decide +kernel
theorem d_Pa_dx_4 : decode b_Pa_dx 4 = .ok (.iload_n 1, 1) := by decide +kernel
theorem d_Pa_dx_5 : decode b_Pa_dx 5 = .ok (.iaload, 1) := by decide +kernel
theorem d_Pa_dx_6 : decode b_Pa_dx 6 = .ok (.sipush 255, 3) := by decide +kernel
theorem d_Pa_dx_9 : decode b_Pa_dx 9 = .ok (.iand, 1) := by decide +kernel
theorem d_Pa_dx_10 : decode b_Pa_dx 10 = .ok (.sipush 128, 3) := by decide +kernel
theorem d_Pa_dx_13 : decode b_Pa_dx 13 = .ok (.isub, 1) := by decide +kernel
theorem d_Pa_dx_14 : decode b_Pa_dx 14 = .ok (.ireturn, 1) := by decide +kernel
set_option maxHeartbeats 4000000 in
set_option maxRecDepth 100000 in
theorem c_Pa_dx (F : Nat → Nat → Int) (G : Nat → Int → Int) (i : Int) (hi : 0 ≤ i ∧ i < 4000) (hc : 0 ≤ G 237 i ∧ G 237 i < 262144) : cP y_Pa_dx b_Pa_dx 2 (some .int) 0 0 F G (fun ad => [.ref (ad 236), .int (iI i)]) (fun r => r = G 237 i % 256 - 128) := by
  intro s0 a0 D t ad
  refine g_startP (by decide +kernel) (Nat.le_of_ble_eq_true rfl) (fun p l e R s m args below meth c A ok => ?_)
  show gW p l e R s m args below meth c _ D A 2 (gZ0 s) 0 0 ad 265 (mem ad t F G) 0 [(0, .ref (ad 236)), (1, .int (iI i))] []
  refine g_aload_n ok d_Pa_dx_0 rfl 0 rfl ?_
  refine gI_Pa_codes ok _ rfl k_256 d_Pa_dx_1 ?_
  refine g_iload_n ok d_Pa_dx_4 rfl 1 rfl ?_
  refine h_iald ok _ a_237 (by omega) d_Pa_dx_5 ?_
  refine g_sipush ok (by decide) d_Pa_dx_6 ?_
  refine g_iand (z := (G 237 i) % 256) ok (iI_mask 8 (by omega) (by decide) (by decide)) d_Pa_dx_9 ?_
  refine g_sipush ok (by decide) d_Pa_dx_10 ?_
  refine g_isub ok d_Pa_dx_13 ?_
  exact g_ipret ok d_Pa_dx_14 (rfl)
theorem d_Pa_dy_0 : decode b_Pa_dy 0 = .ok (.aload_n 0, 1) := by decide +kernel
theorem d_Pa_dy_1 : decode b_Pa_dy 1 = .ok (.getfield 9, 3) := by decide +kernel
theorem d_Pa_dy_4 : decode b_Pa_dy 4 = .ok (.iload_n 1, 1) := by decide +kernel
theorem d_Pa_dy_5 : decode b_Pa_dy 5 = .ok (.iaload, 1) := by decide +kernel
theorem d_Pa_dy_6 : decode b_Pa_dy 6 = .ok (.bipush 8, 2) := by decide +kernel
theorem d_Pa_dy_8 : decode b_Pa_dy 8 = .ok (.ishr, 1) := by decide +kernel
theorem d_Pa_dy_9 : decode b_Pa_dy 9 = .ok (.sipush 255, 3) := by decide +kernel
theorem d_Pa_dy_12 : decode b_Pa_dy 12 = .ok (.iand, 1) := by decide +kernel
theorem d_Pa_dy_13 : decode b_Pa_dy 13 = .ok (.sipush 128, 3) := by decide +kernel
theorem d_Pa_dy_16 : decode b_Pa_dy 16 = .ok (.isub, 1) := by decide +kernel
theorem d_Pa_dy_17 : decode b_Pa_dy 17 = .ok (.ireturn, 1) := by decide +kernel
set_option maxHeartbeats 4000000 in
set_option maxRecDepth 100000 in
theorem c_Pa_dy (F : Nat → Nat → Int) (G : Nat → Int → Int) (i : Int) (hi : 0 ≤ i ∧ i < 4000) (hc : 0 ≤ G 237 i ∧ G 237 i < 262144) : cP y_Pa_dy b_Pa_dy 2 (some .int) 0 0 F G (fun ad => [.ref (ad 236), .int (iI i)]) (fun r => r = G 237 i / 256 % 256 - 128) := by
  intro s0 a0 D t ad
  refine g_startP (by decide +kernel) (Nat.le_of_ble_eq_true rfl) (fun p l e R s m args below meth c A ok => ?_)
  show gW p l e R s m args below meth c _ D A 2 (gZ0 s) 0 0 ad 265 (mem ad t F G) 0 [(0, .ref (ad 236)), (1, .int (iI i))] []
  refine g_aload_n ok d_Pa_dy_0 rfl 0 rfl ?_
  refine gI_Pa_codes ok _ rfl k_256 d_Pa_dy_1 ?_
  refine g_iload_n ok d_Pa_dy_4 rfl 1 rfl ?_
  refine h_iald ok _ a_237 (by omega) d_Pa_dy_5 ?_
  refine g_bipush ok (by decide) d_Pa_dy_6 ?_
  refine g_ishr (z := (G 237 i) / 256) ok (iI_shr 8 (by decide) (by omega) rfl) d_Pa_dy_8 ?_
  refine g_sipush ok (by decide) d_Pa_dy_9 ?_
  refine g_iand (z := ((G 237 i) / 256) % 256) ok (iI_mask 8 (by omega) (by decide) (by decide)) d_Pa_dy_12 ?_
  refine g_sipush ok (by decide) d_Pa_dy_13 ?_
  refine g_isub ok d_Pa_dy_16 ?_
  exact g_ipret ok d_Pa_dy_17 (rfl)
theorem d_Pa_kind_0 : decode b_Pa_kind 0 = .ok (.aload_n 0, 1) := by decide +kernel
theorem d_Pa_kind_1 : decode b_Pa_kind 1 = .ok (.getfield 9, 3) := by decide +kernel
theorem d_Pa_kind_4 : decode b_Pa_kind 4 = .ok (.iload_n 1, 1) := by decide +kernel
theorem d_Pa_kind_5 : decode b_Pa_kind 5 = .ok (.iaload, 1) := by decide +kernel
theorem d_Pa_kind_6 : decode b_Pa_kind 6 = .ok (.bipush 16, 2) := by decide +kernel
theorem d_Pa_kind_8 : decode b_Pa_kind 8 = .ok (.ishr, 1) := by decide +kernel
theorem d_Pa_kind_9 : decode b_Pa_kind 9 = .ok (.ireturn, 1) := by decide +kernel
set_option maxHeartbeats 4000000 in
set_option maxRecDepth 100000 in
theorem c_Pa_kind (F : Nat → Nat → Int) (G : Nat → Int → Int) (i : Int) (hi : 0 ≤ i ∧ i < 4000) (hc : 0 ≤ G 237 i ∧ G 237 i < 262144) : cP y_Pa_kind b_Pa_kind 2 (some .int) 0 0 F G (fun ad => [.ref (ad 236), .int (iI i)]) (fun r => r = G 237 i / 65536) := by
  intro s0 a0 D t ad
  refine g_startP (by decide +kernel) (Nat.le_of_ble_eq_true rfl) (fun p l e R s m args below meth c A ok => ?_)
  show gW p l e R s m args below meth c _ D A 2 (gZ0 s) 0 0 ad 265 (mem ad t F G) 0 [(0, .ref (ad 236)), (1, .int (iI i))] []
  refine g_aload_n ok d_Pa_kind_0 rfl 0 rfl ?_
  refine gI_Pa_codes ok _ rfl k_256 d_Pa_kind_1 ?_
  refine g_iload_n ok d_Pa_kind_4 rfl 1 rfl ?_
  refine h_iald ok _ a_237 (by omega) d_Pa_kind_5 ?_
  refine g_bipush ok (by decide) d_Pa_kind_6 ?_
  refine g_ishr (z := (G 237 i) / 65536) ok (iI_shr 16 (by decide) (by omega) rfl) d_Pa_kind_8 ?_
  exact g_ipret ok d_Pa_kind_9 (rfl)
theorem d_Pa_clear_0 : decode b_Pa_clear 0 = .ok (.aload_n 0, 1) := by decide +kernel
theorem d_Pa_clear_1 : decode b_Pa_clear 1 = .ok (.iconst 0, 1) := by decide +kernel
theorem d_Pa_clear_2 : decode b_Pa_clear 2 = .ok (.putfield 15, 3) := by decide +kernel
theorem d_Pa_clear_5 : decode b_Pa_clear 5 = .ok (.aload_n 0, 1) := by decide +kernel
theorem d_Pa_clear_6 : decode b_Pa_clear 6 = .ok (.iconst 0, 1) := by decide +kernel
theorem d_Pa_clear_7 : decode b_Pa_clear 7 = .ok (.putfield 19, 3) := by decide +kernel
theorem d_Pa_clear_10 : decode b_Pa_clear 10 = .ok (.return_, 1) := by decide +kernel
set_option maxHeartbeats 4000000 in
set_option maxRecDepth 100000 in
theorem c_Pa_clear (F : Nat → Nat → Int) (G : Nat → Int → Int) : cV y_Pa_clear b_Pa_clear 1 none 0 0 F G (fun ad => [.ref (ad 236)]) (fun F' G' => F' = fU (fU F 236 1 0) 236 2 0 ∧ G' = G) := by
  intro s0 a0 D t ad
  refine g_startV (by decide +kernel) (Nat.le_of_ble_eq_true rfl) (fun p l e R s m args below meth c A ok => ?_)
  show gW p l e R s m args below meth c _ D A 1 (gZ0 s) 0 0 ad 265 (mem ad t F G) 0 [(0, .ref (ad 236))] []
  refine g_aload_n ok d_Pa_clear_0 rfl 0 rfl ?_
  refine g_iconst ok d_Pa_clear_1 ?_
  refine pI_Pa_size ok _ rfl k_257 d_Pa_clear_2 ?_
  refine g_aload_n ok d_Pa_clear_5 rfl 0 rfl ?_
  refine g_iconst ok d_Pa_clear_6 ?_
  refine pI_Pa_overfull ok _ rfl k_259 (by first | exact Or.inl rfl | exact Or.inr rfl | omega) d_Pa_clear_7 ?_
  exact g_vret ok d_Pa_clear_10 ⟨_, _, rfl, rfl, rfl⟩
theorem d_Pa_add_0 : decode b_Pa_add 0 = .ok (.aload_n 0, 1) := by decide +kernel
theorem d_Pa_add_1 : decode b_Pa_add 1 = .ok (.getfield 15, 3) := by decide +kernel
theorem d_Pa_add_4 : decode b_Pa_add 4 = .ok (.sipush 4000, 3) := by decide +kernel
theorem d_Pa_add_7 : decode b_Pa_add 7 = .ok (.if_icmp .lt 9, 3) := by decide +kernel
theorem d_Pa_add_10 : decode b_Pa_add 10 = .ok (.aload_n 0, 1) := by decide +kernel
theorem d_Pa_add_11 : decode b_Pa_add 11 = .ok (.iconst 1, 1) := by decide +kernel
theorem d_Pa_add_12 : decode b_Pa_add 12 = .ok (.putfield 19, 3) := by decide +kernel
theorem d_Pa_add_15 : decode b_Pa_add 15 = .ok (.return_, 1) := by decide +kernel
theorem d_Pa_add_16 : decode b_Pa_add 16 = .ok (.aload_n 0, 1) := by decide +kernel
theorem d_Pa_add_17 : decode b_Pa_add 17 = .ok (.getfield 9, 3) := by decide +kernel
theorem d_Pa_add_20 : decode b_Pa_add 20 = .ok (.aload_n 0, 1) := by decide +kernel
theorem d_Pa_add_21 : decode b_Pa_add 21 = .ok (.getfield 15, 3) := by decide +kernel
theorem d_Pa_add_24 : decode b_Pa_add 24 = .ok (.iload_n 3, 1) := by decide +kernel
theorem d_Pa_add_25 : decode b_Pa_add 25 = .ok (.bipush 16, 2) := by decide +kernel
theorem d_Pa_add_27 : decode b_Pa_add 27 = .ok (.ishl, 1) := by decide +kernel
theorem d_Pa_add_28 : decode b_Pa_add 28 = .ok (.iload_n 2, 1) := by decide +kernel
theorem d_Pa_add_29 : decode b_Pa_add 29 = .ok (.sipush 128, 3) := by decide +kernel
theorem d_Pa_add_32 : decode b_Pa_add 32 = .ok (.iadd, 1) := by decide +kernel
theorem d_Pa_add_33 : decode b_Pa_add 33 = .ok (.bipush 8, 2) := by decide +kernel
theorem d_Pa_add_35 : decode b_Pa_add 35 = .ok (.ishl, 1) := by decide +kernel
theorem d_Pa_add_36 : decode b_Pa_add 36 = .ok (.ior, 1) := by decide +kernel
theorem d_Pa_add_37 : decode b_Pa_add 37 = .ok (.iload_n 1, 1) := by decide +kernel
theorem d_Pa_add_38 : decode b_Pa_add 38 = .ok (.sipush 128, 3) := by decide +kernel
theorem d_Pa_add_41 : decode b_Pa_add 41 = .ok (.iadd, 1) := by decide +kernel
theorem d_Pa_add_42 : decode b_Pa_add 42 = .ok (.ior, 1) := by decide +kernel
theorem d_Pa_add_43 : decode b_Pa_add 43 = .ok (.iastore, 1) := by decide +kernel
theorem d_Pa_add_44 : decode b_Pa_add 44 = .ok (.aload_n 0, 1) := by decide +kernel
theorem d_Pa_add_45 : decode b_Pa_add 45 = .ok (.dup, 1) := by decide +kernel
theorem d_Pa_add_46 : decode b_Pa_add 46 = .ok (.getfield 15, 3) := by decide +kernel
theorem d_Pa_add_49 : decode b_Pa_add 49 = .ok (.iconst 1, 1) := by decide +kernel
theorem d_Pa_add_50 : decode b_Pa_add 50 = .ok (.iadd, 1) := by decide +kernel
theorem d_Pa_add_51 : decode b_Pa_add 51 = .ok (.putfield 15, 3) := by decide +kernel
theorem d_Pa_add_54 : decode b_Pa_add 54 = .ok (.return_, 1) := by decide +kernel
set_option maxHeartbeats 4000000 in
set_option maxRecDepth 100000 in
theorem c_Pa_add (F : Nat → Nat → Int) (G : Nat → Int → Int) (x y z : Int) (hs : 0 ≤ F 236 1 ∧ F 236 1 ≤ 4000) (hx : -128 ≤ x ∧ x < 128) (hy : -128 ≤ y ∧ y < 128) (hz : 0 ≤ z ∧ z < 4) : cV y_Pa_add b_Pa_add 4 none 0 0 F G (fun ad => [.ref (ad 236), .int (iI x), .int (iI y), .int (iI z)]) (fun F' G' => F' = (if F 236 1 < 4000 then fU F 236 1 (F 236 1 + 1) else fU F 236 2 1) ∧ G' = (if F 236 1 < 4000 then gU G 237 (F 236 1) (z * 65536 + (y + 128) * 256 + (x + 128)) else G)) := by
  intro s0 a0 D t ad
  refine g_startV (by decide +kernel) (Nat.le_of_ble_eq_true rfl) (fun p l e R s m args below meth c A ok => ?_)
  show gW p l e R s m args below meth c _ D A 4 (gZ0 s) 0 0 ad 265 (mem ad t F G) 0 [(0, .ref (ad 236)), (1, .int (iI x)), (2, .int (iI y)), (3, .int (iI z))] []
  refine g_aload_n ok d_Pa_add_0 rfl 0 rfl ?_
  refine gI_Pa_size ok _ rfl k_257 d_Pa_add_1 ?_
  refine g_sipush ok (by decide) d_Pa_add_4 ?_
  refine g_icmp_lt ok 16 d_Pa_add_7 (by decide) (by omega) (by omega) (fun h1 => ?_) (fun h1 => ?_)
  · refine g_aload_n ok d_Pa_add_16 rfl 0 rfl ?_
    refine gI_Pa_codes ok _ rfl k_256 d_Pa_add_17 ?_
    refine g_aload_n ok d_Pa_add_20 rfl 0 rfl ?_
    refine gI_Pa_size ok _ rfl k_257 d_Pa_add_21 ?_
    refine g_iload_n ok d_Pa_add_24 rfl 3 rfl ?_
    refine g_bipush ok (by decide) d_Pa_add_25 ?_
    refine g_ishl (z := z * 65536) ok (iI_shl 16 (by decide) (by omega) (by omega) rfl) d_Pa_add_27 ?_
    refine g_iload_n ok d_Pa_add_28 rfl 2 rfl ?_
    refine g_sipush ok (by decide) d_Pa_add_29 ?_
    refine g_iadd ok d_Pa_add_32 ?_
    refine g_bipush ok (by decide) d_Pa_add_33 ?_
    refine g_ishl (z := (y + 128) * 256) ok (iI_shl 8 (by decide) (by omega) (by omega) rfl) d_Pa_add_35 ?_
    refine g_ior (z := z * 65536 + (y + 128) * 256) ok (iI_or (a := z) 16 (by omega) (by omega)) d_Pa_add_36 ?_
    refine g_iload_n ok d_Pa_add_37 rfl 1 rfl ?_
    refine g_sipush ok (by decide) d_Pa_add_38 ?_
    refine g_iadd ok d_Pa_add_41 ?_
    refine g_ior (z := z * 65536 + (y + 128) * 256 + (x + 128)) ok (by have h := iI_or (a := z * 256 + (y + 128)) (b := x + 128) 8 (by omega) (by omega); rw [show (z * 256 + (y + 128)) * 2 ^ 8 = z * 65536 + (y + 128) * 256 by omega] at h; exact h) d_Pa_add_42 ?_
    refine h_iast ok _ a_237 (by omega) d_Pa_add_43 ?_
    refine g_aload_n ok d_Pa_add_44 rfl 0 rfl ?_
    refine g_dup ok d_Pa_add_45 rfl ?_
    refine gI_Pa_size ok _ rfl k_257 d_Pa_add_46 ?_
    refine g_iconst ok d_Pa_add_49 ?_
    refine g_iadd ok d_Pa_add_50 ?_
    refine pI_Pa_size ok _ rfl k_257 d_Pa_add_51 ?_
    exact g_vret ok d_Pa_add_54 ⟨_, _, rfl, by rw [if_pos (by omega)], by rw [if_pos (by omega)]⟩
  · refine g_aload_n ok d_Pa_add_10 rfl 0 rfl ?_
    refine g_iconst ok d_Pa_add_11 ?_
    refine pI_Pa_overfull ok _ rfl k_259 (by first | exact Or.inl rfl | exact Or.inr rfl | omega) d_Pa_add_12 ?_
    exact g_vret ok d_Pa_add_15 ⟨_, _, rfl, by rw [if_neg (by omega)], by rw [if_neg (by omega)]⟩
theorem d_Dk_along_0 : decode b_Dk_along 0 = .ok (.iload_n 3, 1) := by decide +kernel
theorem d_Dk_along_1 : decode b_Dk_along 1 = .ok (.iconst 1, 1) := by decide +kernel
theorem d_Dk_along_2 : decode b_Dk_along 2 = .ok (.if_icmp .ge 7, 3) := by decide +kernel
theorem d_Dk_along_5 : decode b_Dk_along 5 = .ok (.iload_n 0, 1) := by decide +kernel
theorem d_Dk_along_6 : decode b_Dk_along 6 = .ok (.goto 14, 3) := by decide +kernel
theorem d_Dk_along_9 : decode b_Dk_along 9 = .ok (.iload_n 0, 1) := by decide +kernel
theorem d_Dk_along_10 : decode b_Dk_along 10 = .ok (.iload_n 2, 1) := by decide +kernel
theorem d_Dk_along_11 : decode b_Dk_along 11 = .ok (.iload_n 1, 1) := by decide +kernel
theorem d_Dk_along_12 : decode b_Dk_along 12 = .ok (.iload_n 0, 1) := by decide +kernel
theorem d_Dk_along_13 : decode b_Dk_along 13 = .ok (.isub, 1) := by decide +kernel
theorem d_Dk_along_14 : decode b_Dk_along 14 = .ok (.imul, 1) := by decide +kernel
theorem d_Dk_along_15 : decode b_Dk_along 15 = .ok (.iload_n 3, 1) := by decide +kernel
theorem d_Dk_along_16 : decode b_Dk_along 16 = .ok (.invokestatic 256, 3) := by decide +kernel
theorem d_Dk_along_19 : decode b_Dk_along 19 = .ok (.iadd, 1) := by decide +kernel
theorem d_Dk_along_20 : decode b_Dk_along 20 = .ok (.ireturn, 1) := by decide +kernel
set_option maxHeartbeats 4000000 in
set_option maxRecDepth 100000 in
theorem c_Dk_along (F : Nat → Nat → Int) (G : Nat → Int → Int) (a b k n : Int) (ha : 0 ≤ a ∧ a ≤ 600) (hb : 0 ≤ b ∧ b ≤ 600) (hk : 0 ≤ k ∧ k ≤ 1000) (hn : 0 ≤ n ∧ n ≤ 1000) (hm : -2147483648 ≤ k * (b - a) ∧ k * (b - a) < 2147483648) : cP y_Dk_along b_Dk_along 4 (some .int) 1 22 F G (fun ad => [.int (iI a), .int (iI b), .int (iI k), .int (iI n)]) (fun r => r = if n < 1 then a else a + k * (b - a) / n) := by
  intro s0 a0 D t ad
  refine g_startP (by decide +kernel) (Nat.le_of_ble_eq_true rfl) (fun p l e R s m args below meth c A ok => ?_)
  show gW p l e R s m args below meth c _ D A 4 (gZ0 s) 0 0 ad 265 (mem ad t F G) 0 [(0, .int (iI a)), (1, .int (iI b)), (2, .int (iI k)), (3, .int (iI n))] []
  refine g_iload_n ok d_Dk_along_0 rfl 3 rfl ?_
  refine g_iconst ok d_Dk_along_1 ?_
  refine g_icmp_ge ok 9 d_Dk_along_2 (by decide) (by omega) (by omega) (fun h1 => ?_) (fun h1 => ?_)
  · refine g_iload_n ok d_Dk_along_9 rfl 0 rfl ?_
    refine g_iload_n ok d_Dk_along_10 rfl 2 rfl ?_
    refine g_iload_n ok d_Dk_along_11 rfl 1 rfl ?_
    refine g_iload_n ok d_Dk_along_12 rfl 0 rfl ?_
    refine g_isub ok d_Dk_along_13 ?_
    refine g_imul ok d_Dk_along_14 ?_
    refine g_iload_n ok d_Dk_along_15 rfl 3 rfl ?_
    refine g_callPS (As := [.int (iI (k * (b - a))), .int (iI n)]) (st := [.int (iI a)]) ok (c_Ma_floorDiv F G (k * (b - a)) (n) (by omega) (by omega) s0 a0 D t ad) k_388 k_18 k_499 k_387 q_Ma_floorDiv (by decide) (Nat.le_of_ble_eq_true rfl) (by decide) d_Dk_along_16 (fun z2 hc2 => ?_)
    subst hc2
    refine g_iadd ok d_Dk_along_19 ?_
    exact g_ipret ok d_Dk_along_20 (by rw [if_neg (by omega)])
  · refine g_iload_n ok d_Dk_along_5 rfl 0 rfl ?_
    refine g_goto ok 20 d_Dk_along_6 (by decide) ?_
    exact g_ipret ok d_Dk_along_20 (by rw [if_pos (by omega)])
theorem d_Dk_groupAt_0 : decode b_Dk_groupAt 0 = .ok (.iload_n 1, 1) := by decide +kernel
theorem d_Dk_groupAt_1 : decode b_Dk_groupAt 1 = .ok (.ifCond .lt 12, 3) := by decide +kernel
theorem d_Dk_groupAt_4 : decode b_Dk_groupAt 4 = .ok (.iload_n 1, 1) := by decide +kernel
theorem d_Dk_groupAt_5 : decode b_Dk_groupAt 5 = .ok (.iconst 3, 1) := by decide +kernel
theorem d_Dk_groupAt_6 : decode b_Dk_groupAt 6 = .ok (.iadd, 1) := by decide +kernel
theorem d_Dk_groupAt_7 : decode b_Dk_groupAt 7 = .ok (.sipush 1500, 3) := by decide +kernel
theorem d_Dk_groupAt_10 : decode b_Dk_groupAt 10 = .ok (.if_icmp .le 5, 3) := by decide +kernel
theorem d_Dk_groupAt_13 : decode b_Dk_groupAt 13 = .ok (.iconst 0, 1) := by decide +kernel
theorem d_Dk_groupAt_14 : decode b_Dk_groupAt 14 = .ok (.ireturn, 1) := by decide +kernel
theorem d_Dk_groupAt_15 : decode b_Dk_groupAt 15 = .ok (.aload_n 0, 1) := by decide +kernel
theorem d_Dk_groupAt_16 : decode b_Dk_groupAt 16 = .ok (.getfield 20, 3) := by decide +kernel
theorem d_Dk_groupAt_19 : decode b_Dk_groupAt 19 = .ok (.iload_n 1, 1) := by decide +kernel
theorem d_Dk_groupAt_20 : decode b_Dk_groupAt 20 = .ok (.iaload, 1) := by decide +kernel
theorem d_Dk_groupAt_21 : decode b_Dk_groupAt 21 = .ok (.bipush 16, 2) := by decide +kernel
theorem d_Dk_groupAt_23 : decode b_Dk_groupAt 23 = .ok (.ishl, 1) := by decide +kernel
theorem d_Dk_groupAt_24 : decode b_Dk_groupAt 24 = .ok (.aload_n 0, 1) := by decide +kernel
theorem d_Dk_groupAt_25 : decode b_Dk_groupAt 25 = .ok (.getfield 20, 3) := by decide +kernel
theorem d_Dk_groupAt_28 : decode b_Dk_groupAt 28 = .ok (.iload_n 1, 1) := by decide +kernel
theorem d_Dk_groupAt_29 : decode b_Dk_groupAt 29 = .ok (.iconst 1, 1) := by decide +kernel
theorem d_Dk_groupAt_30 : decode b_Dk_groupAt 30 = .ok (.iadd, 1) := by decide +kernel
theorem d_Dk_groupAt_31 : decode b_Dk_groupAt 31 = .ok (.iaload, 1) := by decide +kernel
theorem d_Dk_groupAt_32 : decode b_Dk_groupAt 32 = .ok (.bipush 8, 2) := by decide +kernel
theorem d_Dk_groupAt_34 : decode b_Dk_groupAt 34 = .ok (.ishl, 1) := by decide +kernel
theorem d_Dk_groupAt_35 : decode b_Dk_groupAt 35 = .ok (.ior, 1) := by decide +kernel
theorem d_Dk_groupAt_36 : decode b_Dk_groupAt 36 = .ok (.aload_n 0, 1) := by decide +kernel
theorem d_Dk_groupAt_37 : decode b_Dk_groupAt 37 = .ok (.getfield 20, 3) := by decide +kernel
theorem d_Dk_groupAt_40 : decode b_Dk_groupAt 40 = .ok (.iload_n 1, 1) := by decide +kernel
theorem d_Dk_groupAt_41 : decode b_Dk_groupAt 41 = .ok (.iconst 2, 1) := by decide +kernel
theorem d_Dk_groupAt_42 : decode b_Dk_groupAt 42 = .ok (.iadd, 1) := by decide +kernel
theorem d_Dk_groupAt_43 : decode b_Dk_groupAt 43 = .ok (.iaload, 1) := by decide +kernel
theorem d_Dk_groupAt_44 : decode b_Dk_groupAt 44 = .ok (.ior, 1) := by decide +kernel
theorem d_Dk_groupAt_45 : decode b_Dk_groupAt 45 = .ok (.ireturn, 1) := by decide +kernel
set_option maxHeartbeats 4000000 in
set_option maxRecDepth 100000 in
theorem c_Dk_groupAt (F : Nat → Nat → Int) (G : Nat → Int → Int) (i : Int) (hi : 0 ≤ i ∧ i + 3 ≤ 1500) (h0 : 0 ≤ G 223 i ∧ G 223 i < 256) (h1 : 0 ≤ G 223 (i + 1) ∧ G 223 (i + 1) < 256) (h2 : 0 ≤ G 223 (i + 2) ∧ G 223 (i + 2) < 256) : cP y_Dk_groupAt b_Dk_groupAt 2 (some .int) 0 0 F G (fun ad => [.ref (ad 0), .int (iI i)]) (fun r => r = G 223 i * 65536 + G 223 (i + 1) * 256 + G 223 (i + 2)) := by
  intro s0 a0 D t ad
  refine g_startP (by decide +kernel) (Nat.le_of_ble_eq_true rfl) (fun p l e R s m args below meth c A ok => ?_)
  show gW p l e R s m args below meth c _ D A 2 (gZ0 s) 0 0 ad 265 (mem ad t F G) 0 [(0, .ref (ad 0)), (1, .int (iI i))] []
  refine g_iload_n ok d_Dk_groupAt_0 rfl 1 rfl ?_
  refine g_if_lt ok 13 d_Dk_groupAt_1 (by decide) (by omega) (fun h1 => ?_) (fun h1 => ?_)
  · exact absurd h1 (by omega)
  · refine g_iload_n ok d_Dk_groupAt_4 rfl 1 rfl ?_
    refine g_iconst ok d_Dk_groupAt_5 ?_
    refine g_iadd ok d_Dk_groupAt_6 ?_
    refine g_sipush ok (by decide) d_Dk_groupAt_7 ?_
    refine g_icmp_le ok 15 d_Dk_groupAt_10 (by decide) (by omega) (by omega) (fun h2 => ?_) (fun h2 => ?_)
    · refine g_aload_n ok d_Dk_groupAt_15 rfl 0 rfl ?_
      refine gI_Dk_loaded ok _ rfl k_319 d_Dk_groupAt_16 ?_
      refine g_iload_n ok d_Dk_groupAt_19 rfl 1 rfl ?_
      refine h_iald ok _ a_223 (by omega) d_Dk_groupAt_20 ?_
      refine g_bipush ok (by decide) d_Dk_groupAt_21 ?_
      refine g_ishl (z := G 223 i * 65536) ok (iI_shl 16 (by decide) (by omega) (by omega) rfl) d_Dk_groupAt_23 ?_
      refine g_aload_n ok d_Dk_groupAt_24 rfl 0 rfl ?_
      refine gI_Dk_loaded ok _ rfl k_319 d_Dk_groupAt_25 ?_
      refine g_iload_n ok d_Dk_groupAt_28 rfl 1 rfl ?_
      refine g_iconst ok d_Dk_groupAt_29 ?_
      refine g_iadd ok d_Dk_groupAt_30 ?_
      refine h_iald ok _ a_223 (by omega) d_Dk_groupAt_31 ?_
      refine g_bipush ok (by decide) d_Dk_groupAt_32 ?_
      refine g_ishl (z := G 223 (i + 1) * 256) ok (iI_shl 8 (by decide) (by omega) (by omega) rfl) d_Dk_groupAt_34 ?_
      refine g_ior (z := G 223 i * 65536 + G 223 (i + 1) * 256) ok (iI_or (a := G 223 i) 16 (by omega) (by omega)) d_Dk_groupAt_35 ?_
      refine g_aload_n ok d_Dk_groupAt_36 rfl 0 rfl ?_
      refine gI_Dk_loaded ok _ rfl k_319 d_Dk_groupAt_37 ?_
      refine g_iload_n ok d_Dk_groupAt_40 rfl 1 rfl ?_
      refine g_iconst ok d_Dk_groupAt_41 ?_
      refine g_iadd ok d_Dk_groupAt_42 ?_
      refine h_iald ok _ a_223 (by omega) d_Dk_groupAt_43 ?_
      refine g_ior (z := G 223 i * 65536 + G 223 (i + 1) * 256 + G 223 (i + 2)) ok (by have h := iI_or (a := G 223 i * 256 + G 223 (i + 1)) (b := G 223 (i + 2)) 8 (by omega) (by omega); rw [show (G 223 i * 256 + G 223 (i + 1)) * 2 ^ 8 = G 223 i * 65536 + G 223 (i + 1) * 256 by omega] at h; exact h) d_Dk_groupAt_44 ?_
      exact g_ipret ok d_Dk_groupAt_45 (rfl)
    · exfalso; omega
