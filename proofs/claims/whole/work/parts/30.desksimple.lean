def cX (G : Nat → Int → Int) (a : Int) : Int := G 237 a % 256 - 128
def cY (G : Nat → Int → Int) (a : Int) : Int := G 237 a / 256 % 256 - 128
def cK (G : Nat → Int → Int) (a : Int) : Int := G 237 a / 65536
/-- the path's codes are records -/
def pOk (F : Nat → Nat → Int) (G : Nat → Int → Int) : Prop := (0 ≤ F 236 1 ∧ F 236 1 ≤ 4000) ∧ ∀ a : Int, 0 ≤ a → a < F 236 1 → 0 ≤ G 237 a ∧ G 237 a < 262144
def pmin (f : Int → Int) : Nat → Int
  | 0 => 0
  | n + 1 => min (pmin f n) (sumN f (n + 1))
def pmax (f : Int → Int) : Nat → Int
  | 0 => 0
  | n + 1 => max (pmax f n) (sumN f (n + 1))
theorem pmin_step {f : Int → Int} {i : Int} (h : 0 ≤ i) : pmin f (i + 1).toNat = min (pmin f i.toNat) (sumN f i.toNat + f i) := by
  have e : (i + 1).toNat = i.toNat + 1 := by omega
  rw [← sumN_step h, e]
  rfl
theorem pmax_step {f : Int → Int} {i : Int} (h : 0 ≤ i) : pmax f (i + 1).toNat = max (pmax f i.toNat) (sumN f i.toNat + f i) := by
  have e : (i + 1).toNat = i.toNat + 1 := by omega
  rw [← sumN_step h, e]
  rfl
theorem d_Dk_fault_0 : decode b_Dk_fault 0 = .ok (.iload_n 1, 1) := by decide +kernel
theorem d_Dk_fault_1 : decode b_Dk_fault 1 = .ok (.tableswitch 51 0 2 #[27, 35, 43], 27) := by decide +kernel
theorem d_Dk_fault_28 : decode b_Dk_fault 28 = .ok (.aload_n 0, 1) := by decide +kernel
theorem d_Dk_fault_29 : decode b_Dk_fault 29 = .ok (.getfield 26, 3) := by decide +kernel
theorem d_Dk_fault_32 : decode b_Dk_fault 32 = .ok (.getfield 140, 3) := by decide +kernel
theorem d_Dk_fault_35 : decode b_Dk_fault 35 = .ok (.ireturn, 1) := by decide +kernel
theorem d_Dk_fault_36 : decode b_Dk_fault 36 = .ok (.aload_n 0, 1) := by decide +kernel
theorem d_Dk_fault_37 : decode b_Dk_fault 37 = .ok (.getfield 26, 3) := by decide +kernel
theorem d_Dk_fault_40 : decode b_Dk_fault 40 = .ok (.getfield 143, 3) := by decide +kernel
theorem d_Dk_fault_43 : decode b_Dk_fault 43 = .ok (.ireturn, 1) := by decide +kernel
theorem d_Dk_fault_44 : decode b_Dk_fault 44 = .ok (.aload_n 0, 1) := by decide +kernel
theorem d_Dk_fault_45 : decode b_Dk_fault 45 = .ok (.getfield 26, 3) := by decide +kernel
theorem d_Dk_fault_48 : decode b_Dk_fault 48 = .ok (.getfield 146, 3) := by decide +kernel
theorem d_Dk_fault_51 : decode b_Dk_fault 51 = .ok (.ireturn, 1) := by decide +kernel
theorem d_Dk_fault_52 : decode b_Dk_fault 52 = .ok (.iconst (-1), 1) := by decide +kernel
theorem d_Dk_fault_53 : decode b_Dk_fault 53 = .ok (.ireturn, 1) := by decide +kernel
set_option maxHeartbeats 4000000 in
set_option maxRecDepth 100000 in
theorem c_Dk_fault (F : Nat → Nat → Int) (G : Nat → Int → Int) (w : Int) (hw : -2147483648 ≤ w ∧ w < 2147483648) : cP y_Dk_fault b_Dk_fault 2 (some .int) 0 0 F G (fun ad => [.ref (ad 0), .int (iI w)]) (fun z => z = if w = 0 then F 224 6 else if w = 1 then F 224 7 else if w = 2 then F 224 8 else -1) := by
  intro s0 a0 D t ad
  refine g_startP (by decide +kernel) (Nat.le_of_ble_eq_true rfl) (fun p l e R s m args below meth c A ok => ?_)
  show gW p l e R s m args below meth c _ D A 2 (gZ0 s) 0 0 ad 265 (mem ad t F G) 0 [(0, .ref (ad 0)), (1, .int (iI w))] []
  refine g_iload_n ok d_Dk_fault_0 rfl 1 rfl ?_
  rcases (show w = 0 ∨ w = 1 ∨ w = 2 ∨ (w < 0 ∨ 2 < w) by omega) with hw1 | hw1 | hw1 | hw1
  · refine g_tabIn ok (by omega) d_Dk_fault_1 (by omega) (off := 27) (by rw [hw1]; rfl) 28 (by decide) ?_
    refine g_aload_n ok d_Dk_fault_28 rfl 0 rfl ?_
    refine gI_Dk_inspector ok _ rfl k_320 d_Dk_fault_29 ?_
    refine gN_In_found ok _ rfl k_161 d_Dk_fault_32 ?_
    exact g_ipret ok d_Dk_fault_35 (by split <;> (try split) <;> (try split) <;> omega)
  · refine g_tabIn ok (by omega) d_Dk_fault_1 (by omega) (off := 35) (by rw [hw1]; rfl) 36 (by decide) ?_
    refine g_aload_n ok d_Dk_fault_36 rfl 0 rfl ?_
    refine gI_Dk_inspector ok _ rfl k_320 d_Dk_fault_37 ?_
    refine gN_In_lesser ok _ rfl k_163 d_Dk_fault_40 ?_
    exact g_ipret ok d_Dk_fault_43 (by split <;> (try split) <;> (try split) <;> omega)
  · refine g_tabIn ok (by omega) d_Dk_fault_1 (by omega) (off := 43) (by rw [hw1]; rfl) 44 (by decide) ?_
    refine g_aload_n ok d_Dk_fault_44 rfl 0 rfl ?_
    refine gI_Dk_inspector ok _ rfl k_320 d_Dk_fault_45 ?_
    refine gN_In_other ok _ rfl k_165 d_Dk_fault_48 ?_
    exact g_ipret ok d_Dk_fault_51 (by split <;> (try split) <;> (try split) <;> omega)
  · refine g_tabOut ok (by omega) d_Dk_fault_1 (by omega) 52 (by decide) ?_
    refine g_iconst ok d_Dk_fault_52 ?_
    exact g_ipret ok d_Dk_fault_53 (by split <;> (try split) <;> (try split) <;> omega)
theorem d_Dk_count_0 : decode b_Dk_count 0 = .ok (.iload_n 1, 1) := by decide +kernel
theorem d_Dk_count_1 : decode b_Dk_count 1 = .ok (.tableswitch 62 0 3 #[31, 36, 44, 49], 31) := by decide +kernel
theorem d_Dk_count_32 : decode b_Dk_count 32 = .ok (.aload_n 0, 1) := by decide +kernel
theorem d_Dk_count_33 : decode b_Dk_count 33 = .ok (.getfield 67, 3) := by decide +kernel
theorem d_Dk_count_36 : decode b_Dk_count 36 = .ok (.ireturn, 1) := by decide +kernel
theorem d_Dk_count_37 : decode b_Dk_count 37 = .ok (.aload_n 0, 1) := by decide +kernel
theorem d_Dk_count_38 : decode b_Dk_count 38 = .ok (.getfield 48, 3) := by decide +kernel
theorem d_Dk_count_41 : decode b_Dk_count 41 = .ok (.getfield 183, 3) := by decide +kernel
theorem d_Dk_count_44 : decode b_Dk_count 44 = .ok (.ireturn, 1) := by decide +kernel
theorem d_Dk_count_45 : decode b_Dk_count 45 = .ok (.aload_n 0, 1) := by decide +kernel
theorem d_Dk_count_46 : decode b_Dk_count 46 = .ok (.getfield 186, 3) := by decide +kernel
theorem d_Dk_count_49 : decode b_Dk_count 49 = .ok (.ireturn, 1) := by decide +kernel
theorem d_Dk_count_50 : decode b_Dk_count 50 = .ok (.aload_n 0, 1) := by decide +kernel
theorem d_Dk_count_51 : decode b_Dk_count 51 = .ok (.getfield 56, 3) := by decide +kernel
theorem d_Dk_count_54 : decode b_Dk_count 54 = .ok (.ifCond .eq 7, 3) := by decide +kernel
theorem d_Dk_count_57 : decode b_Dk_count 57 = .ok (.iconst 1, 1) := by decide +kernel
theorem d_Dk_count_58 : decode b_Dk_count 58 = .ok (.goto 4, 3) := by decide +kernel
theorem d_Dk_count_61 : decode b_Dk_count 61 = .ok (.iconst 0, 1) := by decide +kernel
theorem d_Dk_count_62 : decode b_Dk_count 62 = .ok (.ireturn, 1) := by decide +kernel
theorem d_Dk_count_63 : decode b_Dk_count 63 = .ok (.iconst (-1), 1) := by decide +kernel
theorem d_Dk_count_64 : decode b_Dk_count 64 = .ok (.ireturn, 1) := by decide +kernel
set_option maxHeartbeats 4000000 in
set_option maxRecDepth 100000 in
theorem c_Dk_count (F : Nat → Nat → Int) (G : Nat → Int → Int) (w : Int) (hw : -2147483648 ≤ w ∧ w < 2147483648) (hop : F 0 10 = 0 ∨ F 0 10 = 1) : cP y_Dk_count b_Dk_count 2 (some .int) 0 0 F G (fun ad => [.ref (ad 0), .int (iI w)]) (fun z => z = if w = 0 then F 0 8 else if w = 1 then F 236 1 else if w = 2 then F 0 9 else if w = 3 then F 0 10 else -1) := by
  intro s0 a0 D t ad
  refine g_startP (by decide +kernel) (Nat.le_of_ble_eq_true rfl) (fun p l e R s m args below meth c A ok => ?_)
  show gW p l e R s m args below meth c _ D A 2 (gZ0 s) 0 0 ad 265 (mem ad t F G) 0 [(0, .ref (ad 0)), (1, .int (iI w))] []
  refine g_iload_n ok d_Dk_count_0 rfl 1 rfl ?_
  rcases (show w = 0 ∨ w = 1 ∨ w = 2 ∨ w = 3 ∨ (w < 0 ∨ 3 < w) by omega) with hw1 | hw1 | hw1 | hw1 | hw1
  · refine g_tabIn ok (by omega) d_Dk_count_1 (by omega) (off := 31) (by rw [hw1]; rfl) 32 (by decide) ?_
    refine g_aload_n ok d_Dk_count_32 rfl 0 rfl ?_
    refine gI_Dk_shapeTotal ok _ rfl k_325 d_Dk_count_33 ?_
    exact g_ipret ok d_Dk_count_36 (by split <;> (try split) <;> (try split) <;> (try split) <;> omega)
  · refine g_tabIn ok (by omega) d_Dk_count_1 (by omega) (off := 36) (by rw [hw1]; rfl) 37 (by decide) ?_
    refine g_aload_n ok d_Dk_count_37 rfl 0 rfl ?_
    refine gI_Dk_path ok _ rfl k_322 d_Dk_count_38 ?_
    refine gN_Pa_size ok _ rfl k_258 d_Dk_count_41 ?_
    exact g_ipret ok d_Dk_count_44 (by split <;> (try split) <;> (try split) <;> (try split) <;> omega)
  · refine g_tabIn ok (by omega) d_Dk_count_1 (by omega) (off := 44) (by rw [hw1]; rfl) 45 (by decide) ?_
    refine g_aload_n ok d_Dk_count_45 rfl 0 rfl ?_
    refine gI_Dk_loadedTotal ok _ rfl k_326 d_Dk_count_46 ?_
    exact g_ipret ok d_Dk_count_49 (by split <;> (try split) <;> (try split) <;> (try split) <;> omega)
  · refine g_tabIn ok (by omega) d_Dk_count_1 (by omega) (off := 49) (by rw [hw1]; rfl) 50 (by decide) ?_
    refine g_aload_n ok d_Dk_count_50 rfl 0 rfl ?_
    refine gI_Dk_open ok _ rfl k_327 d_Dk_count_51 ?_
    refine g_if_eq ok 61 d_Dk_count_54 (by decide) (by omega) (fun h2 => ?_) (fun h2 => ?_)
    · refine g_iconst ok d_Dk_count_61 ?_
      exact g_ipret ok d_Dk_count_62 (by split <;> (try split) <;> (try split) <;> (try split) <;> omega)
    · refine g_iconst ok d_Dk_count_57 ?_
      refine g_goto ok 62 d_Dk_count_58 (by decide) ?_
      exact g_ipret ok d_Dk_count_62 (by split <;> (try split) <;> (try split) <;> (try split) <;> omega)
  · refine g_tabOut ok (by omega) d_Dk_count_1 (by omega) 63 (by decide) ?_
    refine g_iconst ok d_Dk_count_63 ?_
    exact g_ipret ok d_Dk_count_64 (by split <;> (try split) <;> (try split) <;> (try split) <;> omega)
theorem d_Dk_order_0 : decode b_Dk_order 0 = .ok (.iload_n 1, 1) := by decide +kernel
theorem d_Dk_order_1 : decode b_Dk_order 1 = .ok (.aload_n 0, 1) := by decide +kernel
theorem d_Dk_order_2 : decode b_Dk_order 2 = .ok (.getfield 67, 3) := by decide +kernel
theorem d_Dk_order_5 : decode b_Dk_order 5 = .ok (.invokestatic 76, 3) := by decide +kernel
theorem d_Dk_order_8 : decode b_Dk_order 8 = .ok (.ifCond .eq 12, 3) := by decide +kernel
theorem d_Dk_order_11 : decode b_Dk_order 11 = .ok (.aload_n 0, 1) := by decide +kernel
theorem d_Dk_order_12 : decode b_Dk_order 12 = .ok (.getfield 16, 3) := by decide +kernel
theorem d_Dk_order_15 : decode b_Dk_order 15 = .ok (.iload_n 1, 1) := by decide +kernel
theorem d_Dk_order_16 : decode b_Dk_order 16 = .ok (.iaload, 1) := by decide +kernel
theorem d_Dk_order_17 : decode b_Dk_order 17 = .ok (.goto 4, 3) := by decide +kernel
theorem d_Dk_order_20 : decode b_Dk_order 20 = .ok (.iconst (-1), 1) := by decide +kernel
theorem d_Dk_order_21 : decode b_Dk_order 21 = .ok (.ireturn, 1) := by decide +kernel
set_option maxHeartbeats 4000000 in
set_option maxRecDepth 100000 in
theorem c_Dk_order (F : Nat → Nat → Int) (G : Nat → Int → Int) (k : Int) (hk : -2147483648 ≤ k ∧ k < 2147483648) (hs : 0 ≤ F 0 8 ∧ F 0 8 ≤ 10) : cP y_Dk_order b_Dk_order 2 (some .int) 1 21 F G (fun ad => [.ref (ad 0), .int (iI k)]) (fun z => z = if 0 ≤ k ∧ k < F 0 8 then G 222 k else -1) := by
  intro s0 a0 D t ad
  refine g_startP (by decide +kernel) (Nat.le_of_ble_eq_true rfl) (fun p l e R s m args below meth c A ok => ?_)
  show gW p l e R s m args below meth c _ D A 2 (gZ0 s) 0 0 ad 265 (mem ad t F G) 0 [(0, .ref (ad 0)), (1, .int (iI k))] []
  refine g_iload_n ok d_Dk_order_0 rfl 1 rfl ?_
  refine g_aload_n ok d_Dk_order_1 rfl 0 rfl ?_
  refine gI_Dk_shapeTotal ok _ rfl k_325 d_Dk_order_2 ?_
  refine g_callPS (As := [.int (iI k), .int (iI (F 0 8))]) (st := []) ok (c_Dk_isBelow F G _ _ (by omega) (by omega) s0 a0 D t ad) k_615 k_1 k_613 k_614 q_Dk_isBelow (by decide) (Nat.le_of_ble_eq_true rfl) (by decide) d_Dk_order_5 (fun z1 hc1 => ?_)
  subst hc1
  refine g_if_eq ok 20 d_Dk_order_8 (by decide) (by split <;> omega) (fun h2 => ?_) (fun h2 => ?_)
  · refine g_iconst ok d_Dk_order_20 ?_
    exact g_ipret ok d_Dk_order_21 (by split <;> first | rfl | omega)
  · refine g_aload_n ok d_Dk_order_11 rfl 0 rfl ?_
    refine gI_Dk_sequence ok _ rfl k_318 d_Dk_order_12 ?_
    refine g_iload_n ok d_Dk_order_15 rfl 1 rfl ?_
    refine h_iald ok _ a_222 (by omega) d_Dk_order_16 ?_
    refine g_goto ok 21 d_Dk_order_17 (by decide) ?_
    exact g_ipret ok d_Dk_order_21 (by split <;> first | rfl | omega)
theorem d_Dk_record_0 : decode b_Dk_record 0 = .ok (.iload_n 1, 1) := by decide +kernel
theorem d_Dk_record_1 : decode b_Dk_record 1 = .ok (.aload_n 0, 1) := by decide +kernel
theorem d_Dk_record_2 : decode b_Dk_record 2 = .ok (.getfield 48, 3) := by decide +kernel
theorem d_Dk_record_5 : decode b_Dk_record 5 = .ok (.getfield 183, 3) := by decide +kernel
theorem d_Dk_record_8 : decode b_Dk_record 8 = .ok (.invokestatic 76, 3) := by decide +kernel
theorem d_Dk_record_11 : decode b_Dk_record 11 = .ok (.ifCond .ne 13, 3) := by decide +kernel
theorem d_Dk_record_14 : decode b_Dk_record 14 = .ok (.new 202, 3) := by decide +kernel
theorem d_Dk_record_17 : decode b_Dk_record 17 = .ok (.dup, 1) := by decide +kernel
theorem d_Dk_record_18 : decode b_Dk_record 18 = .ok (.ldc 204, 2) := by decide +kernel
theorem d_Dk_record_20 : decode b_Dk_record 20 = .ok (.invokespecial 206, 3) := by decide +kernel
theorem d_Dk_record_23 : decode b_Dk_record 23 = .ok (.athrow, 1) := by decide +kernel
theorem d_Dk_record_24 : decode b_Dk_record 24 = .ok (.iload_n 2, 1) := by decide +kernel
theorem d_Dk_record_25 : decode b_Dk_record 25 = .ok (.tableswitch 54 0 2 #[27, 36, 45], 27) := by decide +kernel
theorem d_Dk_record_52 : decode b_Dk_record 52 = .ok (.aload_n 0, 1) := by decide +kernel
theorem d_Dk_record_53 : decode b_Dk_record 53 = .ok (.getfield 48, 3) := by decide +kernel
theorem d_Dk_record_56 : decode b_Dk_record 56 = .ok (.iload_n 1, 1) := by decide +kernel
theorem d_Dk_record_57 : decode b_Dk_record 57 = .ok (.invokevirtual 207, 3) := by decide +kernel
theorem d_Dk_record_60 : decode b_Dk_record 60 = .ok (.ireturn, 1) := by decide +kernel
theorem d_Dk_record_61 : decode b_Dk_record 61 = .ok (.aload_n 0, 1) := by decide +kernel
theorem d_Dk_record_62 : decode b_Dk_record 62 = .ok (.getfield 48, 3) := by decide +kernel
theorem d_Dk_record_65 : decode b_Dk_record 65 = .ok (.iload_n 1, 1) := by decide +kernel
theorem d_Dk_record_66 : decode b_Dk_record 66 = .ok (.invokevirtual 211, 3) := by decide +kernel
theorem d_Dk_record_69 : decode b_Dk_record 69 = .ok (.ireturn, 1) := by decide +kernel
theorem d_Dk_record_70 : decode b_Dk_record 70 = .ok (.aload_n 0, 1) := by decide +kernel
theorem d_Dk_record_71 : decode b_Dk_record 71 = .ok (.getfield 48, 3) := by decide +kernel
theorem d_Dk_record_74 : decode b_Dk_record 74 = .ok (.iload_n 1, 1) := by decide +kernel
theorem d_Dk_record_75 : decode b_Dk_record 75 = .ok (.invokevirtual 214, 3) := by decide +kernel
theorem d_Dk_record_78 : decode b_Dk_record 78 = .ok (.ireturn, 1) := by decide +kernel
theorem d_Dk_record_79 : decode b_Dk_record 79 = .ok (.new 80, 3) := by decide +kernel
theorem d_Dk_record_82 : decode b_Dk_record 82 = .ok (.dup, 1) := by decide +kernel
theorem d_Dk_record_83 : decode b_Dk_record 83 = .ok (.ldc 217, 2) := by decide +kernel
theorem d_Dk_record_85 : decode b_Dk_record 85 = .ok (.invokespecial 84, 3) := by decide +kernel
theorem d_Dk_record_88 : decode b_Dk_record 88 = .ok (.athrow, 1) := by decide +kernel
set_option maxHeartbeats 4000000 in
set_option maxRecDepth 100000 in
theorem c_Dk_record (F : Nat → Nat → Int) (G : Nat → Int → Int) (i f : Int) (hp : pOk F G) (hi : 0 ≤ i ∧ i < F 236 1) (hf : 0 ≤ f ∧ f ≤ 2) : cP y_Dk_record b_Dk_record 3 (some .int) 6 82 F G (fun ad => [.ref (ad 0), .int (iI i), .int (iI f)]) (fun z => z = if f = 0 then cX G i else if f = 1 then cY G i else cK G i) := by
  obtain ⟨hs, hC⟩ := hp
  intro s0 a0 D t ad
  refine g_startP (by decide +kernel) (Nat.le_of_ble_eq_true rfl) (fun p l e R s m args below meth c A ok => ?_)
  show gW p l e R s m args below meth c _ D A 3 (gZ0 s) 0 0 ad 265 (mem ad t F G) 0 [(0, .ref (ad 0)), (1, .int (iI i)), (2, .int (iI f))] []
  refine g_iload_n ok d_Dk_record_0 rfl 1 rfl ?_
  refine g_aload_n ok d_Dk_record_1 rfl 0 rfl ?_
  refine gI_Dk_path ok _ rfl k_322 d_Dk_record_2 ?_
  refine gN_Pa_size ok _ rfl k_258 d_Dk_record_5 ?_
  refine g_callPS (As := [.int (iI i), .int (iI (F 236 1))]) (st := []) ok (c_Dk_isBelow F G _ _ (by omega) (by omega) s0 a0 D t ad) k_615 k_1 k_613 k_614 q_Dk_isBelow (by decide) (Nat.le_of_ble_eq_true rfl) (by decide) d_Dk_record_8 (fun z1 hc1 => ?_)
  subst hc1
  refine g_if_ne ok 24 d_Dk_record_11 (by decide) (by split <;> omega) (fun h2 => ?_) (fun h2 => ?_)
  · refine g_iload_n ok d_Dk_record_24 rfl 2 rfl ?_
    rcases (show f = 0 ∨ f = 1 ∨ f = 2 ∨ (f < 0 ∨ 2 < f) by omega) with hw3 | hw3 | hw3 | hw3
    · refine g_tabIn ok (by omega) d_Dk_record_25 (by omega) (off := 27) (by rw [hw3]; rfl) 52 (by decide) ?_
      refine g_aload_n ok d_Dk_record_52 rfl 0 rfl ?_
      refine gI_Dk_path ok _ rfl k_322 d_Dk_record_53 ?_
      refine g_iload_n ok d_Dk_record_56 rfl 1 rfl ?_
      refine g_callPVN (As := [.int (iI i)]) (st := []) ok _ (c_Pa_dx F G _ (by omega) (hC _ (by omega) (by omega)) s0 a0 D t ad) k_631 k_9 k_939 cl_Pa (m_Pa (ad := ad) (t := t) (F := F) (G := G) rfl).1 (m_Pa rfl).2 k_630 s_Pa_dx q_Pa_dx (by decide) (Nat.le_of_ble_eq_true rfl) (by decide) d_Dk_record_57 (fun z4 hc4 => ?_)
      subst hc4
      exact g_ipret ok d_Dk_record_60 (by unfold cX cY cK; split <;> (try split) <;> first | rfl | omega)
    · refine g_tabIn ok (by omega) d_Dk_record_25 (by omega) (off := 36) (by rw [hw3]; rfl) 61 (by decide) ?_
      refine g_aload_n ok d_Dk_record_61 rfl 0 rfl ?_
      refine gI_Dk_path ok _ rfl k_322 d_Dk_record_62 ?_
      refine g_iload_n ok d_Dk_record_65 rfl 1 rfl ?_
      refine g_callPVN (As := [.int (iI i)]) (st := []) ok _ (c_Pa_dy F G _ (by omega) (hC _ (by omega) (by omega)) s0 a0 D t ad) k_635 k_9 k_940 cl_Pa (m_Pa (ad := ad) (t := t) (F := F) (G := G) rfl).1 (m_Pa rfl).2 k_634 s_Pa_dy q_Pa_dy (by decide) (Nat.le_of_ble_eq_true rfl) (by decide) d_Dk_record_66 (fun z5 hc5 => ?_)
      subst hc5
      exact g_ipret ok d_Dk_record_69 (by unfold cX cY cK; split <;> (try split) <;> first | rfl | omega)
    · refine g_tabIn ok (by omega) d_Dk_record_25 (by omega) (off := 45) (by rw [hw3]; rfl) 70 (by decide) ?_
      refine g_aload_n ok d_Dk_record_70 rfl 0 rfl ?_
      refine gI_Dk_path ok _ rfl k_322 d_Dk_record_71 ?_
      refine g_iload_n ok d_Dk_record_74 rfl 1 rfl ?_
      refine g_callPVN (As := [.int (iI i)]) (st := []) ok _ (c_Pa_kind F G _ (by omega) (hC _ (by omega) (by omega)) s0 a0 D t ad) k_627 k_9 k_654 cl_Pa (m_Pa (ad := ad) (t := t) (F := F) (G := G) rfl).1 (m_Pa rfl).2 k_626 s_Pa_kind q_Pa_kind (by decide) (Nat.le_of_ble_eq_true rfl) (by decide) d_Dk_record_75 (fun z6 hc6 => ?_)
      subst hc6
      exact g_ipret ok d_Dk_record_78 (by unfold cX cY cK; split <;> (try split) <;> first | rfl | omega)
    · refine g_tabOut ok (by omega) d_Dk_record_25 (by omega) 79 (by decide) ?_
      exfalso; omega
  · exfalso; omega
theorem d_Dk_load_0 : decode b_Dk_load 0 = .ok (.iload_n 1, 1) := by decide +kernel
theorem d_Dk_load_1 : decode b_Dk_load 1 = .ok (.ifCond .lt 18, 3) := by decide +kernel
theorem d_Dk_load_4 : decode b_Dk_load 4 = .ok (.iload_n 1, 1) := by decide +kernel
theorem d_Dk_load_5 : decode b_Dk_load 5 = .ok (.aload_n 0, 1) := by decide +kernel
theorem d_Dk_load_6 : decode b_Dk_load 6 = .ok (.getfield 186, 3) := by decide +kernel
theorem d_Dk_load_9 : decode b_Dk_load 9 = .ok (.if_icmp .gt 10, 3) := by decide +kernel
theorem d_Dk_load_12 : decode b_Dk_load 12 = .ok (.iload_n 1, 1) := by decide +kernel
theorem d_Dk_load_13 : decode b_Dk_load 13 = .ok (.sipush 1500, 3) := by decide +kernel
theorem d_Dk_load_16 : decode b_Dk_load 16 = .ok (.if_icmp .lt 13, 3) := by decide +kernel
theorem d_Dk_load_19 : decode b_Dk_load 19 = .ok (.new 202, 3) := by decide +kernel
theorem d_Dk_load_22 : decode b_Dk_load 22 = .ok (.dup, 1) := by decide +kernel
theorem d_Dk_load_23 : decode b_Dk_load 23 = .ok (.ldc 219, 2) := by decide +kernel
theorem d_Dk_load_25 : decode b_Dk_load 25 = .ok (.invokespecial 206, 3) := by decide +kernel
theorem d_Dk_load_28 : decode b_Dk_load 28 = .ok (.athrow, 1) := by decide +kernel
theorem d_Dk_load_29 : decode b_Dk_load 29 = .ok (.iload_n 2, 1) := by decide +kernel
theorem d_Dk_load_30 : decode b_Dk_load 30 = .ok (.ifCond .lt 10, 3) := by decide +kernel
theorem d_Dk_load_33 : decode b_Dk_load 33 = .ok (.iload_n 2, 1) := by decide +kernel
theorem d_Dk_load_34 : decode b_Dk_load 34 = .ok (.sipush 255, 3) := by decide +kernel
theorem d_Dk_load_37 : decode b_Dk_load 37 = .ok (.if_icmp .le 13, 3) := by decide +kernel
theorem d_Dk_load_40 : decode b_Dk_load 40 = .ok (.new 80, 3) := by decide +kernel
theorem d_Dk_load_43 : decode b_Dk_load 43 = .ok (.dup, 1) := by decide +kernel
theorem d_Dk_load_44 : decode b_Dk_load 44 = .ok (.ldc 224, 2) := by decide +kernel
theorem d_Dk_load_46 : decode b_Dk_load 46 = .ok (.invokespecial 84, 3) := by decide +kernel
theorem d_Dk_load_49 : decode b_Dk_load 49 = .ok (.athrow, 1) := by decide +kernel
theorem d_Dk_load_50 : decode b_Dk_load 50 = .ok (.aload_n 0, 1) := by decide +kernel
theorem d_Dk_load_51 : decode b_Dk_load 51 = .ok (.getfield 20, 3) := by decide +kernel
theorem d_Dk_load_54 : decode b_Dk_load 54 = .ok (.iload_n 1, 1) := by decide +kernel
theorem d_Dk_load_55 : decode b_Dk_load 55 = .ok (.iload_n 2, 1) := by decide +kernel
theorem d_Dk_load_56 : decode b_Dk_load 56 = .ok (.iastore, 1) := by decide +kernel
theorem d_Dk_load_57 : decode b_Dk_load 57 = .ok (.iload_n 1, 1) := by decide +kernel
theorem d_Dk_load_58 : decode b_Dk_load 58 = .ok (.aload_n 0, 1) := by decide +kernel
theorem d_Dk_load_59 : decode b_Dk_load 59 = .ok (.getfield 186, 3) := by decide +kernel
theorem d_Dk_load_62 : decode b_Dk_load 62 = .ok (.if_icmp .ne 13, 3) := by decide +kernel
theorem d_Dk_load_65 : decode b_Dk_load 65 = .ok (.aload_n 0, 1) := by decide +kernel
theorem d_Dk_load_66 : decode b_Dk_load 66 = .ok (.dup, 1) := by decide +kernel
theorem d_Dk_load_67 : decode b_Dk_load 67 = .ok (.getfield 186, 3) := by decide +kernel
theorem d_Dk_load_70 : decode b_Dk_load 70 = .ok (.iconst 1, 1) := by decide +kernel
theorem d_Dk_load_71 : decode b_Dk_load 71 = .ok (.iadd, 1) := by decide +kernel
theorem d_Dk_load_72 : decode b_Dk_load 72 = .ok (.putfield 186, 3) := by decide +kernel
theorem d_Dk_load_75 : decode b_Dk_load 75 = .ok (.aload_n 0, 1) := by decide +kernel
theorem d_Dk_load_76 : decode b_Dk_load 76 = .ok (.getfield 186, 3) := by decide +kernel
theorem d_Dk_load_79 : decode b_Dk_load 79 = .ok (.ireturn, 1) := by decide +kernel
set_option maxHeartbeats 4000000 in
set_option maxRecDepth 100000 in
theorem c_Dk_load (F : Nat → Nat → Int) (G : Nat → Int → Int) (i b : Int) (hl : 0 ≤ F 0 9 ∧ F 0 9 ≤ 1500) (hi : 0 ≤ i ∧ i ≤ F 0 9 ∧ i < 1500) (hb : 0 ≤ b ∧ b ≤ 255) : cI y_Dk_load b_Dk_load 3 (some .int) 6 82 F G (fun ad => [.ref (ad 0), .int (iI i), .int (iI b)]) (fun z F' G' => G' = gU G 223 i b ∧ ((i = F 0 9 ∧ F' = fU F 0 9 (F 0 9 + 1) ∧ z = F 0 9 + 1) ∨ (¬ i = F 0 9 ∧ F' = F ∧ z = F 0 9))) := by
  intro s0 a0 D t ad
  refine g_startI (by decide +kernel) (Nat.le_of_ble_eq_true rfl) (fun p l e R s m args below meth c A ok => ?_)
  show gW p l e R s m args below meth c _ D A 3 (gZ0 s) 0 0 ad 265 (mem ad t F G) 0 [(0, .ref (ad 0)), (1, .int (iI i)), (2, .int (iI b))] []
  refine g_iload_n ok d_Dk_load_0 rfl 1 rfl ?_
  refine g_if_lt ok 19 d_Dk_load_1 (by decide) (by omega) (fun h1 => ?_) (fun h1 => ?_)
  · exfalso; omega
  · refine g_iload_n ok d_Dk_load_4 rfl 1 rfl ?_
    refine g_aload_n ok d_Dk_load_5 rfl 0 rfl ?_
    refine gI_Dk_loadedTotal ok _ rfl k_326 d_Dk_load_6 ?_
    refine g_icmp_gt ok 19 d_Dk_load_9 (by decide) (by omega) (by omega) (fun h2 => ?_) (fun h2 => ?_)
    · exfalso; omega
    · refine g_iload_n ok d_Dk_load_12 rfl 1 rfl ?_
      refine g_sipush ok (by decide) d_Dk_load_13 ?_
      refine g_icmp_lt ok 29 d_Dk_load_16 (by decide) (by omega) (by omega) (fun h3 => ?_) (fun h3 => ?_)
      · refine g_iload_n ok d_Dk_load_29 rfl 2 rfl ?_
        refine g_if_lt ok 40 d_Dk_load_30 (by decide) (by omega) (fun h4 => ?_) (fun h4 => ?_)
        · exfalso; omega
        · refine g_iload_n ok d_Dk_load_33 rfl 2 rfl ?_
          refine g_sipush ok (by decide) d_Dk_load_34 ?_
          refine g_icmp_le ok 50 d_Dk_load_37 (by decide) (by omega) (by omega) (fun h5 => ?_) (fun h5 => ?_)
          · refine g_aload_n ok d_Dk_load_50 rfl 0 rfl ?_
            refine gI_Dk_loaded ok _ rfl k_319 d_Dk_load_51 ?_
            refine g_iload_n ok d_Dk_load_54 rfl 1 rfl ?_
            refine g_iload_n ok d_Dk_load_55 rfl 2 rfl ?_
            refine h_iast ok _ a_223 (by omega) d_Dk_load_56 ?_
            refine g_iload_n ok d_Dk_load_57 rfl 1 rfl ?_
            refine g_aload_n ok d_Dk_load_58 rfl 0 rfl ?_
            refine gI_Dk_loadedTotal ok _ rfl k_326 d_Dk_load_59 ?_
            refine g_icmp_ne ok 75 d_Dk_load_62 (by decide) (by omega) (by omega) (fun h6 => ?_) (fun h6 => ?_)
            · refine g_aload_n ok d_Dk_load_75 rfl 0 rfl ?_
              refine gI_Dk_loadedTotal ok _ rfl k_326 d_Dk_load_76 ?_
              exact g_iret ok d_Dk_load_79 ⟨_, _, rfl, rfl, by first | exact Or.inl ⟨by omega, rfl, rfl⟩ | exact Or.inr ⟨by omega, rfl, rfl⟩⟩
            · refine g_aload_n ok d_Dk_load_65 rfl 0 rfl ?_
              refine g_dup ok d_Dk_load_66 rfl ?_
              refine gI_Dk_loadedTotal ok _ rfl k_326 d_Dk_load_67 ?_
              refine g_iconst ok d_Dk_load_70 ?_
              refine g_iadd ok d_Dk_load_71 ?_
              refine pI_Dk_loadedTotal ok _ rfl k_326 d_Dk_load_72 ?_
              refine g_aload_n ok d_Dk_load_75 rfl 0 rfl ?_
              refine gI_Dk_loadedTotal ok _ rfl k_326 d_Dk_load_76 ?_
              refine g_top (y := (F 0 9) + 1) (by simp [fU]) ?_
              exact g_iret ok d_Dk_load_79 ⟨_, _, rfl, rfl, by first | exact Or.inl ⟨by omega, rfl, rfl⟩ | exact Or.inr ⟨by omega, rfl, rfl⟩⟩
          · exfalso; omega
      · exfalso; omega
theorem d_Dk_stop_0 : decode b_Dk_stop 0 = .ok (.iload_n 1, 1) := by decide +kernel
theorem d_Dk_stop_1 : decode b_Dk_stop 1 = .ok (.ifCond .ge 5, 3) := by decide +kernel
theorem d_Dk_stop_4 : decode b_Dk_stop 4 = .ok (.iconst (-1), 1) := by decide +kernel
theorem d_Dk_stop_5 : decode b_Dk_stop 5 = .ok (.ireturn, 1) := by decide +kernel
theorem d_Dk_stop_6 : decode b_Dk_stop 6 = .ok (.iload_n 1, 1) := by decide +kernel
theorem d_Dk_stop_7 : decode b_Dk_stop 7 = .ok (.istore_n 2, 1) := by decide +kernel
theorem d_Dk_stop_8 : decode b_Dk_stop 8 = .ok (.iload_n 2, 1) := by decide +kernel
theorem d_Dk_stop_9 : decode b_Dk_stop 9 = .ok (.aload_n 0, 1) := by decide +kernel
theorem d_Dk_stop_10 : decode b_Dk_stop 10 = .ok (.getfield 48, 3) := by decide +kernel
theorem d_Dk_stop_13 : decode b_Dk_stop 13 = .ok (.getfield 183, 3) := by decide +kernel
theorem d_Dk_stop_16 : decode b_Dk_stop 16 = .ok (.if_icmp .ge 23, 3) := by decide +kernel
theorem d_Dk_stop_19 : decode b_Dk_stop 19 = .ok (.aload_n 0, 1) := by decide +kernel
theorem d_Dk_stop_20 : decode b_Dk_stop 20 = .ok (.getfield 48, 3) := by decide +kernel
theorem d_Dk_stop_23 : decode b_Dk_stop 23 = .ok (.iload_n 2, 1) := by decide +kernel
theorem d_Dk_stop_24 : decode b_Dk_stop 24 = .ok (.invokevirtual 214, 3) := by decide +kernel
theorem d_Dk_stop_27 : decode b_Dk_stop 27 = .ok (.iconst 3, 1) := by decide +kernel
theorem d_Dk_stop_28 : decode b_Dk_stop 28 = .ok (.if_icmp .ne 5, 3) := by decide +kernel
theorem d_Dk_stop_31 : decode b_Dk_stop 31 = .ok (.iload_n 2, 1) := by decide +kernel
theorem d_Dk_stop_32 : decode b_Dk_stop 32 = .ok (.ireturn, 1) := by decide +kernel
theorem d_Dk_stop_33 : decode b_Dk_stop 33 = .ok (.iinc 2 1, 3) := by decide +kernel
theorem d_Dk_stop_36 : decode b_Dk_stop 36 = .ok (.goto (-28), 3) := by decide +kernel
theorem d_Dk_stop_39 : decode b_Dk_stop 39 = .ok (.iconst (-1), 1) := by decide +kernel
theorem d_Dk_stop_40 : decode b_Dk_stop 40 = .ok (.ireturn, 1) := by decide +kernel
set_option maxHeartbeats 4000000 in
set_option maxRecDepth 100000 in
theorem c_Dk_stop (F : Nat → Nat → Int) (G : Nat → Int → Int) (i : Int) (hi : -2147483648 ≤ i ∧ i < 2147483648) (hp : pOk F G) : cP y_Dk_stop b_Dk_stop 3 (some .int) 1 21 F G (fun ad => [.ref (ad 0), .int (iI i)]) (fun z => (z = -1 ∧ (i < 0 ∨ ∀ a : Int, i ≤ a → a < F 236 1 → ¬ cK G a = 3)) ∨ ((0 ≤ i ∧ i ≤ z ∧ z < F 236 1) ∧ cK G z = 3 ∧ ∀ a : Int, i ≤ a → a < z → ¬ cK G a = 3)) := by
  obtain ⟨hs, hC⟩ := hp
  intro s0 a0 D t ad
  refine g_startP (by decide +kernel) (Nat.le_of_ble_eq_true rfl) (fun p l e R s m args below meth c A ok => ?_)
  show gW p l e R s m args below meth c _ D A 3 (gZ0 s) 0 0 ad 265 (mem ad t F G) 0 [(0, .ref (ad 0)), (1, .int (iI i))] []
  refine g_iload_n ok d_Dk_stop_0 rfl 1 rfl ?_
  refine g_if_ge ok 6 d_Dk_stop_1 (by decide) (by omega) (fun h1 => ?_) (fun h1 => ?_)
  · refine g_iload_n ok d_Dk_stop_6 rfl 1 rfl ?_
    refine g_istore_n (lv' := [(2, .int (iI i)), (0, .ref (ad 0)), (1, .int (iI i))]) ok d_Dk_stop_7 rfl (by decide) rfl ?_
    have L_j : ∀ (n_j : Nat) (j : Int), (0 ≤ i ∧ i ≤ j ∧ (j ≤ F 236 1 ∨ j = i)) → (∀ a : Int, i ≤ a → a < j → ¬ cK G a = 3) → (F 236 1 + 1 - j + i) < (n_j : Int) → gW p l e R s m args below meth c (MQ below (gQp (fun z => (z = -1 ∧ (i < 0 ∨ ∀ a : Int, i ≤ a → a < F 236 1 → ¬ cK G a = 3)) ∨ ((0 ≤ i ∧ i ≤ z ∧ z < F 236 1) ∧ cK G z = 3 ∧ ∀ a : Int, i ≤ a → a < z → ¬ cK G a = 3))) args s 0 0 (fun _ => False)) D A 3 (gZ0 s) 0 0 ad 265 (mem ad t F G) 8 [(0, .ref (ad 0)), (1, .int (iI i)), (2, .int (iI j))] [] := by
      intro n_j
      induction n_j with
      | zero =>
        intro j hj ho hm_j
        exact absurd hm_j (by omega)
      | succ n_j ih_j =>
        intro j hj ho hm_j
        refine g_iload_n ok d_Dk_stop_8 rfl 2 rfl ?_
        refine g_aload_n ok d_Dk_stop_9 rfl 0 rfl ?_
        refine gI_Dk_path ok _ rfl k_322 d_Dk_stop_10 ?_
        refine gN_Pa_size ok _ rfl k_258 d_Dk_stop_13 ?_
        refine g_icmp_ge ok 39 d_Dk_stop_16 (by decide) (by omega) (by omega) (fun h2 => ?_) (fun h2 => ?_)
        · refine g_iconst ok d_Dk_stop_39 ?_
          exact g_ipret ok d_Dk_stop_40 (Or.inl ⟨rfl, Or.inr (fun a q1 q2 => ho a q1 (by omega))⟩)
        · refine g_aload_n ok d_Dk_stop_19 rfl 0 rfl ?_
          refine gI_Dk_path ok _ rfl k_322 d_Dk_stop_20 ?_
          refine g_iload_n ok d_Dk_stop_23 rfl 2 rfl ?_
          refine g_callPVN (As := [.int (iI j)]) (st := []) ok _ (c_Pa_kind F G _ (by omega) (hC _ (by omega) (by omega)) s0 a0 D t ad) k_627 k_9 k_654 cl_Pa (m_Pa (ad := ad) (t := t) (F := F) (G := G) rfl).1 (m_Pa rfl).2 k_626 s_Pa_kind q_Pa_kind (by decide) (Nat.le_of_ble_eq_true rfl) (by decide) d_Dk_stop_24 (fun z3 hc3 => ?_)
          subst hc3
          have hkj := hC j (by omega) (by omega)
          refine g_iconst ok d_Dk_stop_27 ?_
          refine g_icmp_ne ok 33 d_Dk_stop_28 (by decide) (by omega) (by omega) (fun h4 => ?_) (fun h4 => ?_)
          · refine g_iinc (lv' := [(2, .int (iI (j + 1))), (0, .ref (ad 0)), (1, .int (iI i))]) ok d_Dk_stop_33 2 rfl (by decide) rfl ?_
            refine g_goto ok 8 d_Dk_stop_36 (by decide) ?_
            refine g_lv [1, 2, 0] rfl ?_
            exact ih_j (j + 1) (by omega) (fun a q1 q2 => (Int.lt_or_eq_of_le (show a ≤ j by omega)).elim (fun q => ho a q1 q) (fun q => by subst q; exact h4)) (by omega)
          · refine g_iload_n ok d_Dk_stop_31 rfl 2 rfl ?_
            exact g_ipret ok d_Dk_stop_32 (Or.inr ⟨by omega, by unfold cK; omega, ho⟩)
    refine g_lv [1, 2, 0] rfl ?_
    exact L_j ((F 236 1 + 1 - i + i : Int).toNat + 1) i (by omega) (fun a q1 q2 => by omega) (by omega)
  · refine g_iconst ok d_Dk_stop_4 ?_
    exact g_ipret ok d_Dk_stop_5 (Or.inl ⟨rfl, Or.inl (by omega)⟩)
theorem d_Dk_needle_0 : decode b_Dk_needle 0 = .ok (.iload_n 1, 1) := by decide +kernel
theorem d_Dk_needle_1 : decode b_Dk_needle 1 = .ok (.ifCond .lt 14, 3) := by decide +kernel
theorem d_Dk_needle_4 : decode b_Dk_needle 4 = .ok (.iload_n 1, 1) := by decide +kernel
theorem d_Dk_needle_5 : decode b_Dk_needle 5 = .ok (.aload_n 0, 1) := by decide +kernel
theorem d_Dk_needle_6 : decode b_Dk_needle 6 = .ok (.getfield 48, 3) := by decide +kernel
theorem d_Dk_needle_9 : decode b_Dk_needle 9 = .ok (.getfield 183, 3) := by decide +kernel
theorem d_Dk_needle_12 : decode b_Dk_needle 12 = .ok (.if_icmp .le 13, 3) := by decide +kernel
theorem d_Dk_needle_15 : decode b_Dk_needle 15 = .ok (.new 202, 3) := by decide +kernel
theorem d_Dk_needle_18 : decode b_Dk_needle 18 = .ok (.dup, 1) := by decide +kernel
theorem d_Dk_needle_19 : decode b_Dk_needle 19 = .ok (.ldc 249, 2) := by decide +kernel
theorem d_Dk_needle_21 : decode b_Dk_needle 21 = .ok (.invokespecial 206, 3) := by decide +kernel
theorem d_Dk_needle_24 : decode b_Dk_needle 24 = .ok (.athrow, 1) := by decide +kernel
theorem d_Dk_needle_25 : decode b_Dk_needle 25 = .ok (.iload_n 2, 1) := by decide +kernel
theorem d_Dk_needle_26 : decode b_Dk_needle 26 = .ok (.ifCond .eq 18, 3) := by decide +kernel
theorem d_Dk_needle_29 : decode b_Dk_needle 29 = .ok (.iload_n 2, 1) := by decide +kernel
theorem d_Dk_needle_30 : decode b_Dk_needle 30 = .ok (.iconst 1, 1) := by decide +kernel
theorem d_Dk_needle_31 : decode b_Dk_needle 31 = .ok (.if_icmp .eq 13, 3) := by decide +kernel
theorem d_Dk_needle_34 : decode b_Dk_needle 34 = .ok (.new 80, 3) := by decide +kernel
theorem d_Dk_needle_37 : decode b_Dk_needle 37 = .ok (.dup, 1) := by decide +kernel
theorem d_Dk_needle_38 : decode b_Dk_needle 38 = .ok (.ldc 251, 2) := by decide +kernel
theorem d_Dk_needle_40 : decode b_Dk_needle 40 = .ok (.invokespecial 84, 3) := by decide +kernel
theorem d_Dk_needle_43 : decode b_Dk_needle 43 = .ok (.athrow, 1) := by decide +kernel
theorem d_Dk_needle_44 : decode b_Dk_needle 44 = .ok (.iconst 0, 1) := by decide +kernel
theorem d_Dk_needle_45 : decode b_Dk_needle 45 = .ok (.istore_n 3, 1) := by decide +kernel
theorem d_Dk_needle_46 : decode b_Dk_needle 46 = .ok (.iconst 0, 1) := by decide +kernel
theorem d_Dk_needle_47 : decode b_Dk_needle 47 = .ok (.istore 4, 2) := by decide +kernel
theorem d_Dk_needle_49 : decode b_Dk_needle 49 = .ok (.iload 4, 2) := by decide +kernel
theorem d_Dk_needle_51 : decode b_Dk_needle 51 = .ok (.iload_n 1, 1) := by decide +kernel
theorem d_Dk_needle_52 : decode b_Dk_needle 52 = .ok (.if_icmp .ge 37, 3) := by decide +kernel
theorem d_Dk_needle_55 : decode b_Dk_needle 55 = .ok (.iload_n 3, 1) := by decide +kernel
theorem d_Dk_needle_56 : decode b_Dk_needle 56 = .ok (.iload_n 2, 1) := by decide +kernel
theorem d_Dk_needle_57 : decode b_Dk_needle 57 = .ok (.ifCond .ne 15, 3) := by decide +kernel
theorem d_Dk_needle_60 : decode b_Dk_needle 60 = .ok (.aload_n 0, 1) := by decide +kernel
theorem d_Dk_needle_61 : decode b_Dk_needle 61 = .ok (.getfield 48, 3) := by decide +kernel
theorem d_Dk_needle_64 : decode b_Dk_needle 64 = .ok (.iload 4, 2) := by decide +kernel
theorem d_Dk_needle_66 : decode b_Dk_needle 66 = .ok (.invokevirtual 207, 3) := by decide +kernel
theorem d_Dk_needle_69 : decode b_Dk_needle 69 = .ok (.goto 12, 3) := by decide +kernel
theorem d_Dk_needle_72 : decode b_Dk_needle 72 = .ok (.aload_n 0, 1) := by decide +kernel
theorem d_Dk_needle_73 : decode b_Dk_needle 73 = .ok (.getfield 48, 3) := by decide +kernel
theorem d_Dk_needle_76 : decode b_Dk_needle 76 = .ok (.iload 4, 2) := by decide +kernel
theorem d_Dk_needle_78 : decode b_Dk_needle 78 = .ok (.invokevirtual 211, 3) := by decide +kernel
theorem d_Dk_needle_81 : decode b_Dk_needle 81 = .ok (.iadd, 1) := by decide +kernel
theorem d_Dk_needle_82 : decode b_Dk_needle 82 = .ok (.istore_n 3, 1) := by decide +kernel
theorem d_Dk_needle_83 : decode b_Dk_needle 83 = .ok (.iinc 4 1, 3) := by decide +kernel
theorem d_Dk_needle_86 : decode b_Dk_needle 86 = .ok (.goto (-37), 3) := by decide +kernel
theorem d_Dk_needle_89 : decode b_Dk_needle 89 = .ok (.iload_n 3, 1) := by decide +kernel
theorem d_Dk_needle_90 : decode b_Dk_needle 90 = .ok (.ireturn, 1) := by decide +kernel
set_option maxHeartbeats 4000000 in
set_option maxRecDepth 100000 in
theorem c_Dk_needle (F : Nat → Nat → Int) (G : Nat → Int → Int) (i f : Int) (hp : pOk F G) (hi : 0 ≤ i ∧ i ≤ F 236 1) (hf : 0 ≤ f ∧ f ≤ 1) : cP y_Dk_needle b_Dk_needle 5 (some .int) 6 82 F G (fun ad => [.ref (ad 0), .int (iI i), .int (iI f)]) (fun z => z = sumN (if f = 0 then cX G else cY G) i.toNat) := by
  obtain ⟨hs, hC⟩ := hp
  intro s0 a0 D t ad
  refine g_startP (by decide +kernel) (Nat.le_of_ble_eq_true rfl) (fun p l e R s m args below meth c A ok => ?_)
  show gW p l e R s m args below meth c _ D A 5 (gZ0 s) 0 0 ad 265 (mem ad t F G) 0 [(0, .ref (ad 0)), (1, .int (iI i)), (2, .int (iI f))] []
  refine g_iload_n ok d_Dk_needle_0 rfl 1 rfl ?_
  refine g_if_lt ok 15 d_Dk_needle_1 (by decide) (by omega) (fun h1 => ?_) (fun h1 => ?_)
  · exfalso; omega
  · refine g_iload_n ok d_Dk_needle_4 rfl 1 rfl ?_
    refine g_aload_n ok d_Dk_needle_5 rfl 0 rfl ?_
    refine gI_Dk_path ok _ rfl k_322 d_Dk_needle_6 ?_
    refine gN_Pa_size ok _ rfl k_258 d_Dk_needle_9 ?_
    refine g_icmp_le ok 25 d_Dk_needle_12 (by decide) (by omega) (by omega) (fun h2 => ?_) (fun h2 => ?_)
    · refine g_iload_n ok d_Dk_needle_25 rfl 2 rfl ?_
      refine g_if_eq ok 44 d_Dk_needle_26 (by decide) (by omega) (fun h3 => ?_) (fun h3 => ?_)
      · refine g_iconst ok d_Dk_needle_44 ?_
        refine g_istore_n (lv' := [(3, .int (iI 0)), (0, .ref (ad 0)), (1, .int (iI i)), (2, .int (iI f))]) ok d_Dk_needle_45 rfl (by decide) rfl ?_
        refine g_iconst ok d_Dk_needle_46 ?_
        refine g_istore (lv' := [(4, .int (iI 0)), (3, .int (iI 0)), (0, .ref (ad 0)), (1, .int (iI i)), (2, .int (iI f))]) ok d_Dk_needle_47 (by decide) rfl ?_
        have L_r : ∀ (n_r : Nat) (v : Int) (r : Int), (0 ≤ r ∧ r ≤ i) → (v = sumN (if f = 0 then cX G else cY G) r.toNat) → (i + 1 - r) < (n_r : Int) → gW p l e R s m args below meth c (MQ below (gQp (fun z => z = sumN (if f = 0 then cX G else cY G) i.toNat)) args s 0 0 (fun _ => False)) D A 5 (gZ0 s) 0 0 ad 265 (mem ad t F G) 49 [(0, .ref (ad 0)), (1, .int (iI i)), (2, .int (iI f)), (3, .int (iI v)), (4, .int (iI r))] [] := by
          intro n_r
          induction n_r with
          | zero =>
            intro v r hr hv hm_r
            exact absurd hm_r (by omega)
          | succ n_r ih_r =>
            intro v r hr hv hm_r
            refine g_iload ok d_Dk_needle_49 4 rfl ?_
            refine g_iload_n ok d_Dk_needle_51 rfl 1 rfl ?_
            refine g_icmp_ge ok 89 d_Dk_needle_52 (by decide) (by omega) (by omega) (fun h4 => ?_) (fun h4 => ?_)
            · refine g_iload_n ok d_Dk_needle_89 rfl 3 rfl ?_
              exact g_ipret ok d_Dk_needle_90 (by rw [hv, show r.toNat = i.toNat by omega])
            · refine g_iload_n ok d_Dk_needle_55 rfl 3 rfl ?_
              refine g_iload_n ok d_Dk_needle_56 rfl 2 rfl ?_
              refine g_if_ne ok 72 d_Dk_needle_57 (by decide) (by omega) (fun h5 => ?_) (fun h5 => ?_)
              · refine g_aload_n ok d_Dk_needle_72 rfl 0 rfl ?_
                refine gI_Dk_path ok _ rfl k_322 d_Dk_needle_73 ?_
                refine g_iload ok d_Dk_needle_76 4 rfl ?_
                refine g_callPVN (As := [.int (iI r)]) (st := [.int (iI v)]) ok _ (c_Pa_dy F G _ (by omega) (hC _ (by omega) (by omega)) s0 a0 D t ad) k_635 k_9 k_940 cl_Pa (m_Pa (ad := ad) (t := t) (F := F) (G := G) rfl).1 (m_Pa rfl).2 k_634 s_Pa_dy q_Pa_dy (by decide) (Nat.le_of_ble_eq_true rfl) (by decide) d_Dk_needle_78 (fun z6 hc6 => ?_)
                subst hc6
                refine g_iadd ok d_Dk_needle_81 ?_
                refine g_istore_n (lv' := [(3, .int (iI (v + (G 237 r / 256 % 256 - 128)))), (0, .ref (ad 0)), (1, .int (iI i)), (2, .int (iI f)), (4, .int (iI r))]) ok d_Dk_needle_82 rfl (by decide) rfl ?_
                refine g_iinc (lv' := [(4, .int (iI (r + 1))), (3, .int (iI (v + (G 237 r / 256 % 256 - 128)))), (0, .ref (ad 0)), (1, .int (iI i)), (2, .int (iI f))]) ok d_Dk_needle_83 4 rfl (by decide) rfl ?_
                refine g_goto ok 49 d_Dk_needle_86 (by decide) ?_
                refine g_lv [2, 3, 4, 1, 0] rfl ?_
                exact ih_r (v + (G 237 r / 256 % 256 - 128)) (r + 1) (by omega) (by rw [sumN_step hr.1, hv, if_neg (by omega)]; rfl) (by omega)
              · refine g_aload_n ok d_Dk_needle_60 rfl 0 rfl ?_
                refine gI_Dk_path ok _ rfl k_322 d_Dk_needle_61 ?_
                refine g_iload ok d_Dk_needle_64 4 rfl ?_
                refine g_callPVN (As := [.int (iI r)]) (st := [.int (iI v)]) ok _ (c_Pa_dx F G _ (by omega) (hC _ (by omega) (by omega)) s0 a0 D t ad) k_631 k_9 k_939 cl_Pa (m_Pa (ad := ad) (t := t) (F := F) (G := G) rfl).1 (m_Pa rfl).2 k_630 s_Pa_dx q_Pa_dx (by decide) (Nat.le_of_ble_eq_true rfl) (by decide) d_Dk_needle_66 (fun z7 hc7 => ?_)
                subst hc7
                refine g_goto ok 81 d_Dk_needle_69 (by decide) ?_
                refine g_iadd ok d_Dk_needle_81 ?_
                refine g_istore_n (lv' := [(3, .int (iI (v + (G 237 r % 256 - 128)))), (0, .ref (ad 0)), (1, .int (iI i)), (2, .int (iI f)), (4, .int (iI r))]) ok d_Dk_needle_82 rfl (by decide) rfl ?_
                refine g_iinc (lv' := [(4, .int (iI (r + 1))), (3, .int (iI (v + (G 237 r % 256 - 128)))), (0, .ref (ad 0)), (1, .int (iI i)), (2, .int (iI f))]) ok d_Dk_needle_83 4 rfl (by decide) rfl ?_
                refine g_goto ok 49 d_Dk_needle_86 (by decide) ?_
                refine g_lv [2, 3, 4, 1, 0] rfl ?_
                exact ih_r (v + (G 237 r % 256 - 128)) (r + 1) (by omega) (by rw [sumN_step hr.1, hv, if_pos (by omega)]; rfl) (by omega)
        refine g_lv [2, 3, 4, 1, 0] rfl ?_
        exact L_r ((i + 1 - 0 : Int).toNat + 1) 0 0 (by omega) (rfl) (by omega)
      · refine g_iload_n ok d_Dk_needle_29 rfl 2 rfl ?_
        refine g_iconst ok d_Dk_needle_30 ?_
        refine g_icmp_eq ok 44 d_Dk_needle_31 (by decide) (by omega) (by omega) (fun h8 => ?_) (fun h8 => ?_)
        · refine g_iconst ok d_Dk_needle_44 ?_
          refine g_istore_n (lv' := [(3, .int (iI 0)), (0, .ref (ad 0)), (1, .int (iI i)), (2, .int (iI f))]) ok d_Dk_needle_45 rfl (by decide) rfl ?_
          refine g_iconst ok d_Dk_needle_46 ?_
          refine g_istore (lv' := [(4, .int (iI 0)), (3, .int (iI 0)), (0, .ref (ad 0)), (1, .int (iI i)), (2, .int (iI f))]) ok d_Dk_needle_47 (by decide) rfl ?_
          have L_r : ∀ (n_r : Nat) (v : Int) (r : Int), (0 ≤ r ∧ r ≤ i) → (v = sumN (if f = 0 then cX G else cY G) r.toNat) → (i + 1 - r) < (n_r : Int) → gW p l e R s m args below meth c (MQ below (gQp (fun z => z = sumN (if f = 0 then cX G else cY G) i.toNat)) args s 0 0 (fun _ => False)) D A 5 (gZ0 s) 0 0 ad 265 (mem ad t F G) 49 [(0, .ref (ad 0)), (1, .int (iI i)), (2, .int (iI f)), (3, .int (iI v)), (4, .int (iI r))] [] := by
            intro n_r
            induction n_r with
            | zero =>
              intro v r hr hv hm_r
              exact absurd hm_r (by omega)
            | succ n_r ih_r =>
              intro v r hr hv hm_r
              refine g_iload ok d_Dk_needle_49 4 rfl ?_
              refine g_iload_n ok d_Dk_needle_51 rfl 1 rfl ?_
              refine g_icmp_ge ok 89 d_Dk_needle_52 (by decide) (by omega) (by omega) (fun h9 => ?_) (fun h9 => ?_)
              · refine g_iload_n ok d_Dk_needle_89 rfl 3 rfl ?_
                exact g_ipret ok d_Dk_needle_90 (by rw [hv, show r.toNat = i.toNat by omega])
              · refine g_iload_n ok d_Dk_needle_55 rfl 3 rfl ?_
                refine g_iload_n ok d_Dk_needle_56 rfl 2 rfl ?_
                refine g_if_ne ok 72 d_Dk_needle_57 (by decide) (by omega) (fun h10 => ?_) (fun h10 => ?_)
                · refine g_aload_n ok d_Dk_needle_72 rfl 0 rfl ?_
                  refine gI_Dk_path ok _ rfl k_322 d_Dk_needle_73 ?_
                  refine g_iload ok d_Dk_needle_76 4 rfl ?_
                  refine g_callPVN (As := [.int (iI r)]) (st := [.int (iI v)]) ok _ (c_Pa_dy F G _ (by omega) (hC _ (by omega) (by omega)) s0 a0 D t ad) k_635 k_9 k_940 cl_Pa (m_Pa (ad := ad) (t := t) (F := F) (G := G) rfl).1 (m_Pa rfl).2 k_634 s_Pa_dy q_Pa_dy (by decide) (Nat.le_of_ble_eq_true rfl) (by decide) d_Dk_needle_78 (fun z11 hc11 => ?_)
                  subst hc11
                  refine g_iadd ok d_Dk_needle_81 ?_
                  refine g_istore_n (lv' := [(3, .int (iI (v + (G 237 r / 256 % 256 - 128)))), (0, .ref (ad 0)), (1, .int (iI i)), (2, .int (iI f)), (4, .int (iI r))]) ok d_Dk_needle_82 rfl (by decide) rfl ?_
                  refine g_iinc (lv' := [(4, .int (iI (r + 1))), (3, .int (iI (v + (G 237 r / 256 % 256 - 128)))), (0, .ref (ad 0)), (1, .int (iI i)), (2, .int (iI f))]) ok d_Dk_needle_83 4 rfl (by decide) rfl ?_
                  refine g_goto ok 49 d_Dk_needle_86 (by decide) ?_
                  refine g_lv [2, 3, 4, 1, 0] rfl ?_
                  exact ih_r (v + (G 237 r / 256 % 256 - 128)) (r + 1) (by omega) (by rw [sumN_step hr.1, hv, if_neg (by omega)]; rfl) (by omega)
                · refine g_aload_n ok d_Dk_needle_60 rfl 0 rfl ?_
                  refine gI_Dk_path ok _ rfl k_322 d_Dk_needle_61 ?_
                  refine g_iload ok d_Dk_needle_64 4 rfl ?_
                  refine g_callPVN (As := [.int (iI r)]) (st := [.int (iI v)]) ok _ (c_Pa_dx F G _ (by omega) (hC _ (by omega) (by omega)) s0 a0 D t ad) k_631 k_9 k_939 cl_Pa (m_Pa (ad := ad) (t := t) (F := F) (G := G) rfl).1 (m_Pa rfl).2 k_630 s_Pa_dx q_Pa_dx (by decide) (Nat.le_of_ble_eq_true rfl) (by decide) d_Dk_needle_66 (fun z12 hc12 => ?_)
                  subst hc12
                  refine g_goto ok 81 d_Dk_needle_69 (by decide) ?_
                  refine g_iadd ok d_Dk_needle_81 ?_
                  refine g_istore_n (lv' := [(3, .int (iI (v + (G 237 r % 256 - 128)))), (0, .ref (ad 0)), (1, .int (iI i)), (2, .int (iI f)), (4, .int (iI r))]) ok d_Dk_needle_82 rfl (by decide) rfl ?_
                  refine g_iinc (lv' := [(4, .int (iI (r + 1))), (3, .int (iI (v + (G 237 r % 256 - 128)))), (0, .ref (ad 0)), (1, .int (iI i)), (2, .int (iI f))]) ok d_Dk_needle_83 4 rfl (by decide) rfl ?_
                  refine g_goto ok 49 d_Dk_needle_86 (by decide) ?_
                  refine g_lv [2, 3, 4, 1, 0] rfl ?_
                  exact ih_r (v + (G 237 r % 256 - 128)) (r + 1) (by omega) (by rw [sumN_step hr.1, hv, if_pos (by omega)]; rfl) (by omega)
          refine g_lv [2, 3, 4, 1, 0] rfl ?_
          exact L_r ((i + 1 - 0 : Int).toNat + 1) 0 0 (by omega) (rfl) (by omega)
        · exfalso; omega
    · exfalso; omega
theorem d_Pa_fits_0 : decode b_Pa_fits 0 = .ok (.iconst 0, 1) := by decide +kernel
theorem d_Pa_fits_1 : decode b_Pa_fits 1 = .ok (.istore_n 3, 1) := by decide +kernel
theorem d_Pa_fits_2 : decode b_Pa_fits 2 = .ok (.iconst 0, 1) := by decide +kernel
theorem d_Pa_fits_3 : decode b_Pa_fits 3 = .ok (.istore 4, 2) := by decide +kernel
theorem d_Pa_fits_5 : decode b_Pa_fits 5 = .ok (.iconst 0, 1) := by decide +kernel
theorem d_Pa_fits_6 : decode b_Pa_fits 6 = .ok (.istore 5, 2) := by decide +kernel
theorem d_Pa_fits_8 : decode b_Pa_fits 8 = .ok (.iconst 0, 1) := by decide +kernel
theorem d_Pa_fits_9 : decode b_Pa_fits 9 = .ok (.istore 6, 2) := by decide +kernel
theorem d_Pa_fits_11 : decode b_Pa_fits 11 = .ok (.iconst 0, 1) := by decide +kernel
theorem d_Pa_fits_12 : decode b_Pa_fits 12 = .ok (.istore 7, 2) := by decide +kernel
theorem d_Pa_fits_14 : decode b_Pa_fits 14 = .ok (.iconst 0, 1) := by decide +kernel
theorem d_Pa_fits_15 : decode b_Pa_fits 15 = .ok (.istore 8, 2) := by decide +kernel
theorem d_Pa_fits_17 : decode b_Pa_fits 17 = .ok (.iconst 0, 1) := by decide +kernel
theorem d_Pa_fits_18 : decode b_Pa_fits 18 = .ok (.istore 9, 2) := by decide +kernel
theorem d_Pa_fits_20 : decode b_Pa_fits 20 = .ok (.iload 9, 2) := by decide +kernel
theorem d_Pa_fits_22 : decode b_Pa_fits 22 = .ok (.aload_n 0, 1) := by decide +kernel
theorem d_Pa_fits_23 : decode b_Pa_fits 23 = .ok (.getfield 15, 3) := by decide +kernel
theorem d_Pa_fits_26 : decode b_Pa_fits 26 = .ok (.if_icmp .ge 63, 3) := by decide +kernel
theorem d_Pa_fits_29 : decode b_Pa_fits 29 = .ok (.iload_n 3, 1) := by decide +kernel
theorem d_Pa_fits_30 : decode b_Pa_fits 30 = .ok (.aload_n 0, 1) := by decide +kernel
theorem d_Pa_fits_31 : decode b_Pa_fits 31 = .ok (.iload 9, 2) := by decide +kernel
theorem d_Pa_fits_33 : decode b_Pa_fits 33 = .ok (.invokevirtual 33, 3) := by decide +kernel
theorem d_Pa_fits_36 : decode b_Pa_fits 36 = .ok (.iadd, 1) := by decide +kernel
theorem d_Pa_fits_37 : decode b_Pa_fits 37 = .ok (.istore_n 3, 1) := by decide +kernel
theorem d_Pa_fits_38 : decode b_Pa_fits 38 = .ok (.iload 4, 2) := by decide +kernel
theorem d_Pa_fits_40 : decode b_Pa_fits 40 = .ok (.aload_n 0, 1) := by decide +kernel
theorem d_Pa_fits_41 : decode b_Pa_fits 41 = .ok (.iload 9, 2) := by decide +kernel
theorem d_Pa_fits_43 : decode b_Pa_fits 43 = .ok (.invokevirtual 27, 3) := by decide +kernel
theorem d_Pa_fits_46 : decode b_Pa_fits 46 = .ok (.iadd, 1) := by decide +kernel
theorem d_Pa_fits_47 : decode b_Pa_fits 47 = .ok (.istore 4, 2) := by decide +kernel
theorem d_Pa_fits_49 : decode b_Pa_fits 49 = .ok (.iload 5, 2) := by decide +kernel
theorem d_Pa_fits_51 : decode b_Pa_fits 51 = .ok (.iload_n 3, 1) := by decide +kernel
theorem d_Pa_fits_52 : decode b_Pa_fits 52 = .ok (.invokestatic 56, 3) := by decide +kernel
theorem d_Pa_fits_55 : decode b_Pa_fits 55 = .ok (.istore 5, 2) := by decide +kernel
theorem d_Pa_fits_57 : decode b_Pa_fits 57 = .ok (.iload 6, 2) := by decide +kernel
theorem d_Pa_fits_59 : decode b_Pa_fits 59 = .ok (.iload_n 3, 1) := by decide +kernel
theorem d_Pa_fits_60 : decode b_Pa_fits 60 = .ok (.invokestatic 53, 3) := by decide +kernel
theorem d_Pa_fits_63 : decode b_Pa_fits 63 = .ok (.istore 6, 2) := by decide +kernel
theorem d_Pa_fits_65 : decode b_Pa_fits 65 = .ok (.iload 7, 2) := by decide +kernel
theorem d_Pa_fits_67 : decode b_Pa_fits 67 = .ok (.iload 4, 2) := by decide +kernel
theorem d_Pa_fits_69 : decode b_Pa_fits 69 = .ok (.invokestatic 56, 3) := by decide +kernel
theorem d_Pa_fits_72 : decode b_Pa_fits 72 = .ok (.istore 7, 2) := by decide +kernel
theorem d_Pa_fits_74 : decode b_Pa_fits 74 = .ok (.iload 8, 2) := by decide +kernel
theorem d_Pa_fits_76 : decode b_Pa_fits 76 = .ok (.iload 4, 2) := by decide +kernel
theorem d_Pa_fits_78 : decode b_Pa_fits 78 = .ok (.invokestatic 53, 3) := by decide +kernel
theorem d_Pa_fits_81 : decode b_Pa_fits 81 = .ok (.istore 8, 2) := by decide +kernel
theorem d_Pa_fits_83 : decode b_Pa_fits 83 = .ok (.iinc 9 1, 3) := by decide +kernel
theorem d_Pa_fits_86 : decode b_Pa_fits 86 = .ok (.goto (-66), 3) := by decide +kernel
theorem d_Pa_fits_89 : decode b_Pa_fits 89 = .ok (.iload 6, 2) := by decide +kernel
theorem d_Pa_fits_91 : decode b_Pa_fits 91 = .ok (.iload 5, 2) := by decide +kernel
theorem d_Pa_fits_93 : decode b_Pa_fits 93 = .ok (.isub, 1) := by decide +kernel
theorem d_Pa_fits_94 : decode b_Pa_fits 94 = .ok (.iload_n 1, 1) := by decide +kernel
theorem d_Pa_fits_95 : decode b_Pa_fits 95 = .ok (.if_icmp .gt 16, 3) := by decide +kernel
theorem d_Pa_fits_98 : decode b_Pa_fits 98 = .ok (.iload 8, 2) := by decide +kernel
theorem d_Pa_fits_100 : decode b_Pa_fits 100 = .ok (.iload 7, 2) := by decide +kernel
theorem d_Pa_fits_102 : decode b_Pa_fits 102 = .ok (.isub, 1) := by decide +kernel
theorem d_Pa_fits_103 : decode b_Pa_fits 103 = .ok (.iload_n 2, 1) := by decide +kernel
theorem d_Pa_fits_104 : decode b_Pa_fits 104 = .ok (.if_icmp .gt 7, 3) := by decide +kernel
theorem d_Pa_fits_107 : decode b_Pa_fits 107 = .ok (.iconst 1, 1) := by decide +kernel
theorem d_Pa_fits_108 : decode b_Pa_fits 108 = .ok (.goto 4, 3) := by decide +kernel
theorem d_Pa_fits_111 : decode b_Pa_fits 111 = .ok (.iconst 0, 1) := by decide +kernel
theorem d_Pa_fits_112 : decode b_Pa_fits 112 = .ok (.ireturn, 1) := by decide +kernel
set_option maxHeartbeats 4000000 in
set_option maxRecDepth 100000 in
theorem c_Pa_fits (F : Nat → Nat → Int) (G : Nat → Int → Int) (w h : Int) (hw : -2147483648 ≤ w ∧ w < 2147483648) (hh : -2147483648 ≤ h ∧ h < 2147483648) (hp : pOk F G) : cP y_Pa_fits b_Pa_fits 10 (some .boolean) 1 21 F G (fun ad => [.ref (ad 236), .int (iI w), .int (iI h)]) (fun z => z = if pmax (cX G) (F 236 1).toNat - pmin (cX G) (F 236 1).toNat ≤ w ∧ pmax (cY G) (F 236 1).toNat - pmin (cY G) (F 236 1).toNat ≤ h then 1 else 0) := by
  obtain ⟨hs, hC⟩ := hp
  intro s0 a0 D t ad
  refine g_startP (by decide +kernel) (Nat.le_of_ble_eq_true rfl) (fun p l e R s m args below meth c A ok => ?_)
  show gW p l e R s m args below meth c _ D A 10 (gZ0 s) 0 0 ad 265 (mem ad t F G) 0 [(0, .ref (ad 236)), (1, .int (iI w)), (2, .int (iI h))] []
  refine g_iconst ok d_Pa_fits_0 ?_
  refine g_istore_n (lv' := [(3, .int (iI 0)), (0, .ref (ad 236)), (1, .int (iI w)), (2, .int (iI h))]) ok d_Pa_fits_1 rfl (by decide) rfl ?_
  refine g_iconst ok d_Pa_fits_2 ?_
  refine g_istore (lv' := [(4, .int (iI 0)), (3, .int (iI 0)), (0, .ref (ad 236)), (1, .int (iI w)), (2, .int (iI h))]) ok d_Pa_fits_3 (by decide) rfl ?_
  refine g_iconst ok d_Pa_fits_5 ?_
  refine g_istore (lv' := [(5, .int (iI 0)), (4, .int (iI 0)), (3, .int (iI 0)), (0, .ref (ad 236)), (1, .int (iI w)), (2, .int (iI h))]) ok d_Pa_fits_6 (by decide) rfl ?_
  refine g_iconst ok d_Pa_fits_8 ?_
  refine g_istore (lv' := [(6, .int (iI 0)), (5, .int (iI 0)), (4, .int (iI 0)), (3, .int (iI 0)), (0, .ref (ad 236)), (1, .int (iI w)), (2, .int (iI h))]) ok d_Pa_fits_9 (by decide) rfl ?_
  refine g_iconst ok d_Pa_fits_11 ?_
  refine g_istore (lv' := [(7, .int (iI 0)), (6, .int (iI 0)), (5, .int (iI 0)), (4, .int (iI 0)), (3, .int (iI 0)), (0, .ref (ad 236)), (1, .int (iI w)), (2, .int (iI h))]) ok d_Pa_fits_12 (by decide) rfl ?_
  refine g_iconst ok d_Pa_fits_14 ?_
  refine g_istore (lv' := [(8, .int (iI 0)), (7, .int (iI 0)), (6, .int (iI 0)), (5, .int (iI 0)), (4, .int (iI 0)), (3, .int (iI 0)), (0, .ref (ad 236)), (1, .int (iI w)), (2, .int (iI h))]) ok d_Pa_fits_15 (by decide) rfl ?_
  refine g_iconst ok d_Pa_fits_17 ?_
  refine g_istore (lv' := [(9, .int (iI 0)), (8, .int (iI 0)), (7, .int (iI 0)), (6, .int (iI 0)), (5, .int (iI 0)), (4, .int (iI 0)), (3, .int (iI 0)), (0, .ref (ad 236)), (1, .int (iI w)), (2, .int (iI h))]) ok d_Pa_fits_18 (by decide) rfl ?_
  have L_i : ∀ (n_i : Nat) (x : Int) (y : Int) (lf : Int) (rt : Int) (tp : Int) (bt : Int) (i : Int), (0 ≤ i ∧ i ≤ F 236 1) → ((-200 * i ≤ x ∧ x ≤ 200 * i) ∧ (-200 * i ≤ y ∧ y ≤ 200 * i) ∧ (-200 * i ≤ lf ∧ lf ≤ 0) ∧ (0 ≤ rt ∧ rt ≤ 200 * i) ∧ (-200 * i ≤ tp ∧ tp ≤ 0) ∧ (0 ≤ bt ∧ bt ≤ 200 * i)) → (x = sumN (cX G) i.toNat ∧ y = sumN (cY G) i.toNat ∧ lf = pmin (cX G) i.toNat ∧ rt = pmax (cX G) i.toNat ∧ tp = pmin (cY G) i.toNat ∧ bt = pmax (cY G) i.toNat) → (F 236 1 + 1 - i) < (n_i : Int) → gW p l e R s m args below meth c (MQ below (gQp (fun z => z = if pmax (cX G) (F 236 1).toNat - pmin (cX G) (F 236 1).toNat ≤ w ∧ pmax (cY G) (F 236 1).toNat - pmin (cY G) (F 236 1).toNat ≤ h then 1 else 0)) args s 0 0 (fun _ => False)) D A 10 (gZ0 s) 0 0 ad 265 (mem ad t F G) 20 [(0, .ref (ad 236)), (1, .int (iI w)), (2, .int (iI h)), (3, .int (iI x)), (4, .int (iI y)), (5, .int (iI lf)), (6, .int (iI rt)), (7, .int (iI tp)), (8, .int (iI bt)), (9, .int (iI i))] [] := by
    intro n_i
    induction n_i with
    | zero =>
      intro x y lf rt tp bt i hi hb hv hm_i
      exact absurd hm_i (by omega)
    | succ n_i ih_i =>
      intro x y lf rt tp bt i hi hb hv hm_i
      refine g_iload ok d_Pa_fits_20 9 rfl ?_
      refine g_aload_n ok d_Pa_fits_22 rfl 0 rfl ?_
      refine gI_Pa_size ok _ rfl k_257 d_Pa_fits_23 ?_
      refine g_icmp_ge ok 89 d_Pa_fits_26 (by decide) (by omega) (by omega) (fun h1 => ?_) (fun h1 => ?_)
      · have ei : (F 236 1).toNat = i.toNat := by omega
        obtain ⟨v1, v2, v3, v4, v5, v6⟩ := hv
        refine g_iload ok d_Pa_fits_89 6 rfl ?_
        refine g_iload ok d_Pa_fits_91 5 rfl ?_
        refine g_isub ok d_Pa_fits_93 ?_
        refine g_iload_n ok d_Pa_fits_94 rfl 1 rfl ?_
        refine g_icmp_gt ok 111 d_Pa_fits_95 (by decide) (by omega) (by omega) (fun h2 => ?_) (fun h2 => ?_)
        · refine g_iconst ok d_Pa_fits_111 ?_
          exact g_zpret ok d_Pa_fits_112 (by first | exact Or.inl rfl | exact Or.inr rfl | omega) (by rw [ei, ← v3, ← v4, ← v5, ← v6]; split <;> omega)
        · refine g_iload ok d_Pa_fits_98 8 rfl ?_
          refine g_iload ok d_Pa_fits_100 7 rfl ?_
          refine g_isub ok d_Pa_fits_102 ?_
          refine g_iload_n ok d_Pa_fits_103 rfl 2 rfl ?_
          refine g_icmp_gt ok 111 d_Pa_fits_104 (by decide) (by omega) (by omega) (fun h3 => ?_) (fun h3 => ?_)
          · refine g_iconst ok d_Pa_fits_111 ?_
            exact g_zpret ok d_Pa_fits_112 (by first | exact Or.inl rfl | exact Or.inr rfl | omega) (by rw [ei, ← v3, ← v4, ← v5, ← v6]; split <;> omega)
          · refine g_iconst ok d_Pa_fits_107 ?_
            refine g_goto ok 112 d_Pa_fits_108 (by decide) ?_
            exact g_zpret ok d_Pa_fits_112 (by first | exact Or.inl rfl | exact Or.inr rfl | omega) (by rw [ei, ← v3, ← v4, ← v5, ← v6]; split <;> omega)
      · have hci := hC i (by omega) (by omega)
        refine g_iload_n ok d_Pa_fits_29 rfl 3 rfl ?_
        refine g_aload_n ok d_Pa_fits_30 rfl 0 rfl ?_
        refine g_iload ok d_Pa_fits_31 9 rfl ?_
        refine g_callPV (As := [.int (iI i)]) (st := [.int (iI x)]) ok _ (c_Pa_dx F G _ (by omega) (hC _ (by omega) (by omega)) s0 a0 D t ad) k_631 k_9 k_628 cl_Pa (m_Pa (ad := ad) (t := t) (F := F) (G := G) rfl).1 (m_Pa rfl).2 k_630 s_Pa_dx q_Pa_dx (by decide) (Nat.le_of_ble_eq_true rfl) (by decide) d_Pa_fits_33 (fun z4 hc4 => ?_)
        subst hc4
        refine g_iadd ok d_Pa_fits_36 ?_
        refine g_istore_n (lv' := [(3, .int (iI (x + (G 237 i % 256 - 128)))), (0, .ref (ad 236)), (1, .int (iI w)), (2, .int (iI h)), (4, .int (iI y)), (5, .int (iI lf)), (6, .int (iI rt)), (7, .int (iI tp)), (8, .int (iI bt)), (9, .int (iI i))]) ok d_Pa_fits_37 rfl (by decide) rfl ?_
        refine g_iload ok d_Pa_fits_38 4 rfl ?_
        refine g_aload_n ok d_Pa_fits_40 rfl 1 rfl ?_
        refine g_iload ok d_Pa_fits_41 9 rfl ?_
        refine g_callPV (As := [.int (iI i)]) (st := [.int (iI y)]) ok _ (c_Pa_dy F G _ (by omega) (hC _ (by omega) (by omega)) s0 a0 D t ad) k_635 k_9 k_632 cl_Pa (m_Pa (ad := ad) (t := t) (F := F) (G := G) rfl).1 (m_Pa rfl).2 k_634 s_Pa_dy q_Pa_dy (by decide) (Nat.le_of_ble_eq_true rfl) (by decide) d_Pa_fits_43 (fun z5 hc5 => ?_)
        subst hc5
        refine g_iadd ok d_Pa_fits_46 ?_
        refine g_istore (lv' := [(4, .int (iI (y + (G 237 i / 256 % 256 - 128)))), (3, .int (iI (x + (G 237 i % 256 - 128)))), (0, .ref (ad 236)), (1, .int (iI w)), (2, .int (iI h)), (5, .int (iI lf)), (6, .int (iI rt)), (7, .int (iI tp)), (8, .int (iI bt)), (9, .int (iI i))]) ok d_Pa_fits_47 (by decide) rfl ?_
        refine g_iload ok d_Pa_fits_49 5 rfl ?_
        refine g_iload_n ok d_Pa_fits_51 rfl 1 rfl ?_
        refine g_callPS (As := [.int (iI lf), .int (iI (x + (G 237 i % 256 - 128)))]) (st := []) ok (c_Ma_min F G _ _ (by omega) (by omega) s0 a0 D t ad) k_417 k_18 k_649 k_416 q_Ma_min (by decide) (Nat.le_of_ble_eq_true rfl) (by decide) d_Pa_fits_52 (fun z6 hc6 => ?_)
        subst hc6
        refine g_istore (lv' := [(5, .int (iI (min lf (x + (G 237 i % 256 - 128))))), (4, .int (iI (y + (G 237 i / 256 % 256 - 128)))), (3, .int (iI (x + (G 237 i % 256 - 128)))), (0, .ref (ad 236)), (1, .int (iI w)), (2, .int (iI h)), (6, .int (iI rt)), (7, .int (iI tp)), (8, .int (iI bt)), (9, .int (iI i))]) ok d_Pa_fits_55 (by decide) rfl ?_
        refine g_iload ok d_Pa_fits_57 6 rfl ?_
        refine g_iload_n ok d_Pa_fits_59 rfl 2 rfl ?_
        refine g_callPS (As := [.int (iI rt), .int (iI (x + (G 237 i % 256 - 128)))]) (st := []) ok (c_Ma_max F G _ _ (by omega) (by omega) s0 a0 D t ad) k_414 k_18 k_640 k_413 q_Ma_max (by decide) (Nat.le_of_ble_eq_true rfl) (by decide) d_Pa_fits_60 (fun z7 hc7 => ?_)
        subst hc7
        refine g_istore (lv' := [(6, .int (iI (max rt (x + (G 237 i % 256 - 128))))), (5, .int (iI (min lf (x + (G 237 i % 256 - 128))))), (4, .int (iI (y + (G 237 i / 256 % 256 - 128)))), (3, .int (iI (x + (G 237 i % 256 - 128)))), (0, .ref (ad 236)), (1, .int (iI w)), (2, .int (iI h)), (7, .int (iI tp)), (8, .int (iI bt)), (9, .int (iI i))]) ok d_Pa_fits_63 (by decide) rfl ?_
        refine g_iload ok d_Pa_fits_65 7 rfl ?_
        refine g_iload ok d_Pa_fits_67 2 rfl ?_
        refine g_callPS (As := [.int (iI tp), .int (iI (y + (G 237 i / 256 % 256 - 128)))]) (st := []) ok (c_Ma_min F G _ _ (by omega) (by omega) s0 a0 D t ad) k_417 k_18 k_649 k_416 q_Ma_min (by decide) (Nat.le_of_ble_eq_true rfl) (by decide) d_Pa_fits_69 (fun z8 hc8 => ?_)
        subst hc8
        refine g_istore (lv' := [(7, .int (iI (min tp (y + (G 237 i / 256 % 256 - 128))))), (6, .int (iI (max rt (x + (G 237 i % 256 - 128))))), (5, .int (iI (min lf (x + (G 237 i % 256 - 128))))), (4, .int (iI (y + (G 237 i / 256 % 256 - 128)))), (3, .int (iI (x + (G 237 i % 256 - 128)))), (0, .ref (ad 236)), (1, .int (iI w)), (2, .int (iI h)), (8, .int (iI bt)), (9, .int (iI i))]) ok d_Pa_fits_72 (by decide) rfl ?_
        refine g_iload ok d_Pa_fits_74 8 rfl ?_
        refine g_iload ok d_Pa_fits_76 3 rfl ?_
        refine g_callPS (As := [.int (iI bt), .int (iI (y + (G 237 i / 256 % 256 - 128)))]) (st := []) ok (c_Ma_max F G _ _ (by omega) (by omega) s0 a0 D t ad) k_414 k_18 k_640 k_413 q_Ma_max (by decide) (Nat.le_of_ble_eq_true rfl) (by decide) d_Pa_fits_78 (fun z9 hc9 => ?_)
        subst hc9
        refine g_istore (lv' := [(8, .int (iI (max bt (y + (G 237 i / 256 % 256 - 128))))), (7, .int (iI (min tp (y + (G 237 i / 256 % 256 - 128))))), (6, .int (iI (max rt (x + (G 237 i % 256 - 128))))), (5, .int (iI (min lf (x + (G 237 i % 256 - 128))))), (4, .int (iI (y + (G 237 i / 256 % 256 - 128)))), (3, .int (iI (x + (G 237 i % 256 - 128)))), (0, .ref (ad 236)), (1, .int (iI w)), (2, .int (iI h)), (9, .int (iI i))]) ok d_Pa_fits_81 (by decide) rfl ?_
        refine g_iinc (lv' := [(9, .int (iI (i + 1))), (8, .int (iI (max bt (y + (G 237 i / 256 % 256 - 128))))), (7, .int (iI (min tp (y + (G 237 i / 256 % 256 - 128))))), (6, .int (iI (max rt (x + (G 237 i % 256 - 128))))), (5, .int (iI (min lf (x + (G 237 i % 256 - 128))))), (4, .int (iI (y + (G 237 i / 256 % 256 - 128)))), (3, .int (iI (x + (G 237 i % 256 - 128)))), (0, .ref (ad 236)), (1, .int (iI w)), (2, .int (iI h))]) ok d_Pa_fits_83 9 rfl (by decide) rfl ?_
        refine g_goto ok 20 d_Pa_fits_86 (by decide) ?_
        refine g_lv [7, 8, 9, 6, 5, 4, 3, 2, 1, 0] rfl ?_
        exact ih_i (x + (G 237 i % 256 - 128)) (y + (G 237 i / 256 % 256 - 128)) (min lf (x + (G 237 i % 256 - 128))) (max rt (x + (G 237 i % 256 - 128))) (min tp (y + (G 237 i / 256 % 256 - 128))) (max bt (y + (G 237 i / 256 % 256 - 128))) (i + 1) (by omega) (by omega) (by obtain ⟨v1, v2, v3, v4, v5, v6⟩ := hv; rw [pmin_step hi.1, pmin_step hi.1, pmax_step hi.1, pmax_step hi.1, sumN_step hi.1, sumN_step hi.1, ← v1, ← v2, ← v3, ← v4, ← v5, ← v6]; exact ⟨rfl, rfl, rfl, rfl, rfl, rfl⟩) (by omega)
  refine g_lv [7, 8, 9, 6, 5, 4, 3, 2, 1, 0] rfl ?_
  exact L_i ((F 236 1 + 1 - 0 : Int).toNat + 1) 0 0 0 0 0 0 0 (by omega) (by omega) (⟨rfl, rfl, rfl, rfl, rfl, rfl⟩) (by omega)
theorem d_Dk_hoop_0 : decode b_Dk_hoop 0 = .ok (.aload_n 0, 1) := by decide +kernel
theorem d_Dk_hoop_1 : decode b_Dk_hoop 1 = .ok (.getfield 48, 3) := by decide +kernel
theorem d_Dk_hoop_4 : decode b_Dk_hoop 4 = .ok (.iload_n 1, 1) := by decide +kernel
theorem d_Dk_hoop_5 : decode b_Dk_hoop 5 = .ok (.iload_n 2, 1) := by decide +kernel
theorem d_Dk_hoop_6 : decode b_Dk_hoop 6 = .ok (.invokevirtual 253, 3) := by decide +kernel
theorem d_Dk_hoop_9 : decode b_Dk_hoop 9 = .ok (.ireturn, 1) := by decide +kernel
set_option maxHeartbeats 4000000 in
set_option maxRecDepth 100000 in
theorem c_Dk_hoop (F : Nat → Nat → Int) (G : Nat → Int → Int) (w h : Int) (hw : -2147483648 ≤ w ∧ w < 2147483648) (hh : -2147483648 ≤ h ∧ h < 2147483648) (hp : pOk F G) : cP y_Dk_hoop b_Dk_hoop 3 (some .boolean) 2 50 F G (fun ad => [.ref (ad 0), .int (iI w), .int (iI h)]) (fun z => z = if pmax (cX G) (F 236 1).toNat - pmin (cX G) (F 236 1).toNat ≤ w ∧ pmax (cY G) (F 236 1).toNat - pmin (cY G) (F 236 1).toNat ≤ h then 1 else 0) := by
  intro s0 a0 D t ad
  refine g_startP (by decide +kernel) (Nat.le_of_ble_eq_true rfl) (fun p l e R s m args below meth c A ok => ?_)
  show gW p l e R s m args below meth c _ D A 3 (gZ0 s) 0 0 ad 265 (mem ad t F G) 0 [(0, .ref (ad 0)), (1, .int (iI w)), (2, .int (iI h))] []
  refine g_aload_n ok d_Dk_hoop_0 rfl 0 rfl ?_
  refine gI_Dk_path ok _ rfl k_322 d_Dk_hoop_1 ?_
  refine g_iload_n ok d_Dk_hoop_4 rfl 1 rfl ?_
  refine g_iload_n ok d_Dk_hoop_5 rfl 2 rfl ?_
  refine g_callPVN (As := [.int (iI w), .int (iI h)]) (st := []) ok _ (c_Pa_fits F G _ _ hw hh hp s0 a0 D t ad) k_648 k_9 k_645 cl_Pa (m_Pa (ad := ad) (t := t) (F := F) (G := G) rfl).1 (m_Pa rfl).2 k_647 s_Pa_fits q_Pa_fits (by decide) (Nat.le_of_ble_eq_true rfl) (by decide) d_Dk_hoop_6 (fun z1 hc1 => ?_)
  exact g_zpret ok d_Dk_hoop_9 (by rw [hc1]; split <;> simp) hc1
