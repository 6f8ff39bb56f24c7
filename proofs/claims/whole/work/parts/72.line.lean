/-! one line of a hatch: spans, events -/
theorem fU2_id (F : Nat → Nat → Int) (k i j : Nat) : F = fU (fU F k i (F k i)) k j (F k j) := by
  rw [fU_id (k := k) (j := i) rfl, fU_id rfl]
theorem fU2_lo {F : Nat → Nat → Int} {k i j : Nat} {v : Int} (h : j ≠ i) : fU F k i v = fU (fU F k i v) k j (F k j) := (fU_id (fU_ja h)).symm
theorem fU2_hi {F : Nat → Nat → Int} {k i j : Nat} {v : Int} : fU F k j v = fU (fU F k i (F k i)) k j v := by
  rw [fU_id (k := k) (j := i) rfl]
theorem iI_neA {y : Int} (hy : -2147483648 ≤ y ∧ y < 2147483648) (h : ¬ y = 0) : ¬ iI y = 0 := by
  rw [iI_zero, iI_eq hy (by omega)]
  exact h
theorem iI_divA {x y : Int} (hx : -2147483648 ≤ x ∧ x < 2147483648) (hy : -2147483648 ≤ y ∧ y < 2147483648) : iI x / iI y = iI (x.tdiv y) := by
  apply Int32.toInt_inj.mp
  rw [Int32.toInt_div, iI_toInt hx, iI_toInt hy]
  unfold iI
  rw [Int32.toInt_ofInt]
theorem iI_remA {x y : Int} (hx : -2147483648 ≤ x ∧ x < 2147483648) (hy : -2147483648 ≤ y ∧ y < 2147483648) : iI x - iI x / iI y * iI y = iI (x.tmod y) := by
  rw [iI_divA hx hy, iI_mul, iI_sub, Int.tmod_def, Int.mul_comm]
theorem tmod_rngA {a : Int} (b : Int) (ha : -3000000 ≤ a ∧ a ≤ 3000000) : -3000000 ≤ a.tmod b ∧ a.tmod b ≤ 3000000 := by
  have h2 : (a.tmod b).natAbs ≤ a.natAbs := by
    rw [Int.natAbs_tmod]
    exact Nat.mod_le _ _
  omega
theorem tdiv_rngA {a : Int} (b : Int) (ha : -3000000 ≤ a ∧ a ≤ 3000000) : -3000000 ≤ a.tdiv b ∧ a.tdiv b ≤ 3000000 := by
  have h2 : (a.tdiv b).natAbs ≤ a.natAbs := by
    rw [Int.natAbs_tdiv]
    exact Nat.div_le_self _ _
  omega
theorem zr_none {sl b p : Int} (h : ¬ b.tmod sl = 0) : ¬ sl * p + b = 0 := fun e => h (by
  have : b = sl * (-p) := by
    rw [Int.mul_neg]
    omega
  rw [this]
  exact Int.mul_tmod_right _ _)
theorem zr_one {sl b p : Int} (hs : ¬ sl = 0) (h : b.tmod sl = 0) : sl * p + b = 0 ↔ p = (-b).tdiv sl := by
  obtain ⟨c, hc⟩ := Int.dvd_of_tmod_eq_zero h
  have e : -b = sl * (-c) := by
    rw [Int.mul_neg, hc]
  rw [e, Int.mul_tdiv_cancel_left _ hs, hc, ← Int.mul_add]
  constructor
  · intro z
    rcases Int.mul_eq_zero.mp z with z | z
    · exact absurd z hs
    · omega
  · intro z
    rw [show p + c = 0 by omega, Int.mul_zero]
theorem ediv_rngA {a c : Int} (ha : -3000001 ≤ a ∧ a ≤ 3000001) (hc : 0 < c) : -3000001 ≤ a / c ∧ a / c ≤ 3000001 :=
  ⟨Int.le_ediv_of_mul_le hc (by omega), Int.ediv_le_of_le_mul hc (by omega)⟩
theorem ediv_rngB {a c : Int} (ha : -3000000 ≤ a ∧ a ≤ 3000000) (hc : 0 < c) : -3000000 ≤ a / c ∧ a / c ≤ 3000000 :=
  ⟨Int.le_ediv_of_mul_le hc (by omega), Int.ediv_le_of_le_mul hc (by omega)⟩
theorem gt_pos {sl b p : Int} (h : 0 < sl) : 0 < sl * p + b ↔ (-b) / sl + 1 ≤ p := by
  have z := Int.ediv_lt_iff_lt_mul (a := -b) (b := p) h
  rw [Int.mul_comm p sl] at z
  constructor
  · intro q
    have := z.mpr (by omega)
    omega
  · intro q
    have := z.mp (by omega)
    omega
theorem gt_neg {sl b p : Int} (h : sl < 0) : 0 < sl * p + b ↔ p ≤ (b - 1) / (-sl) := by
  have z := Int.le_ediv_iff_mul_le (a := p) (b := b - 1) (c := -sl) (by omega)
  rw [Int.mul_neg, Int.mul_comm p sl] at z
  constructor
  · intro q
    exact z.mpr (by omega)
  · intro q
    have := z.mp q
    omega
/-- the span has become the places of the old one with Q -/
def spn (F F1 : Nat → Nat → Int) (Q : Int → Prop) : Prop := ∃ lo hi : Int, F1 = fU (fU F 231 11 lo) 231 12 hi ∧ (0 ≤ lo ∧ lo ≤ 3000001) ∧ (-3000001 ≤ hi ∧ hi ≤ 600) ∧ ∀ p : Int, (lo ≤ p ∧ p ≤ hi) ↔ ((F 231 11 ≤ p ∧ p ≤ F 231 12) ∧ Q p)
theorem d_Hl_xAt_0 : decode b_Hl_xAt 0 = .ok (.aload_n 0, 1) := by decide +kernel
theorem d_Hl_xAt_1 : decode b_Hl_xAt 1 = .ok (.getfield 21, 3) := by decide +kernel
theorem d_Hl_xAt_4 : decode b_Hl_xAt 4 = .ok (.iload_n 1, 1) := by decide +kernel
theorem d_Hl_xAt_5 : decode b_Hl_xAt 5 = .ok (.imul, 1) := by decide +kernel
theorem d_Hl_xAt_6 : decode b_Hl_xAt 6 = .ok (.aload_n 0, 1) := by decide +kernel
theorem d_Hl_xAt_7 : decode b_Hl_xAt 7 = .ok (.getfield 25, 3) := by decide +kernel
theorem d_Hl_xAt_10 : decode b_Hl_xAt 10 = .ok (.iadd, 1) := by decide +kernel
theorem d_Hl_xAt_11 : decode b_Hl_xAt 11 = .ok (.ireturn, 1) := by decide +kernel
set_option maxHeartbeats 1000000 in
set_option maxRecDepth 100000 in
theorem c_Hl_xAt (F : Nat → Nat → Int) (G : Nat → Int → Int) (w0 : Int) : cP y_Hl_xAt b_Hl_xAt 2 (some .int) 0 0 F G (fun ad => [.ref (ad 231), .int (iI w0)]) (fun r => r = F 231 5 * w0 + F 231 6) := by
  intro s0 a0 D t ad
  refine g_startP (by decide +kernel) (Nat.le_of_ble_eq_true rfl) (fun p l e R s m args below meth c A ok => ?_)
  show gW p l e R s m args below meth c _ D A 2 (gZ0 s) 0 0 ad 265 (mem ad t F G) 0 [(0, .ref (ad 231)), (1, .int (iI w0))] []
  refine g_aload_n ok d_Hl_xAt_0 rfl 0 rfl ?_
  refine gI_Hl_xStep ok _ rfl k_205 d_Hl_xAt_1 ?_
  refine g_iload_n ok d_Hl_xAt_4 rfl 1 rfl ?_
  refine g_imul ok d_Hl_xAt_5 ?_
  refine g_aload_n ok d_Hl_xAt_6 rfl 0 rfl ?_
  refine gI_Hl_xBase ok _ rfl k_206 d_Hl_xAt_7 ?_
  refine g_iadd ok d_Hl_xAt_10 ?_
  exact g_ipret ok d_Hl_xAt_11 (rfl)
theorem d_Hl_yAt_0 : decode b_Hl_yAt 0 = .ok (.aload_n 0, 1) := by decide +kernel
theorem d_Hl_yAt_1 : decode b_Hl_yAt 1 = .ok (.getfield 28, 3) := by decide +kernel
theorem d_Hl_yAt_4 : decode b_Hl_yAt 4 = .ok (.iload_n 1, 1) := by decide +kernel
theorem d_Hl_yAt_5 : decode b_Hl_yAt 5 = .ok (.imul, 1) := by decide +kernel
theorem d_Hl_yAt_6 : decode b_Hl_yAt 6 = .ok (.aload_n 0, 1) := by decide +kernel
theorem d_Hl_yAt_7 : decode b_Hl_yAt 7 = .ok (.getfield 31, 3) := by decide +kernel
theorem d_Hl_yAt_10 : decode b_Hl_yAt 10 = .ok (.iadd, 1) := by decide +kernel
theorem d_Hl_yAt_11 : decode b_Hl_yAt 11 = .ok (.ireturn, 1) := by decide +kernel
set_option maxHeartbeats 1000000 in
set_option maxRecDepth 100000 in
theorem c_Hl_yAt (F : Nat → Nat → Int) (G : Nat → Int → Int) (w0 : Int) : cP y_Hl_yAt b_Hl_yAt 2 (some .int) 0 0 F G (fun ad => [.ref (ad 231), .int (iI w0)]) (fun r => r = F 231 7 * w0 + F 231 8) := by
  intro s0 a0 D t ad
  refine g_startP (by decide +kernel) (Nat.le_of_ble_eq_true rfl) (fun p l e R s m args below meth c A ok => ?_)
  show gW p l e R s m args below meth c _ D A 2 (gZ0 s) 0 0 ad 265 (mem ad t F G) 0 [(0, .ref (ad 231)), (1, .int (iI w0))] []
  refine g_aload_n ok d_Hl_yAt_0 rfl 0 rfl ?_
  refine gI_Hl_yStep ok _ rfl k_207 d_Hl_yAt_1 ?_
  refine g_iload_n ok d_Hl_yAt_4 rfl 1 rfl ?_
  refine g_imul ok d_Hl_yAt_5 ?_
  refine g_aload_n ok d_Hl_yAt_6 rfl 0 rfl ?_
  refine gI_Hl_yBase ok _ rfl k_208 d_Hl_yAt_7 ?_
  refine g_iadd ok d_Hl_yAt_10 ?_
  exact g_ipret ok d_Hl_yAt_11 (rfl)
theorem d_Hl_empty_0 : decode b_Hl_empty 0 = .ok (.aload_n 0, 1) := by decide +kernel
theorem d_Hl_empty_1 : decode b_Hl_empty 1 = .ok (.sipush 601, 3) := by decide +kernel
theorem d_Hl_empty_4 : decode b_Hl_empty 4 = .ok (.putfield 43, 3) := by decide +kernel
theorem d_Hl_empty_7 : decode b_Hl_empty 7 = .ok (.aload_n 0, 1) := by decide +kernel
theorem d_Hl_empty_8 : decode b_Hl_empty 8 = .ok (.iconst (-1), 1) := by decide +kernel
theorem d_Hl_empty_9 : decode b_Hl_empty 9 = .ok (.putfield 46, 3) := by decide +kernel
theorem d_Hl_empty_12 : decode b_Hl_empty 12 = .ok (.return_, 1) := by decide +kernel
set_option maxHeartbeats 1000000 in
set_option maxRecDepth 100000 in
theorem c_Hl_empty (F : Nat → Nat → Int) (G : Nat → Int → Int) : cV y_Hl_empty b_Hl_empty 1 none 0 0 F G (fun ad => [.ref (ad 231)]) (fun F' G' => F' = fU (fU F 231 11 601) 231 12 (-1) ∧ G' = G) := by
  intro s0 a0 D t ad
  refine g_startV (by decide +kernel) (Nat.le_of_ble_eq_true rfl) (fun p l e R s m args below meth c A ok => ?_)
  show gW p l e R s m args below meth c _ D A 1 (gZ0 s) 0 0 ad 265 (mem ad t F G) 0 [(0, .ref (ad 231))] []
  refine g_aload_n ok d_Hl_empty_0 rfl 0 rfl ?_
  refine g_sipush ok (by decide) d_Hl_empty_1 ?_
  refine pI_Hl_low ok _ rfl k_211 d_Hl_empty_4 ?_
  refine g_aload_n ok d_Hl_empty_7 rfl 0 rfl ?_
  refine g_iconst ok d_Hl_empty_8 ?_
  refine pI_Hl_high ok _ rfl k_212 d_Hl_empty_9 ?_
  exact g_vret ok d_Hl_empty_12 ⟨_, _, rfl, rfl, rfl⟩
theorem d_Hl_narrow_0 : decode b_Hl_narrow 0 = .ok (.iload_n 1, 1) := by decide +kernel
theorem d_Hl_narrow_1 : decode b_Hl_narrow 1 = .ok (.ifCond .ne 21, 3) := by decide +kernel
theorem d_Hl_narrow_4 : decode b_Hl_narrow 4 = .ok (.iload_n 2, 1) := by decide +kernel
theorem d_Hl_narrow_5 : decode b_Hl_narrow 5 = .ok (.iload_n 3, 1) := by decide +kernel
theorem d_Hl_narrow_6 : decode b_Hl_narrow 6 = .ok (.if_icmp .lt 9, 3) := by decide +kernel
theorem d_Hl_narrow_9 : decode b_Hl_narrow 9 = .ok (.iload_n 2, 1) := by decide +kernel
theorem d_Hl_narrow_10 : decode b_Hl_narrow 10 = .ok (.iload 4, 2) := by decide +kernel
theorem d_Hl_narrow_12 : decode b_Hl_narrow 12 = .ok (.if_icmp .le 75, 3) := by decide +kernel
theorem d_Hl_narrow_15 : decode b_Hl_narrow 15 = .ok (.aload_n 0, 1) := by decide +kernel
theorem d_Hl_narrow_16 : decode b_Hl_narrow 16 = .ok (.invokevirtual 123, 3) := by decide +kernel
theorem d_Hl_narrow_19 : decode b_Hl_narrow 19 = .ok (.goto 68, 3) := by decide +kernel
theorem d_Hl_narrow_22 : decode b_Hl_narrow 22 = .ok (.iload_n 1, 1) := by decide +kernel
theorem d_Hl_narrow_23 : decode b_Hl_narrow 23 = .ok (.ifCond .le 35, 3) := by decide +kernel
theorem d_Hl_narrow_26 : decode b_Hl_narrow 26 = .ok (.aload_n 0, 1) := by decide +kernel
theorem d_Hl_narrow_27 : decode b_Hl_narrow 27 = .ok (.aload_n 0, 1) := by decide +kernel
theorem d_Hl_narrow_28 : decode b_Hl_narrow 28 = .ok (.getfield 43, 3) := by decide +kernel
theorem d_Hl_narrow_31 : decode b_Hl_narrow 31 = .ok (.iload_n 3, 1) := by decide +kernel
theorem d_Hl_narrow_32 : decode b_Hl_narrow 32 = .ok (.iload_n 2, 1) := by decide +kernel
theorem d_Hl_narrow_33 : decode b_Hl_narrow 33 = .ok (.isub, 1) := by decide +kernel
theorem d_Hl_narrow_34 : decode b_Hl_narrow 34 = .ok (.invokestatic 111, 3) := by decide +kernel
theorem d_Hl_narrow_37 : decode b_Hl_narrow 37 = .ok (.putfield 43, 3) := by decide +kernel
theorem d_Hl_narrow_40 : decode b_Hl_narrow 40 = .ok (.aload_n 0, 1) := by decide +kernel
theorem d_Hl_narrow_41 : decode b_Hl_narrow 41 = .ok (.aload_n 0, 1) := by decide +kernel
theorem d_Hl_narrow_42 : decode b_Hl_narrow 42 = .ok (.getfield 46, 3) := by decide +kernel
theorem d_Hl_narrow_45 : decode b_Hl_narrow 45 = .ok (.iload 4, 2) := by decide +kernel
theorem d_Hl_narrow_47 : decode b_Hl_narrow 47 = .ok (.iload_n 2, 1) := by decide +kernel
theorem d_Hl_narrow_48 : decode b_Hl_narrow 48 = .ok (.isub, 1) := by decide +kernel
theorem d_Hl_narrow_49 : decode b_Hl_narrow 49 = .ok (.invokestatic 105, 3) := by decide +kernel
theorem d_Hl_narrow_52 : decode b_Hl_narrow 52 = .ok (.putfield 46, 3) := by decide +kernel
theorem d_Hl_narrow_55 : decode b_Hl_narrow 55 = .ok (.goto 32, 3) := by decide +kernel
theorem d_Hl_narrow_58 : decode b_Hl_narrow 58 = .ok (.aload_n 0, 1) := by decide +kernel
theorem d_Hl_narrow_59 : decode b_Hl_narrow 59 = .ok (.aload_n 0, 1) := by decide +kernel
theorem d_Hl_narrow_60 : decode b_Hl_narrow 60 = .ok (.getfield 43, 3) := by decide +kernel
theorem d_Hl_narrow_63 : decode b_Hl_narrow 63 = .ok (.iload_n 2, 1) := by decide +kernel
theorem d_Hl_narrow_64 : decode b_Hl_narrow 64 = .ok (.iload 4, 2) := by decide +kernel
theorem d_Hl_narrow_66 : decode b_Hl_narrow 66 = .ok (.isub, 1) := by decide +kernel
theorem d_Hl_narrow_67 : decode b_Hl_narrow 67 = .ok (.invokestatic 111, 3) := by decide +kernel
theorem d_Hl_narrow_70 : decode b_Hl_narrow 70 = .ok (.putfield 43, 3) := by decide +kernel
theorem d_Hl_narrow_73 : decode b_Hl_narrow 73 = .ok (.aload_n 0, 1) := by decide +kernel
theorem d_Hl_narrow_74 : decode b_Hl_narrow 74 = .ok (.aload_n 0, 1) := by decide +kernel
theorem d_Hl_narrow_75 : decode b_Hl_narrow 75 = .ok (.getfield 46, 3) := by decide +kernel
theorem d_Hl_narrow_78 : decode b_Hl_narrow 78 = .ok (.iload_n 2, 1) := by decide +kernel
theorem d_Hl_narrow_79 : decode b_Hl_narrow 79 = .ok (.iload_n 3, 1) := by decide +kernel
theorem d_Hl_narrow_80 : decode b_Hl_narrow 80 = .ok (.isub, 1) := by decide +kernel
theorem d_Hl_narrow_81 : decode b_Hl_narrow 81 = .ok (.invokestatic 105, 3) := by decide +kernel
theorem d_Hl_narrow_84 : decode b_Hl_narrow 84 = .ok (.putfield 46, 3) := by decide +kernel
theorem d_Hl_narrow_87 : decode b_Hl_narrow 87 = .ok (.return_, 1) := by decide +kernel
set_option maxHeartbeats 1000000 in
set_option maxRecDepth 100000 in
theorem c_Hl_narrow (F : Nat → Nat → Int) (G : Nat → Int → Int) (st b a c0 : Int) (hst : st = -1 ∨ st = 0 ∨ st = 1) (hb : -3000 ≤ b ∧ b ≤ 3000) (ha : -3000 ≤ a ∧ a ≤ 3000) (hc : -3000 ≤ c0 ∧ c0 ≤ 3000) (hlo : 0 ≤ F 231 11 ∧ F 231 11 ≤ 3000001) (hhi : -3000001 ≤ F 231 12 ∧ F 231 12 ≤ 600) : cV y_Hl_narrow b_Hl_narrow 5 none 1 21 F G (fun ad => [.ref (ad 231), .int (iI st), .int (iI b), .int (iI a), .int (iI c0)]) (fun F' G' => G' = G ∧ spn F F' (fun p => a ≤ st * p + b ∧ st * p + b ≤ c0)) := by
  intro s0 a0 D t ad
  refine g_startV (by decide +kernel) (Nat.le_of_ble_eq_true rfl) (fun p l e R s m args below meth c A ok => ?_)
  show gW p l e R s m args below meth c _ D A 5 (gZ0 s) 0 0 ad 265 (mem ad t F G) 0 [(0, .ref (ad 231)), (1, .int (iI st)), (2, .int (iI b)), (3, .int (iI a)), (4, .int (iI c0))] []
  refine g_iload_n ok d_Hl_narrow_0 rfl 1 rfl ?_
  refine g_if_ne ok 22 d_Hl_narrow_1 (by decide) (by omega) (fun h1 => ?_) (fun h1 => ?_)
  · refine g_iload_n ok d_Hl_narrow_22 rfl 1 rfl ?_
    refine g_if_le ok 58 d_Hl_narrow_23 (by decide) (by omega) (fun h2 => ?_) (fun h2 => ?_)
    · refine g_aload_n ok d_Hl_narrow_58 rfl 0 rfl ?_
      refine g_aload_n ok d_Hl_narrow_59 rfl 0 rfl ?_
      refine gI_Hl_low ok _ rfl k_211 d_Hl_narrow_60 ?_
      refine g_iload_n ok d_Hl_narrow_63 rfl 2 rfl ?_
      refine g_iload ok d_Hl_narrow_64 4 rfl ?_
      refine g_isub ok d_Hl_narrow_66 ?_
      refine g_callPS (As := [.int (iI (F 231 11)), .int (iI (b - c0))]) (st := [.ref (ad 231)]) ok (c_Ma_max F G _ _ (by omega) (by omega) s0 a0 D t ad) k_414 k_18 k_412 k_413 q_Ma_max (by decide) (Nat.le_of_ble_eq_true rfl) (by decide) d_Hl_narrow_67 (fun z3 hc3 => ?_)
      subst hc3
      refine pI_Hl_low ok _ rfl k_211 d_Hl_narrow_70 ?_
      refine g_aload_n ok d_Hl_narrow_73 rfl 0 rfl ?_
      refine g_aload_n ok d_Hl_narrow_74 rfl 0 rfl ?_
      refine gI_Hl_high ok _ rfl k_212 d_Hl_narrow_75 ?_
      refine g_top (y := F 231 12) (by show (fU F 231 11 (max (F 231 11) (b - c0))) 231 12 = _; rw [fU_ja (show (12 : Nat) ≠ 11 by decide)]) ?_
      refine g_iload_n ok d_Hl_narrow_78 rfl 2 rfl ?_
      refine g_iload_n ok d_Hl_narrow_79 rfl 3 rfl ?_
      refine g_isub ok d_Hl_narrow_80 ?_
      refine g_callPS (As := [.int (iI (F 231 12)), .int (iI (b - a))]) (st := [.ref (ad 231)]) ok (c_Ma_min (fU F 231 11 (max (F 231 11) (b - c0))) G _ _ (by omega) (by omega) s0 a0 D t ad) k_417 k_18 k_415 k_416 q_Ma_min (by decide) (Nat.le_of_ble_eq_true rfl) (by decide) d_Hl_narrow_81 (fun z4 hc4 => ?_)
      subst hc4
      refine pI_Hl_high ok _ rfl k_212 d_Hl_narrow_84 ?_
      exact g_vret ok d_Hl_narrow_87 ⟨_, _, rfl, rfl, _, _, rfl, by omega, by omega, fun p => by show _ ↔ (_ ∧ (a ≤ st * p + b ∧ st * p + b ≤ c0)); have e : st = -1 := (by omega); subst e; omega⟩
    · refine g_aload_n ok d_Hl_narrow_26 rfl 0 rfl ?_
      refine g_aload_n ok d_Hl_narrow_27 rfl 0 rfl ?_
      refine gI_Hl_low ok _ rfl k_211 d_Hl_narrow_28 ?_
      refine g_iload_n ok d_Hl_narrow_31 rfl 3 rfl ?_
      refine g_iload_n ok d_Hl_narrow_32 rfl 2 rfl ?_
      refine g_isub ok d_Hl_narrow_33 ?_
      refine g_callPS (As := [.int (iI (F 231 11)), .int (iI (a - b))]) (st := [.ref (ad 231)]) ok (c_Ma_max F G _ _ (by omega) (by omega) s0 a0 D t ad) k_414 k_18 k_412 k_413 q_Ma_max (by decide) (Nat.le_of_ble_eq_true rfl) (by decide) d_Hl_narrow_34 (fun z5 hc5 => ?_)
      subst hc5
      refine pI_Hl_low ok _ rfl k_211 d_Hl_narrow_37 ?_
      refine g_aload_n ok d_Hl_narrow_40 rfl 0 rfl ?_
      refine g_aload_n ok d_Hl_narrow_41 rfl 0 rfl ?_
      refine gI_Hl_high ok _ rfl k_212 d_Hl_narrow_42 ?_
      refine g_top (y := F 231 12) (by show (fU F 231 11 (max (F 231 11) (a - b))) 231 12 = _; rw [fU_ja (show (12 : Nat) ≠ 11 by decide)]) ?_
      refine g_iload ok d_Hl_narrow_45 4 rfl ?_
      refine g_iload_n ok d_Hl_narrow_47 rfl 2 rfl ?_
      refine g_isub ok d_Hl_narrow_48 ?_
      refine g_callPS (As := [.int (iI (F 231 12)), .int (iI (c0 - b))]) (st := [.ref (ad 231)]) ok (c_Ma_min (fU F 231 11 (max (F 231 11) (a - b))) G _ _ (by omega) (by omega) s0 a0 D t ad) k_417 k_18 k_415 k_416 q_Ma_min (by decide) (Nat.le_of_ble_eq_true rfl) (by decide) d_Hl_narrow_49 (fun z6 hc6 => ?_)
      subst hc6
      refine pI_Hl_high ok _ rfl k_212 d_Hl_narrow_52 ?_
      refine g_goto ok 87 d_Hl_narrow_55 (by decide) ?_
      exact g_vret ok d_Hl_narrow_87 ⟨_, _, rfl, rfl, _, _, rfl, by omega, by omega, fun p => by show _ ↔ (_ ∧ (a ≤ st * p + b ∧ st * p + b ≤ c0)); have e : st = 1 := (by omega); subst e; omega⟩
  · refine g_iload_n ok d_Hl_narrow_4 rfl 2 rfl ?_
    refine g_iload_n ok d_Hl_narrow_5 rfl 3 rfl ?_
    refine g_icmp_lt ok 15 d_Hl_narrow_6 (by decide) (by omega) (by omega) (fun h7 => ?_) (fun h7 => ?_)
    · refine g_aload_n ok d_Hl_narrow_15 rfl 0 rfl ?_
      refine g_callVV (As := []) (st := []) ok _ (c_Hl_empty F G  s0 a0 D t ad) k_411 k_7 k_408 cl_Hl (m_Hl (ad := ad) (t := t) (F := F) (G := G) rfl).1 (m_Hl rfl).2 k_410 s_Hl_empty q_Hl_empty (by decide) (Nat.le_of_ble_eq_true rfl) (by decide) d_Hl_narrow_16 (fun ce1 hc8 => ?_)
      obtain ⟨Fq, Gq, rfl, hFq, hGq⟩ := hc8
      rw [hFq, hGq]
      clear hFq hGq
      refine g_goto ok 87 d_Hl_narrow_19 (by decide) ?_
      exact g_vret ok d_Hl_narrow_87 ⟨_, _, rfl, rfl, _, _, rfl, by omega, by omega, fun p => by show _ ↔ (_ ∧ (a ≤ st * p + b ∧ st * p + b ≤ c0)); have e : st = 0 := (by omega); subst e; omega⟩
    · refine g_iload_n ok d_Hl_narrow_9 rfl 2 rfl ?_
      refine g_iload ok d_Hl_narrow_10 4 rfl ?_
      refine g_icmp_le ok 87 d_Hl_narrow_12 (by decide) (by omega) (by omega) (fun h9 => ?_) (fun h9 => ?_)
      · exact g_vret ok d_Hl_narrow_87 ⟨_, _, rfl, rfl, F 231 11, F 231 12, fU2_id _ _ _ _, hlo, hhi, fun p => by show _ ↔ (_ ∧ (a ≤ st * p + b ∧ st * p + b ≤ c0)); have e : st = 0 := (by omega); subst e; omega⟩
      · refine g_aload_n ok d_Hl_narrow_15 rfl 0 rfl ?_
        refine g_callVV (As := []) (st := []) ok _ (c_Hl_empty F G  s0 a0 D t ad) k_411 k_7 k_408 cl_Hl (m_Hl (ad := ad) (t := t) (F := F) (G := G) rfl).1 (m_Hl rfl).2 k_410 s_Hl_empty q_Hl_empty (by decide) (Nat.le_of_ble_eq_true rfl) (by decide) d_Hl_narrow_16 (fun ce1 hc10 => ?_)
        obtain ⟨Fq, Gq, rfl, hFq, hGq⟩ := hc10
        rw [hFq, hGq]
        clear hFq hGq
        refine g_goto ok 87 d_Hl_narrow_19 (by decide) ?_
        exact g_vret ok d_Hl_narrow_87 ⟨_, _, rfl, rfl, _, _, rfl, by omega, by omega, fun p => by show _ ↔ (_ ∧ (a ≤ st * p + b ∧ st * p + b ≤ c0)); have e : st = 0 := (by omega); subst e; omega⟩
theorem d_Hl_narrowToZero_0 : decode b_Hl_narrowToZero 0 = .ok (.iload_n 1, 1) := by decide +kernel
theorem d_Hl_narrowToZero_1 : decode b_Hl_narrowToZero 1 = .ok (.ifCond .ne 14, 3) := by decide +kernel
theorem d_Hl_narrowToZero_4 : decode b_Hl_narrowToZero 4 = .ok (.iload_n 2, 1) := by decide +kernel
theorem d_Hl_narrowToZero_5 : decode b_Hl_narrowToZero 5 = .ok (.ifCond .eq 53, 3) := by decide +kernel
theorem d_Hl_narrowToZero_8 : decode b_Hl_narrowToZero 8 = .ok (.aload_n 0, 1) := by decide +kernel
theorem d_Hl_narrowToZero_9 : decode b_Hl_narrowToZero 9 = .ok (.invokevirtual 123, 3) := by decide +kernel
theorem d_Hl_narrowToZero_12 : decode b_Hl_narrowToZero 12 = .ok (.goto 46, 3) := by decide +kernel
theorem d_Hl_narrowToZero_15 : decode b_Hl_narrowToZero 15 = .ok (.iload_n 2, 1) := by decide +kernel
theorem d_Hl_narrowToZero_16 : decode b_Hl_narrowToZero 16 = .ok (.iload_n 1, 1) := by decide +kernel
theorem d_Hl_narrowToZero_17 : decode b_Hl_narrowToZero 17 = .ok (.irem, 1) := by decide +kernel
theorem d_Hl_narrowToZero_18 : decode b_Hl_narrowToZero 18 = .ok (.ifCond .eq 10, 3) := by decide +kernel
theorem d_Hl_narrowToZero_21 : decode b_Hl_narrowToZero 21 = .ok (.aload_n 0, 1) := by decide +kernel
theorem d_Hl_narrowToZero_22 : decode b_Hl_narrowToZero 22 = .ok (.invokevirtual 123, 3) := by decide +kernel
theorem d_Hl_narrowToZero_25 : decode b_Hl_narrowToZero 25 = .ok (.goto 33, 3) := by decide +kernel
theorem d_Hl_narrowToZero_28 : decode b_Hl_narrowToZero 28 = .ok (.aload_n 0, 1) := by decide +kernel
theorem d_Hl_narrowToZero_29 : decode b_Hl_narrowToZero 29 = .ok (.aload_n 0, 1) := by decide +kernel
theorem d_Hl_narrowToZero_30 : decode b_Hl_narrowToZero 30 = .ok (.getfield 43, 3) := by decide +kernel
theorem d_Hl_narrowToZero_33 : decode b_Hl_narrowToZero 33 = .ok (.iload_n 2, 1) := by decide +kernel
theorem d_Hl_narrowToZero_34 : decode b_Hl_narrowToZero 34 = .ok (.ineg, 1) := by decide +kernel
theorem d_Hl_narrowToZero_35 : decode b_Hl_narrowToZero 35 = .ok (.iload_n 1, 1) := by decide +kernel
theorem d_Hl_narrowToZero_36 : decode b_Hl_narrowToZero 36 = .ok (.idiv, 1) := by decide +kernel
theorem d_Hl_narrowToZero_37 : decode b_Hl_narrowToZero 37 = .ok (.invokestatic 111, 3) := by decide +kernel
theorem d_Hl_narrowToZero_40 : decode b_Hl_narrowToZero 40 = .ok (.putfield 43, 3) := by decide +kernel
theorem d_Hl_narrowToZero_43 : decode b_Hl_narrowToZero 43 = .ok (.aload_n 0, 1) := by decide +kernel
theorem d_Hl_narrowToZero_44 : decode b_Hl_narrowToZero 44 = .ok (.aload_n 0, 1) := by decide +kernel
theorem d_Hl_narrowToZero_45 : decode b_Hl_narrowToZero 45 = .ok (.getfield 46, 3) := by decide +kernel
theorem d_Hl_narrowToZero_48 : decode b_Hl_narrowToZero 48 = .ok (.iload_n 2, 1) := by decide +kernel
theorem d_Hl_narrowToZero_49 : decode b_Hl_narrowToZero 49 = .ok (.ineg, 1) := by decide +kernel
theorem d_Hl_narrowToZero_50 : decode b_Hl_narrowToZero 50 = .ok (.iload_n 1, 1) := by decide +kernel
theorem d_Hl_narrowToZero_51 : decode b_Hl_narrowToZero 51 = .ok (.idiv, 1) := by decide +kernel
theorem d_Hl_narrowToZero_52 : decode b_Hl_narrowToZero 52 = .ok (.invokestatic 105, 3) := by decide +kernel
theorem d_Hl_narrowToZero_55 : decode b_Hl_narrowToZero 55 = .ok (.putfield 46, 3) := by decide +kernel
theorem d_Hl_narrowToZero_58 : decode b_Hl_narrowToZero 58 = .ok (.return_, 1) := by decide +kernel
set_option maxHeartbeats 1000000 in
set_option maxRecDepth 100000 in
theorem c_Hl_narrowToZero (F : Nat → Nat → Int) (G : Nat → Int → Int) (sl b : Int) (hsl : -1300 ≤ sl ∧ sl ≤ 1300) (hb : -3000000 ≤ b ∧ b ≤ 3000000) (hlo : 0 ≤ F 231 11 ∧ F 231 11 ≤ 3000001) (hhi : -3000001 ≤ F 231 12 ∧ F 231 12 ≤ 600) : cV y_Hl_narrowToZero b_Hl_narrowToZero 3 none 1 21 F G (fun ad => [.ref (ad 231), .int (iI sl), .int (iI b)]) (fun F' G' => G' = G ∧ spn F F' (fun p => sl * p + b = 0)) := by
  have htm := tmod_rngA sl hb
  have htd := tdiv_rngA (a := -b) sl (by omega)
  intro s0 a0 D t ad
  refine g_startV (by decide +kernel) (Nat.le_of_ble_eq_true rfl) (fun p l e R s m args below meth c A ok => ?_)
  show gW p l e R s m args below meth c _ D A 3 (gZ0 s) 0 0 ad 265 (mem ad t F G) 0 [(0, .ref (ad 231)), (1, .int (iI sl)), (2, .int (iI b))] []
  refine g_iload_n ok d_Hl_narrowToZero_0 rfl 1 rfl ?_
  refine g_if_ne ok 15 d_Hl_narrowToZero_1 (by decide) (by omega) (fun h1 => ?_) (fun h1 => ?_)
  · refine g_iload_n ok d_Hl_narrowToZero_15 rfl 2 rfl ?_
    refine g_iload_n ok d_Hl_narrowToZero_16 rfl 1 rfl ?_
    refine g_irem (z := b.tmod sl) ok (iI_neA (by omega) h1) (iI_remA (by omega) (by omega)) d_Hl_narrowToZero_17 ?_
    refine g_if_eq ok 28 d_Hl_narrowToZero_18 (by decide) (by omega) (fun h2 => ?_) (fun h2 => ?_)
    · refine g_aload_n ok d_Hl_narrowToZero_28 rfl 0 rfl ?_
      refine g_aload_n ok d_Hl_narrowToZero_29 rfl 0 rfl ?_
      refine gI_Hl_low ok _ rfl k_211 d_Hl_narrowToZero_30 ?_
      refine g_iload_n ok d_Hl_narrowToZero_33 rfl 2 rfl ?_
      refine g_ineg ok d_Hl_narrowToZero_34 ?_
      refine g_iload_n ok d_Hl_narrowToZero_35 rfl 1 rfl ?_
      refine g_idiv (z := (-b).tdiv sl) ok (iI_neA (by omega) h1) (iI_divA (by omega) (by omega)) d_Hl_narrowToZero_36 ?_
      refine g_callPS (As := [.int (iI (F 231 11)), .int (iI ((-b).tdiv sl))]) (st := [.ref (ad 231)]) ok (c_Ma_max F G _ _ (by omega) (by omega) s0 a0 D t ad) k_414 k_18 k_412 k_413 q_Ma_max (by decide) (Nat.le_of_ble_eq_true rfl) (by decide) d_Hl_narrowToZero_37 (fun z3 hc3 => ?_)
      subst hc3
      refine pI_Hl_low ok _ rfl k_211 d_Hl_narrowToZero_40 ?_
      refine g_aload_n ok d_Hl_narrowToZero_43 rfl 0 rfl ?_
      refine g_aload_n ok d_Hl_narrowToZero_44 rfl 0 rfl ?_
      refine gI_Hl_high ok _ rfl k_212 d_Hl_narrowToZero_45 ?_
      refine g_top (y := F 231 12) (by show (fU F 231 11 (max (F 231 11) ((-b).tdiv sl))) 231 12 = _; rw [fU_ja (show (12 : Nat) ≠ 11 by decide)]) ?_
      refine g_iload_n ok d_Hl_narrowToZero_48 rfl 2 rfl ?_
      refine g_ineg ok d_Hl_narrowToZero_49 ?_
      refine g_iload_n ok d_Hl_narrowToZero_50 rfl 1 rfl ?_
      refine g_idiv (z := (-b).tdiv sl) ok (iI_neA (by omega) h1) (iI_divA (by omega) (by omega)) d_Hl_narrowToZero_51 ?_
      refine g_callPS (As := [.int (iI (F 231 12)), .int (iI ((-b).tdiv sl))]) (st := [.ref (ad 231)]) ok (c_Ma_min (fU F 231 11 (max (F 231 11) ((-b).tdiv sl))) G _ _ (by omega) (by omega) s0 a0 D t ad) k_417 k_18 k_415 k_416 q_Ma_min (by decide) (Nat.le_of_ble_eq_true rfl) (by decide) d_Hl_narrowToZero_52 (fun z4 hc4 => ?_)
      subst hc4
      refine pI_Hl_high ok _ rfl k_212 d_Hl_narrowToZero_55 ?_
      exact g_vret ok d_Hl_narrowToZero_58 ⟨_, _, rfl, rfl, _, _, rfl, by omega, by omega, fun p => by show _ ↔ (_ ∧ sl * p + b = 0); have z := zr_one (p := p) h1 h2; omega⟩
    · refine g_aload_n ok d_Hl_narrowToZero_21 rfl 0 rfl ?_
      refine g_callVV (As := []) (st := []) ok _ (c_Hl_empty F G  s0 a0 D t ad) k_411 k_7 k_408 cl_Hl (m_Hl (ad := ad) (t := t) (F := F) (G := G) rfl).1 (m_Hl rfl).2 k_410 s_Hl_empty q_Hl_empty (by decide) (Nat.le_of_ble_eq_true rfl) (by decide) d_Hl_narrowToZero_22 (fun ce1 hc5 => ?_)
      obtain ⟨Fq, Gq, rfl, hFq, hGq⟩ := hc5
      rw [hFq, hGq]
      clear hFq hGq
      refine g_goto ok 58 d_Hl_narrowToZero_25 (by decide) ?_
      exact g_vret ok d_Hl_narrowToZero_58 ⟨_, _, rfl, rfl, _, _, rfl, by omega, by omega, fun p => by show _ ↔ (_ ∧ sl * p + b = 0); have z := zr_none (p := p) h2; omega⟩
  · refine g_iload_n ok d_Hl_narrowToZero_4 rfl 2 rfl ?_
    refine g_if_eq ok 58 d_Hl_narrowToZero_5 (by decide) (by omega) (fun h6 => ?_) (fun h6 => ?_)
    · exact g_vret ok d_Hl_narrowToZero_58 ⟨_, _, rfl, rfl, F 231 11, F 231 12, fU2_id _ _ _ _, hlo, hhi, fun p => by show _ ↔ (_ ∧ sl * p + b = 0); have e : sl = 0 := (by omega); subst e; omega⟩
    · refine g_aload_n ok d_Hl_narrowToZero_8 rfl 0 rfl ?_
      refine g_callVV (As := []) (st := []) ok _ (c_Hl_empty F G  s0 a0 D t ad) k_411 k_7 k_408 cl_Hl (m_Hl (ad := ad) (t := t) (F := F) (G := G) rfl).1 (m_Hl rfl).2 k_410 s_Hl_empty q_Hl_empty (by decide) (Nat.le_of_ble_eq_true rfl) (by decide) d_Hl_narrowToZero_9 (fun ce1 hc7 => ?_)
      obtain ⟨Fq, Gq, rfl, hFq, hGq⟩ := hc7
      rw [hFq, hGq]
      clear hFq hGq
      refine g_goto ok 58 d_Hl_narrowToZero_12 (by decide) ?_
      exact g_vret ok d_Hl_narrowToZero_58 ⟨_, _, rfl, rfl, _, _, rfl, by omega, by omega, fun p => by show _ ↔ (_ ∧ sl * p + b = 0); have e : sl = 0 := (by omega); subst e; omega⟩
theorem d_Hl_narrowToAboveZero_0 : decode b_Hl_narrowToAboveZero 0 = .ok (.iload_n 1, 1) := by decide +kernel
theorem d_Hl_narrowToAboveZero_1 : decode b_Hl_narrowToAboveZero 1 = .ok (.ifCond .le 25, 3) := by decide +kernel
theorem d_Hl_narrowToAboveZero_4 : decode b_Hl_narrowToAboveZero 4 = .ok (.aload_n 0, 1) := by decide +kernel
theorem d_Hl_narrowToAboveZero_5 : decode b_Hl_narrowToAboveZero 5 = .ok (.aload_n 0, 1) := by decide +kernel
theorem d_Hl_narrowToAboveZero_6 : decode b_Hl_narrowToAboveZero 6 = .ok (.getfield 43, 3) := by decide +kernel
theorem d_Hl_narrowToAboveZero_9 : decode b_Hl_narrowToAboveZero 9 = .ok (.iload_n 2, 1) := by decide +kernel
theorem d_Hl_narrowToAboveZero_10 : decode b_Hl_narrowToAboveZero 10 = .ok (.ineg, 1) := by decide +kernel
theorem d_Hl_narrowToAboveZero_11 : decode b_Hl_narrowToAboveZero 11 = .ok (.iload_n 1, 1) := by decide +kernel
theorem d_Hl_narrowToAboveZero_12 : decode b_Hl_narrowToAboveZero 12 = .ok (.invokestatic 126, 3) := by decide +kernel
theorem d_Hl_narrowToAboveZero_15 : decode b_Hl_narrowToAboveZero 15 = .ok (.iconst 1, 1) := by decide +kernel
theorem d_Hl_narrowToAboveZero_16 : decode b_Hl_narrowToAboveZero 16 = .ok (.iadd, 1) := by decide +kernel
theorem d_Hl_narrowToAboveZero_17 : decode b_Hl_narrowToAboveZero 17 = .ok (.invokestatic 111, 3) := by decide +kernel
theorem d_Hl_narrowToAboveZero_20 : decode b_Hl_narrowToAboveZero 20 = .ok (.putfield 43, 3) := by decide +kernel
theorem d_Hl_narrowToAboveZero_23 : decode b_Hl_narrowToAboveZero 23 = .ok (.goto 37, 3) := by decide +kernel
theorem d_Hl_narrowToAboveZero_26 : decode b_Hl_narrowToAboveZero 26 = .ok (.iload_n 1, 1) := by decide +kernel
theorem d_Hl_narrowToAboveZero_27 : decode b_Hl_narrowToAboveZero 27 = .ok (.ifCond .ge 25, 3) := by decide +kernel
theorem d_Hl_narrowToAboveZero_30 : decode b_Hl_narrowToAboveZero 30 = .ok (.aload_n 0, 1) := by decide +kernel
theorem d_Hl_narrowToAboveZero_31 : decode b_Hl_narrowToAboveZero 31 = .ok (.aload_n 0, 1) := by decide +kernel
theorem d_Hl_narrowToAboveZero_32 : decode b_Hl_narrowToAboveZero 32 = .ok (.getfield 46, 3) := by decide +kernel
theorem d_Hl_narrowToAboveZero_35 : decode b_Hl_narrowToAboveZero 35 = .ok (.iload_n 2, 1) := by decide +kernel
theorem d_Hl_narrowToAboveZero_36 : decode b_Hl_narrowToAboveZero 36 = .ok (.iconst 1, 1) := by decide +kernel
theorem d_Hl_narrowToAboveZero_37 : decode b_Hl_narrowToAboveZero 37 = .ok (.isub, 1) := by decide +kernel
theorem d_Hl_narrowToAboveZero_38 : decode b_Hl_narrowToAboveZero 38 = .ok (.iload_n 1, 1) := by decide +kernel
theorem d_Hl_narrowToAboveZero_39 : decode b_Hl_narrowToAboveZero 39 = .ok (.ineg, 1) := by decide +kernel
theorem d_Hl_narrowToAboveZero_40 : decode b_Hl_narrowToAboveZero 40 = .ok (.invokestatic 126, 3) := by decide +kernel
theorem d_Hl_narrowToAboveZero_43 : decode b_Hl_narrowToAboveZero 43 = .ok (.invokestatic 105, 3) := by decide +kernel
theorem d_Hl_narrowToAboveZero_46 : decode b_Hl_narrowToAboveZero 46 = .ok (.putfield 46, 3) := by decide +kernel
theorem d_Hl_narrowToAboveZero_49 : decode b_Hl_narrowToAboveZero 49 = .ok (.goto 11, 3) := by decide +kernel
theorem d_Hl_narrowToAboveZero_52 : decode b_Hl_narrowToAboveZero 52 = .ok (.iload_n 2, 1) := by decide +kernel
theorem d_Hl_narrowToAboveZero_53 : decode b_Hl_narrowToAboveZero 53 = .ok (.ifCond .gt 7, 3) := by decide +kernel
theorem d_Hl_narrowToAboveZero_56 : decode b_Hl_narrowToAboveZero 56 = .ok (.aload_n 0, 1) := by decide +kernel
theorem d_Hl_narrowToAboveZero_57 : decode b_Hl_narrowToAboveZero 57 = .ok (.invokevirtual 123, 3) := by decide +kernel
theorem d_Hl_narrowToAboveZero_60 : decode b_Hl_narrowToAboveZero 60 = .ok (.return_, 1) := by decide +kernel
set_option maxHeartbeats 1000000 in
set_option maxRecDepth 100000 in
theorem c_Hl_narrowToAboveZero (F : Nat → Nat → Int) (G : Nat → Int → Int) (sl b : Int) (hsl : -1300 ≤ sl ∧ sl ≤ 1300) (hb : -3000000 ≤ b ∧ b ≤ 2999999) (hlo : 0 ≤ F 231 11 ∧ F 231 11 ≤ 3000001) (hhi : -3000001 ≤ F 231 12 ∧ F 231 12 ≤ 600) : cV y_Hl_narrowToAboveZero b_Hl_narrowToAboveZero 3 none 1 22 F G (fun ad => [.ref (ad 231), .int (iI sl), .int (iI b)]) (fun F' G' => G' = G ∧ spn F F' (fun p => 0 < sl * p + b)) := by
  intro s0 a0 D t ad
  refine g_startV (by decide +kernel) (Nat.le_of_ble_eq_true rfl) (fun p l e R s m args below meth c A ok => ?_)
  show gW p l e R s m args below meth c _ D A 3 (gZ0 s) 0 0 ad 265 (mem ad t F G) 0 [(0, .ref (ad 231)), (1, .int (iI sl)), (2, .int (iI b))] []
  refine g_iload_n ok d_Hl_narrowToAboveZero_0 rfl 1 rfl ?_
  refine g_if_le ok 26 d_Hl_narrowToAboveZero_1 (by decide) (by omega) (fun h1 => ?_) (fun h1 => ?_)
  · refine g_iload_n ok d_Hl_narrowToAboveZero_26 rfl 1 rfl ?_
    refine g_if_ge ok 52 d_Hl_narrowToAboveZero_27 (by decide) (by omega) (fun h2 => ?_) (fun h2 => ?_)
    · refine g_iload_n ok d_Hl_narrowToAboveZero_52 rfl 2 rfl ?_
      refine g_if_gt ok 60 d_Hl_narrowToAboveZero_53 (by decide) (by omega) (fun h3 => ?_) (fun h3 => ?_)
      · exact g_vret ok d_Hl_narrowToAboveZero_60 ⟨_, _, rfl, rfl, F 231 11, F 231 12, fU2_id _ _ _ _, hlo, hhi, fun p => by show _ ↔ (_ ∧ 0 < sl * p + b); have e : sl = 0 := (by omega); subst e; omega⟩
      · refine g_aload_n ok d_Hl_narrowToAboveZero_56 rfl 0 rfl ?_
        refine g_callVV (As := []) (st := []) ok _ (c_Hl_empty F G  s0 a0 D t ad) k_411 k_7 k_408 cl_Hl (m_Hl (ad := ad) (t := t) (F := F) (G := G) rfl).1 (m_Hl rfl).2 k_410 s_Hl_empty q_Hl_empty (by decide) (Nat.le_of_ble_eq_true rfl) (by decide) d_Hl_narrowToAboveZero_57 (fun ce1 hc4 => ?_)
        obtain ⟨Fq, Gq, rfl, hFq, hGq⟩ := hc4
        rw [hFq, hGq]
        clear hFq hGq
        exact g_vret ok d_Hl_narrowToAboveZero_60 ⟨_, _, rfl, rfl, _, _, rfl, by omega, by omega, fun p => by show _ ↔ (_ ∧ 0 < sl * p + b); have e : sl = 0 := (by omega); subst e; omega⟩
    · refine g_aload_n ok d_Hl_narrowToAboveZero_30 rfl 0 rfl ?_
      refine g_aload_n ok d_Hl_narrowToAboveZero_31 rfl 0 rfl ?_
      refine gI_Hl_high ok _ rfl k_212 d_Hl_narrowToAboveZero_32 ?_
      refine g_iload_n ok d_Hl_narrowToAboveZero_35 rfl 2 rfl ?_
      refine g_iconst ok d_Hl_narrowToAboveZero_36 ?_
      refine g_isub ok d_Hl_narrowToAboveZero_37 ?_
      refine g_iload_n ok d_Hl_narrowToAboveZero_38 rfl 1 rfl ?_
      refine g_ineg ok d_Hl_narrowToAboveZero_39 ?_
      have hed4 := ediv_rngA (a := b - 1) (c := -sl) (by omega) (by omega)
      refine g_callPS (As := [.int (iI (b - 1)), .int (iI (-sl))]) (st := [.int (iI (F 231 12)), .ref (ad 231)]) ok (c_Ma_floorDiv F G _ _ (by omega) (by omega) s0 a0 D t ad) k_388 k_18 k_442 k_387 q_Ma_floorDiv (by decide) (Nat.le_of_ble_eq_true rfl) (by decide) d_Hl_narrowToAboveZero_40 (fun z5 hc5 => ?_)
      subst hc5
      refine g_callPS (As := [.int (iI (F 231 12)), .int (iI ((b - 1) / (-sl)))]) (st := [.ref (ad 231)]) ok (c_Ma_min F G _ _ (by omega) (by omega) s0 a0 D t ad) k_417 k_18 k_415 k_416 q_Ma_min (by decide) (Nat.le_of_ble_eq_true rfl) (by decide) d_Hl_narrowToAboveZero_43 (fun z6 hc6 => ?_)
      subst hc6
      refine pI_Hl_high ok _ rfl k_212 d_Hl_narrowToAboveZero_46 ?_
      refine g_goto ok 60 d_Hl_narrowToAboveZero_49 (by decide) ?_
      exact g_vret ok d_Hl_narrowToAboveZero_60 ⟨_, _, rfl, rfl, F 231 11, _, fU2_hi, hlo, by omega, fun p => by show _ ↔ (_ ∧ 0 < sl * p + b); have z := gt_neg (sl := sl) (b := b) (p := p) (by omega); omega⟩
  · refine g_aload_n ok d_Hl_narrowToAboveZero_4 rfl 0 rfl ?_
    refine g_aload_n ok d_Hl_narrowToAboveZero_5 rfl 0 rfl ?_
    refine gI_Hl_low ok _ rfl k_211 d_Hl_narrowToAboveZero_6 ?_
    refine g_iload_n ok d_Hl_narrowToAboveZero_9 rfl 2 rfl ?_
    refine g_ineg ok d_Hl_narrowToAboveZero_10 ?_
    refine g_iload_n ok d_Hl_narrowToAboveZero_11 rfl 1 rfl ?_
    have hed6 := ediv_rngB (a := -b) (c := sl) (by omega) (by omega)
    refine g_callPS (As := [.int (iI (-b)), .int (iI sl)]) (st := [.int (iI (F 231 11)), .ref (ad 231)]) ok (c_Ma_floorDiv F G _ _ (by omega) (by omega) s0 a0 D t ad) k_388 k_18 k_442 k_387 q_Ma_floorDiv (by decide) (Nat.le_of_ble_eq_true rfl) (by decide) d_Hl_narrowToAboveZero_12 (fun z7 hc7 => ?_)
    subst hc7
    refine g_iconst ok d_Hl_narrowToAboveZero_15 ?_
    refine g_iadd ok d_Hl_narrowToAboveZero_16 ?_
    refine g_callPS (As := [.int (iI (F 231 11)), .int (iI (((-b) / sl) + 1))]) (st := [.ref (ad 231)]) ok (c_Ma_max F G _ _ (by omega) (by omega) s0 a0 D t ad) k_414 k_18 k_412 k_413 q_Ma_max (by decide) (Nat.le_of_ble_eq_true rfl) (by decide) d_Hl_narrowToAboveZero_17 (fun z8 hc8 => ?_)
    subst hc8
    refine pI_Hl_low ok _ rfl k_211 d_Hl_narrowToAboveZero_20 ?_
    refine g_goto ok 60 d_Hl_narrowToAboveZero_23 (by decide) ?_
    exact g_vret ok d_Hl_narrowToAboveZero_60 ⟨_, _, rfl, rfl, _, F 231 12, fU2_lo (by decide), by omega, hhi, fun p => by show _ ↔ (_ ∧ 0 < sl * p + b); have z := gt_pos (sl := sl) (b := b) (p := p) (by omega); omega⟩
theorem d_Hl_insert_0 : decode b_Hl_insert 0 = .ok (.aload_n 0, 1) := by decide +kernel
theorem d_Hl_insert_1 : decode b_Hl_insert 1 = .ok (.getfield 71, 3) := by decide +kernel
theorem d_Hl_insert_4 : decode b_Hl_insert 4 = .ok (.aload_n 0, 1) := by decide +kernel
theorem d_Hl_insert_5 : decode b_Hl_insert 5 = .ok (.getfield 9, 3) := by decide +kernel
theorem d_Hl_insert_8 : decode b_Hl_insert 8 = .ok (.arraylength, 1) := by decide +kernel
theorem d_Hl_insert_9 : decode b_Hl_insert 9 = .ok (.if_icmp .lt 4, 3) := by decide +kernel
theorem d_Hl_insert_12 : decode b_Hl_insert 12 = .ok (.return_, 1) := by decide +kernel
theorem d_Hl_insert_13 : decode b_Hl_insert 13 = .ok (.aload_n 0, 1) := by decide +kernel
theorem d_Hl_insert_14 : decode b_Hl_insert 14 = .ok (.getfield 71, 3) := by decide +kernel
theorem d_Hl_insert_17 : decode b_Hl_insert 17 = .ok (.istore_n 2, 1) := by decide +kernel
theorem d_Hl_insert_18 : decode b_Hl_insert 18 = .ok (.iload_n 2, 1) := by decide +kernel
theorem d_Hl_insert_19 : decode b_Hl_insert 19 = .ok (.ifCond .le 35, 3) := by decide +kernel
theorem d_Hl_insert_22 : decode b_Hl_insert 22 = .ok (.aload_n 0, 1) := by decide +kernel
theorem d_Hl_insert_23 : decode b_Hl_insert 23 = .ok (.getfield 9, 3) := by decide +kernel
theorem d_Hl_insert_26 : decode b_Hl_insert 26 = .ok (.iload_n 2, 1) := by decide +kernel
theorem d_Hl_insert_27 : decode b_Hl_insert 27 = .ok (.iconst 1, 1) := by decide +kernel
theorem d_Hl_insert_28 : decode b_Hl_insert 28 = .ok (.isub, 1) := by decide +kernel
theorem d_Hl_insert_29 : decode b_Hl_insert 29 = .ok (.iaload, 1) := by decide +kernel
theorem d_Hl_insert_30 : decode b_Hl_insert 30 = .ok (.iload_n 1, 1) := by decide +kernel
theorem d_Hl_insert_31 : decode b_Hl_insert 31 = .ok (.if_icmp .le 23, 3) := by decide +kernel
theorem d_Hl_insert_34 : decode b_Hl_insert 34 = .ok (.aload_n 0, 1) := by decide +kernel
theorem d_Hl_insert_35 : decode b_Hl_insert 35 = .ok (.getfield 9, 3) := by decide +kernel
theorem d_Hl_insert_38 : decode b_Hl_insert 38 = .ok (.iload_n 2, 1) := by decide +kernel
theorem d_Hl_insert_39 : decode b_Hl_insert 39 = .ok (.aload_n 0, 1) := by decide +kernel
theorem d_Hl_insert_40 : decode b_Hl_insert 40 = .ok (.getfield 9, 3) := by decide +kernel
theorem d_Hl_insert_43 : decode b_Hl_insert 43 = .ok (.iload_n 2, 1) := by decide +kernel
theorem d_Hl_insert_44 : decode b_Hl_insert 44 = .ok (.iconst 1, 1) := by decide +kernel
theorem d_Hl_insert_45 : decode b_Hl_insert 45 = .ok (.isub, 1) := by decide +kernel
theorem d_Hl_insert_46 : decode b_Hl_insert 46 = .ok (.iaload, 1) := by decide +kernel
theorem d_Hl_insert_47 : decode b_Hl_insert 47 = .ok (.iastore, 1) := by decide +kernel
theorem d_Hl_insert_48 : decode b_Hl_insert 48 = .ok (.iinc 2 (-1), 3) := by decide +kernel
theorem d_Hl_insert_51 : decode b_Hl_insert 51 = .ok (.goto (-33), 3) := by decide +kernel
theorem d_Hl_insert_54 : decode b_Hl_insert 54 = .ok (.aload_n 0, 1) := by decide +kernel
theorem d_Hl_insert_55 : decode b_Hl_insert 55 = .ok (.getfield 9, 3) := by decide +kernel
theorem d_Hl_insert_58 : decode b_Hl_insert 58 = .ok (.iload_n 2, 1) := by decide +kernel
theorem d_Hl_insert_59 : decode b_Hl_insert 59 = .ok (.iload_n 1, 1) := by decide +kernel
theorem d_Hl_insert_60 : decode b_Hl_insert 60 = .ok (.iastore, 1) := by decide +kernel
theorem d_Hl_insert_61 : decode b_Hl_insert 61 = .ok (.aload_n 0, 1) := by decide +kernel
theorem d_Hl_insert_62 : decode b_Hl_insert 62 = .ok (.dup, 1) := by decide +kernel
theorem d_Hl_insert_63 : decode b_Hl_insert 63 = .ok (.getfield 71, 3) := by decide +kernel
theorem d_Hl_insert_66 : decode b_Hl_insert 66 = .ok (.iconst 1, 1) := by decide +kernel
theorem d_Hl_insert_67 : decode b_Hl_insert 67 = .ok (.iadd, 1) := by decide +kernel
theorem d_Hl_insert_68 : decode b_Hl_insert 68 = .ok (.putfield 71, 3) := by decide +kernel
theorem d_Hl_insert_71 : decode b_Hl_insert 71 = .ok (.return_, 1) := by decide +kernel
set_option maxHeartbeats 1000000 in
set_option maxRecDepth 100000 in
theorem c_Hl_insert (F : Nat → Nat → Int) (G : Nat → Int → Int) (e0 : Int) (hn : 0 ≤ F 231 3 ∧ F 231 3 < 384) (hs : srt (G 232) (F 231 3)) (he : 0 ≤ e0 ∧ e0 ≤ 1805) (hv : ∀ j : Int, 0 ≤ j → j < F 231 3 → 0 ≤ G 232 j ∧ G 232 j ≤ 1805) : cV y_Hl_insert b_Hl_insert 3 none 0 0 F G (fun ad => [.ref (ad 231), .int (iI e0)]) (fun F' G' => F' = fU F 231 3 (F 231 3 + 1) ∧ (∀ a, a ≠ 232 → G' a = G a) ∧ insd (G 232) (G' 232) (F 231 3) e0) := by
  intro s0 a0 D t ad
  refine g_startV (by decide +kernel) (Nat.le_of_ble_eq_true rfl) (fun p l e R s m args below meth c A ok => ?_)
  show gW p l e R s m args below meth c _ D A 3 (gZ0 s) 0 0 ad 265 (mem ad t F G) 0 [(0, .ref (ad 231)), (1, .int (iI e0))] []
  refine g_aload_n ok d_Hl_insert_0 rfl 0 rfl ?_
  refine gI_Hl_eventTotal ok _ rfl k_202 d_Hl_insert_1 ?_
  refine g_aload_n ok d_Hl_insert_4 rfl 0 rfl ?_
  refine gI_Hl_events ok _ rfl k_197 d_Hl_insert_5 ?_
  refine h_alen ok _ a_232 d_Hl_insert_8 ?_
  refine g_icmp_lt ok 13 d_Hl_insert_9 (by decide) (by omega) (by omega) (fun h1 => ?_) (fun h1 => ?_)
  · refine g_aload_n ok d_Hl_insert_13 rfl 0 rfl ?_
    refine gI_Hl_eventTotal ok _ rfl k_202 d_Hl_insert_14 ?_
    refine g_istore_n (lv' := [(2, .int (iI (F 231 3))), (0, .ref (ad 231)), (1, .int (iI e0))]) ok d_Hl_insert_17 rfl (by decide) rfl ?_
    have L_i : ∀ (n_i : Nat) (i : Int) (G1 : Nat → Int → Int), (0 ≤ i ∧ i ≤ F 231 3) → (∀ a, a ≠ 232 → G1 a = G a) → (∀ j : Int, 0 ≤ j → j < i → G1 232 j = G 232 j) → (∀ j : Int, i ≤ j → j < F 231 3 → G1 232 (j + 1) = G 232 j ∧ e0 < G 232 j) → (i + 1) < (n_i : Int) → gW p l e R s m args below meth c (MQ below (gQv D A ad 265 (fun ce' => ∃ F' G', ce' = mem ad t F' G' ∧ (fun F' G' => F' = fU F 231 3 (F 231 3 + 1) ∧ (∀ a, a ≠ 232 → G' a = G a) ∧ insd (G 232) (G' 232) (F 231 3) e0) F' G')) args s 0 0 A) D A 3 (gZ) 0 0 ad 265 (mem ad t F G1) 18 [(0, .ref (ad 231)), (1, .int (iI e0)), (2, .int (iI i))] [] := by
      intro n_i
      induction n_i with
      | zero =>
        intro i G1 hi hg h0 h1 hm_i
        exact absurd hm_i (by omega)
      | succ n_i ih_i =>
        intro i G1 hi hg h0 h1 hm_i
        refine g_iload_n ok d_Hl_insert_18 rfl 2 rfl ?_
        refine g_if_le ok 54 d_Hl_insert_19 (by decide) (by omega) (fun h2 => ?_) (fun h2 => ?_)
        · refine g_aload_n ok d_Hl_insert_54 rfl 0 rfl ?_
          refine gI_Hl_events ok _ rfl k_197 d_Hl_insert_55 ?_
          refine g_iload_n ok d_Hl_insert_58 rfl 2 rfl ?_
          refine g_iload_n ok d_Hl_insert_59 rfl 1 rfl ?_
          refine h_iast ok _ a_232 (by omega) d_Hl_insert_60 ?_
          refine g_aload_n ok d_Hl_insert_61 rfl 0 rfl ?_
          refine g_dup ok d_Hl_insert_62 rfl ?_
          refine gI_Hl_eventTotal ok _ rfl k_202 d_Hl_insert_63 ?_
          refine g_iconst ok d_Hl_insert_66 ?_
          refine g_iadd ok d_Hl_insert_67 ?_
          refine pI_Hl_eventTotal ok _ rfl k_202 d_Hl_insert_68 ?_
          exact g_vret ok d_Hl_insert_71 ⟨_, _, rfl, rfl, fun a q => (gU_k _ _ _ q).trans (hg a q), i, hi, fun j q1 q2 => ⟨by rw [gU_i (by omega)]; exact (h0 j q1 q2), absurd q2 (by omega)⟩, gU_hit, fun j q1 q2 => ⟨by rw [gU_i (by omega)]; exact (h1 j q1 q2).1, (h1 j q1 q2).2⟩⟩
        · have hpv := h0 (i - 1) (by omega) (by omega)
          have hvv := hv (i - 1) (by omega) (by omega)
          refine g_aload_n ok d_Hl_insert_22 rfl 0 rfl ?_
          refine gI_Hl_events ok _ rfl k_197 d_Hl_insert_23 ?_
          refine g_iload_n ok d_Hl_insert_26 rfl 2 rfl ?_
          refine g_iconst ok d_Hl_insert_27 ?_
          refine g_isub ok d_Hl_insert_28 ?_
          refine h_iald ok _ a_232 (by omega) d_Hl_insert_29 ?_
          refine g_iload_n ok d_Hl_insert_30 rfl 1 rfl ?_
          refine g_icmp_le ok 54 d_Hl_insert_31 (by decide) (by omega) (by omega) (fun h3 => ?_) (fun h3 => ?_)
          · refine g_aload_n ok d_Hl_insert_54 rfl 0 rfl ?_
            refine gI_Hl_events ok _ rfl k_197 d_Hl_insert_55 ?_
            refine g_iload_n ok d_Hl_insert_58 rfl 2 rfl ?_
            refine g_iload_n ok d_Hl_insert_59 rfl 1 rfl ?_
            refine h_iast ok _ a_232 (by omega) d_Hl_insert_60 ?_
            refine g_aload_n ok d_Hl_insert_61 rfl 0 rfl ?_
            refine g_dup ok d_Hl_insert_62 rfl ?_
            refine gI_Hl_eventTotal ok _ rfl k_202 d_Hl_insert_63 ?_
            refine g_iconst ok d_Hl_insert_66 ?_
            refine g_iadd ok d_Hl_insert_67 ?_
            refine pI_Hl_eventTotal ok _ rfl k_202 d_Hl_insert_68 ?_
            exact g_vret ok d_Hl_insert_71 ⟨_, _, rfl, rfl, fun a q => (gU_k _ _ _ q).trans (hg a q), i, hi, fun j q1 q2 => ⟨by rw [gU_i (by omega)]; exact (h0 j q1 q2), by rcases Int.lt_or_eq_of_le (show j ≤ i - 1 by omega) with z | z; have z2 := hs j (i - 1) q1 z (by omega); have z3 := h0 (i - 1) (by omega) (by omega); omega; have z3 := h0 (i - 1) (by omega) (by omega); rw [z]; omega⟩, gU_hit, fun j q1 q2 => ⟨by rw [gU_i (by omega)]; exact (h1 j q1 q2).1, (h1 j q1 q2).2⟩⟩
          · refine g_aload_n ok d_Hl_insert_34 rfl 0 rfl ?_
            refine gI_Hl_events ok _ rfl k_197 d_Hl_insert_35 ?_
            refine g_iload_n ok d_Hl_insert_38 rfl 2 rfl ?_
            refine g_aload_n ok d_Hl_insert_39 rfl 0 rfl ?_
            refine gI_Hl_events ok _ rfl k_197 d_Hl_insert_40 ?_
            refine g_iload_n ok d_Hl_insert_43 rfl 2 rfl ?_
            refine g_iconst ok d_Hl_insert_44 ?_
            refine g_isub ok d_Hl_insert_45 ?_
            refine h_iald ok _ a_232 (by omega) d_Hl_insert_46 ?_
            refine h_iast ok _ a_232 (by omega) d_Hl_insert_47 ?_
            refine g_iinc (lv' := [(2, .int (iI (i + (-1)))), (0, .ref (ad 231)), (1, .int (iI e0))]) ok d_Hl_insert_48 2 rfl (by decide) rfl ?_
            refine g_goto ok 18 d_Hl_insert_51 (by decide) ?_
            refine g_lv [1, 2, 0] rfl ?_
            exact ih_i (i + (-1)) (gU G1 232 i (G1 232 (i - 1))) (by omega) (fun a q => (gU_k _ _ _ q).trans (hg a q)) (fun j q1 q2 => by rw [gU_i (by omega)]; exact h0 j q1 (by omega)) (fun j q1 q2 => by by_cases z : j = i - 1; subst z; rw [show i - 1 + 1 = i by omega, gU_hit]; exact ⟨h0 _ (by omega) (by omega), by rw [← h0 (i - 1) (by omega) (by omega)]; omega⟩; rw [gU_i (by omega)]; exact h1 j (by omega) q2) (by omega)
    refine g_z ?_
    refine g_lv [1, 2, 0] rfl ?_
    exact L_i (((F 231 3) + 1 : Int).toNat + 1) (F 231 3) G (by omega) (fun _ _ => rfl) (fun _ _ _ => rfl) (fun j q1 q2 => by omega) (by omega)
  · exact absurd h1 (by omega)
theorem d_Hl_addSpan_0 : decode b_Hl_addSpan 0 = .ok (.aload_n 0, 1) := by decide +kernel
theorem d_Hl_addSpan_1 : decode b_Hl_addSpan 1 = .ok (.getfield 43, 3) := by decide +kernel
theorem d_Hl_addSpan_4 : decode b_Hl_addSpan 4 = .ok (.aload_n 0, 1) := by decide +kernel
theorem d_Hl_addSpan_5 : decode b_Hl_addSpan 5 = .ok (.getfield 46, 3) := by decide +kernel
theorem d_Hl_addSpan_8 : decode b_Hl_addSpan 8 = .ok (.if_icmp .gt 29, 3) := by decide +kernel
theorem d_Hl_addSpan_11 : decode b_Hl_addSpan 11 = .ok (.aload_n 0, 1) := by decide +kernel
theorem d_Hl_addSpan_12 : decode b_Hl_addSpan 12 = .ok (.aload_n 0, 1) := by decide +kernel
theorem d_Hl_addSpan_13 : decode b_Hl_addSpan 13 = .ok (.getfield 43, 3) := by decide +kernel
theorem d_Hl_addSpan_16 : decode b_Hl_addSpan 16 = .ok (.iconst 3, 1) := by decide +kernel
theorem d_Hl_addSpan_17 : decode b_Hl_addSpan 17 = .ok (.imul, 1) := by decide +kernel
theorem d_Hl_addSpan_18 : decode b_Hl_addSpan 18 = .ok (.iload_n 1, 1) := by decide +kernel
theorem d_Hl_addSpan_19 : decode b_Hl_addSpan 19 = .ok (.iadd, 1) := by decide +kernel
theorem d_Hl_addSpan_20 : decode b_Hl_addSpan 20 = .ok (.invokevirtual 129, 3) := by decide +kernel
theorem d_Hl_addSpan_23 : decode b_Hl_addSpan 23 = .ok (.aload_n 0, 1) := by decide +kernel
theorem d_Hl_addSpan_24 : decode b_Hl_addSpan 24 = .ok (.aload_n 0, 1) := by decide +kernel
theorem d_Hl_addSpan_25 : decode b_Hl_addSpan 25 = .ok (.getfield 46, 3) := by decide +kernel
theorem d_Hl_addSpan_28 : decode b_Hl_addSpan 28 = .ok (.iconst 1, 1) := by decide +kernel
theorem d_Hl_addSpan_29 : decode b_Hl_addSpan 29 = .ok (.iadd, 1) := by decide +kernel
theorem d_Hl_addSpan_30 : decode b_Hl_addSpan 30 = .ok (.iconst 3, 1) := by decide +kernel
theorem d_Hl_addSpan_31 : decode b_Hl_addSpan 31 = .ok (.imul, 1) := by decide +kernel
theorem d_Hl_addSpan_32 : decode b_Hl_addSpan 32 = .ok (.iload_n 2, 1) := by decide +kernel
theorem d_Hl_addSpan_33 : decode b_Hl_addSpan 33 = .ok (.iadd, 1) := by decide +kernel
theorem d_Hl_addSpan_34 : decode b_Hl_addSpan 34 = .ok (.invokevirtual 129, 3) := by decide +kernel
theorem d_Hl_addSpan_37 : decode b_Hl_addSpan 37 = .ok (.return_, 1) := by decide +kernel
set_option maxHeartbeats 1000000 in
set_option maxRecDepth 100000 in
theorem c_Hl_addSpan (F : Nat → Nat → Int) (G : Nat → Int → Int) (b0 e0 : Int) (hb : 0 ≤ b0 ∧ b0 ≤ 2) (he : 0 ≤ e0 ∧ e0 ≤ 2) (hn : 0 ≤ F 231 3 ∧ F 231 3 + 2 ≤ 384) (hs : srt (G 232) (F 231 3)) (hv : ∀ j : Int, 0 ≤ j → j < F 231 3 → 0 ≤ G 232 j ∧ G 232 j ≤ 1805) (hlo : 0 ≤ F 231 11 ∧ F 231 11 ≤ 3000001) (hhi : -3000001 ≤ F 231 12 ∧ F 231 12 ≤ 600) : cV y_Hl_addSpan b_Hl_addSpan 3 none 1 22 F G (fun ad => [.ref (ad 231), .int (iI b0), .int (iI e0)]) (fun F' G' => (¬ F 231 11 ≤ F 231 12 ∧ F' = F ∧ G' = G) ∨ (F 231 11 ≤ F 231 12 ∧ F' = fU F 231 3 (F 231 3 + 1 + 1) ∧ (∀ a, a ≠ 232 → G' a = G a) ∧ ∃ g1, insd (G 232) g1 (F 231 3) (F 231 11 * 3 + b0) ∧ insd g1 (G' 232) (F 231 3 + 1) ((F 231 12 + 1) * 3 + e0))) := by
  intro s0 a0 D t ad
  refine g_startV (by decide +kernel) (Nat.le_of_ble_eq_true rfl) (fun p l e R s m args below meth c A ok => ?_)
  show gW p l e R s m args below meth c _ D A 3 (gZ0 s) 0 0 ad 265 (mem ad t F G) 0 [(0, .ref (ad 231)), (1, .int (iI b0)), (2, .int (iI e0))] []
  refine g_aload_n ok d_Hl_addSpan_0 rfl 0 rfl ?_
  refine gI_Hl_low ok _ rfl k_211 d_Hl_addSpan_1 ?_
  refine g_aload_n ok d_Hl_addSpan_4 rfl 0 rfl ?_
  refine gI_Hl_high ok _ rfl k_212 d_Hl_addSpan_5 ?_
  refine g_icmp_gt ok 37 d_Hl_addSpan_8 (by decide) (by omega) (by omega) (fun h1 => ?_) (fun h1 => ?_)
  · exact g_vret ok d_Hl_addSpan_37 ⟨_, _, rfl, Or.inl ⟨by omega, rfl, rfl⟩⟩
  · refine g_aload_n ok d_Hl_addSpan_11 rfl 0 rfl ?_
    refine g_aload_n ok d_Hl_addSpan_12 rfl 0 rfl ?_
    refine gI_Hl_low ok _ rfl k_211 d_Hl_addSpan_13 ?_
    refine g_iconst ok d_Hl_addSpan_16 ?_
    refine g_imul ok d_Hl_addSpan_17 ?_
    refine g_iload_n ok d_Hl_addSpan_18 rfl 1 rfl ?_
    refine g_iadd ok d_Hl_addSpan_19 ?_
    refine g_callVV (As := [.int (iI (((F 231 11) * 3) + b0))]) (st := []) ok _ (c_Hl_insert F G _ (by omega) hs (by omega) hv s0 a0 D t ad) k_437 k_7 k_434 cl_Hl (m_Hl (ad := ad) (t := t) (F := F) (G := G) rfl).1 (m_Hl rfl).2 k_436 s_Hl_insert q_Hl_insert (by decide) (Nat.le_of_ble_eq_true rfl) (by decide) d_Hl_addSpan_20 (fun ce1 hc2 => ?_)
    obtain ⟨F1, G1, rfl, hF1, hg1, hi1⟩ := hc2
    subst hF1
    refine g_aload_n ok d_Hl_addSpan_23 rfl 0 rfl ?_
    refine g_aload_n ok d_Hl_addSpan_24 rfl 0 rfl ?_
    refine gI_Hl_high ok _ rfl k_212 d_Hl_addSpan_25 ?_
    refine g_top (y := F 231 12) (by show (fU F 231 3 (F 231 3 + 1)) 231 12 = _; rw [fU_ja (show (12 : Nat) ≠ 3 by decide)]) ?_
    refine g_iconst ok d_Hl_addSpan_28 ?_
    refine g_iadd ok d_Hl_addSpan_29 ?_
    refine g_iconst ok d_Hl_addSpan_30 ?_
    refine g_imul ok d_Hl_addSpan_31 ?_
    refine g_iload_n ok d_Hl_addSpan_32 rfl 2 rfl ?_
    refine g_iadd ok d_Hl_addSpan_33 ?_
    have hs2 := insd_srt hs hi1
    have hv2 := insd_all (Q := fun z => 0 ≤ z ∧ z ≤ 1805) hi1 hv (by omega)
    refine g_callVV (As := [.int (iI ((((F 231 12) + 1) * 3) + e0))]) (st := []) ok _ (c_Hl_insert (fU F 231 3 (F 231 3 + 1)) G1 _ (by rw [fU_hit]; omega) (by rw [fU_hit]; exact hs2) (by omega) (by rw [fU_hit]; exact hv2) s0 a0 D t ad) k_437 k_7 k_434 cl_Hl (m_Hl (ad := ad) (t := t) (F := (fU F 231 3 (F 231 3 + 1))) (G := G1) rfl).1 (m_Hl rfl).2 k_436 s_Hl_insert q_Hl_insert (by decide) (Nat.le_of_ble_eq_true rfl) (by decide) d_Hl_addSpan_34 (fun ce1 hc3 => ?_)
    obtain ⟨F2, G2, rfl, hF2, hg2, hi2⟩ := hc3
    rw [fU_hit, fU_fU] at hF2
    rw [fU_hit] at hi2
    exact g_vret ok d_Hl_addSpan_37 ⟨_, _, rfl, Or.inr ⟨by omega, hF2, fun a q => (hg2 a q).trans (hg1 a q), G1 232, hi1, hi2⟩⟩
