/-! the roads that throw: cT: the method throws an X, and has written nothing -/
def cT (y : MethodName) (cc : ByteArray) (mL : Nat) (ret : Option FieldType) (fr lo : Nat) (F : Nat → Nat → Int) (G : Nat → Int → Int) (av : (Nat → Nat) → List Value) (X : String) : Prop :=
  ∀ (s0 : State) (a0 : Array Value) (D : va_G) (t : Nat → ClassId) (ad : Nat → Nat), gX s0 a0 D t y cc mL ret fr lo ad 265 (mem ad t F G) (av ad) X
theorem if01 {C : Prop} [Decidable C] {z : Int} (h : z = if C then 1 else 0) : (z = 1 ∧ C) ∨ (z = 0 ∧ ¬ C) := by
  by_cases hC : C
  · rw [if_pos hC] at h
    exact Or.inl ⟨h, hC⟩
  · rw [if_neg hC] at h
    exact Or.inr ⟨h, hC⟩
set_option maxHeartbeats 1000000 in
set_option maxRecDepth 100000 in
theorem t_Dk_begin_1 (F : Nat → Nat → Int) (G : Nat → Int → Int) (c0 f0 sp d : Int) (ho : F 0 10 = 1) : cT y_Dk_begin b_Dk_begin 6 none 6 82 F G (fun ad => [.ref (ad 0), .int (iI c0), .int (iI f0), .int (iI sp), .int (iI d)]) "java/lang/IllegalStateException" := by
  intro s0 a0 D t ad
  refine g_startX (by decide +kernel) (Nat.le_of_ble_eq_true rfl) (fun p l e R s m args below meth c A htr hno ok => ?_)
  show gW p l e R s m args below meth c _ D A 6 (gZ0 s) 0 0 ad 265 (mem ad t F G) 0 [(0, .ref (ad 0)), (1, .int (iI c0)), (2, .int (iI f0)), (3, .int (iI sp)), (4, .int (iI d))] []
  refine g_aload_n ok d_Dk_begin_0 rfl 0 rfl ?_
  refine gI_Dk_open ok _ rfl k_327 d_Dk_begin_1 ?_
  refine g_if_eq ok 17 d_Dk_begin_4 (by decide) (by omega) (fun h1 => ?_) (fun h1 => ?_)
  · exact absurd rfl (show ¬ (0 : Int) = 0 by omega)
  · obtain ⟨qs, hqs⟩ := str_at ok k_708 (nw_at ok 93 (by decide +kernel))
    exact g_throw (names := ["java/lang/RuntimeException", "java/lang/Exception"]) ok htr hno (by decide) (by decide) k_665 k_15 (at_ISE ok) hqs d_Dk_begin_7 d_Dk_begin_10 d_Dk_begin_11 d_Dk_begin_13 d_Dk_begin_16 (by decide)
set_option maxHeartbeats 1000000 in
set_option maxRecDepth 100000 in
theorem t_Dk_begin_2 (F : Nat → Nat → Int) (G : Nat → Int → Int) (c0 f0 sp d : Int) (ho : F 0 10 = 0) (ht : F 0 8 = 10) : cT y_Dk_begin b_Dk_begin 6 none 6 82 F G (fun ad => [.ref (ad 0), .int (iI c0), .int (iI f0), .int (iI sp), .int (iI d)]) "java/lang/UnsupportedOperationException" := by
  intro s0 a0 D t ad
  refine g_startX (by decide +kernel) (Nat.le_of_ble_eq_true rfl) (fun p l e R s m args below meth c A htr hno ok => ?_)
  show gW p l e R s m args below meth c _ D A 6 (gZ0 s) 0 0 ad 265 (mem ad t F G) 0 [(0, .ref (ad 0)), (1, .int (iI c0)), (2, .int (iI f0)), (3, .int (iI sp)), (4, .int (iI d))] []
  refine g_aload_n ok d_Dk_begin_0 rfl 0 rfl ?_
  refine gI_Dk_open ok _ rfl k_327 d_Dk_begin_1 ?_
  refine g_if_eq ok 17 d_Dk_begin_4 (by decide) (by omega) (fun h1 => ?_) (fun h1 => ?_)
  · refine g_aload_n ok d_Dk_begin_17 rfl 0 rfl ?_
    refine gI_Dk_shapeTotal ok _ rfl k_325 d_Dk_begin_18 ?_
    refine g_bipush ok (by decide) d_Dk_begin_21 ?_
    refine g_icmp_lt ok 36 d_Dk_begin_23 (by decide) (by omega) (by omega) (fun h2 => ?_) (fun h2 => ?_)
    · exact absurd rfl (show ¬ (0 : Int) = 0 by omega)
    · obtain ⟨qs, hqs⟩ := str_at ok k_744 (nw_at ok 112 (by decide +kernel))
      exact g_throw (names := ["java/lang/RuntimeException", "java/lang/Exception"]) ok htr hno (by decide) (by decide) k_735 k_16 (at_UOE ok) hqs d_Dk_begin_26 d_Dk_begin_29 d_Dk_begin_30 d_Dk_begin_32 d_Dk_begin_35 (by decide)
  · exact absurd rfl (show ¬ (0 : Int) = 0 by omega)
set_option maxHeartbeats 1000000 in
set_option maxRecDepth 100000 in
theorem t_Dk_begin_3 (F : Nat → Nat → Int) (G : Nat → Int → Int) (c0 f0 sp d : Int) (hc0 : -2147483648 ≤ c0 ∧ c0 < 2147483648) (hf0 : -2147483648 ≤ f0 ∧ f0 < 2147483648) (hsp : -2147483648 ≤ sp ∧ sp < 2147483648) (hd : -2147483648 ≤ d ∧ d < 2147483648) (ho : F 0 10 = 0) (ht : 0 ≤ F 0 8 ∧ F 0 8 < 10) (hb : ¬ bgOk c0 f0 sp d) : cT y_Dk_begin b_Dk_begin 6 none 6 82 F G (fun ad => [.ref (ad 0), .int (iI c0), .int (iI f0), .int (iI sp), .int (iI d)]) "java/lang/IllegalArgumentException" := by
  have hb1 := hb
  unfold bgOk at hb1
  intro s0 a0 D t ad
  refine g_startX (by decide +kernel) (Nat.le_of_ble_eq_true rfl) (fun p l e R s m args below meth c A htr hno ok => ?_)
  show gW p l e R s m args below meth c _ D A 6 (gZ0 s) 0 0 ad 265 (mem ad t F G) 0 [(0, .ref (ad 0)), (1, .int (iI c0)), (2, .int (iI f0)), (3, .int (iI sp)), (4, .int (iI d))] []
  refine g_aload_n ok d_Dk_begin_0 rfl 0 rfl ?_
  refine gI_Dk_open ok _ rfl k_327 d_Dk_begin_1 ?_
  refine g_if_eq ok 17 d_Dk_begin_4 (by decide) (by omega) (fun h1 => ?_) (fun h1 => ?_)
  · refine g_aload_n ok d_Dk_begin_17 rfl 0 rfl ?_
    refine gI_Dk_shapeTotal ok _ rfl k_325 d_Dk_begin_18 ?_
    refine g_bipush ok (by decide) d_Dk_begin_21 ?_
    refine g_icmp_lt ok 36 d_Dk_begin_23 (by decide) (by omega) (by omega) (fun h2 => ?_) (fun h2 => ?_)
    · refine g_iload_n ok d_Dk_begin_36 rfl 1 rfl ?_
      refine g_bipush ok (by decide) d_Dk_begin_37 ?_
      refine g_callPS (As := [.int (iI c0), .int (iI 8)]) (st := []) ok (c_Dk_isBelow F G _ _ (by omega) (by omega) s0 a0 D t ad) k_615 k_1 k_613 k_614 q_Dk_isBelow (by decide) (Nat.le_of_ble_eq_true rfl) (by decide) d_Dk_begin_39 (fun z3 hc3 => ?_)
      have hz3 := if01 hc3
      clear hc3
      refine g_if_eq ok 66 d_Dk_begin_42 (by decide) (by omega) (fun h4 => ?_) (fun h4 => ?_)
      · refine g_iconst ok d_Dk_begin_66 ?_
        refine g_istore (lv' := [(5, .int (iI 0)), (0, .ref (ad 0)), (1, .int (iI c0)), (2, .int (iI f0)), (3, .int (iI sp)), (4, .int (iI d))]) ok d_Dk_begin_67 (by decide) rfl ?_
        refine g_iload ok d_Dk_begin_69 0 rfl ?_
        refine g_if_eq ok 85 d_Dk_begin_71 (by decide) (by omega) (fun h5 => ?_) (fun h5 => ?_)
        · obtain ⟨qs, hqs⟩ := str_at ok k_760 (nw_at ok 137 (by decide +kernel))
          exact g_throw (names := ["java/lang/RuntimeException", "java/lang/Exception"]) ok htr hno (by decide) (by decide) k_751 k_17 (at_IAE ok) hqs d_Dk_begin_85 d_Dk_begin_88 d_Dk_begin_89 d_Dk_begin_91 d_Dk_begin_94 (by decide)
        · exact absurd h5 (by decide)
      · refine g_iload_n ok d_Dk_begin_45 rfl 2 rfl ?_
        refine g_iconst ok d_Dk_begin_46 ?_
        refine g_callPS (As := [.int (iI f0), .int (iI 3)]) (st := []) ok (c_Dk_isBelow F G _ _ (by omega) (by omega) s0 a0 D t ad) k_615 k_1 k_613 k_614 q_Dk_isBelow (by decide) (Nat.le_of_ble_eq_true rfl) (by decide) d_Dk_begin_47 (fun z6 hc6 => ?_)
        have hz6 := if01 hc6
        clear hc6
        refine g_if_eq ok 66 d_Dk_begin_50 (by decide) (by omega) (fun h7 => ?_) (fun h7 => ?_)
        · refine g_iconst ok d_Dk_begin_66 ?_
          refine g_istore (lv' := [(5, .int (iI 0)), (0, .ref (ad 0)), (1, .int (iI c0)), (2, .int (iI f0)), (3, .int (iI sp)), (4, .int (iI d))]) ok d_Dk_begin_67 (by decide) rfl ?_
          refine g_iload ok d_Dk_begin_69 0 rfl ?_
          refine g_if_eq ok 85 d_Dk_begin_71 (by decide) (by omega) (fun h8 => ?_) (fun h8 => ?_)
          · obtain ⟨qs, hqs⟩ := str_at ok k_760 (nw_at ok 137 (by decide +kernel))
            exact g_throw (names := ["java/lang/RuntimeException", "java/lang/Exception"]) ok htr hno (by decide) (by decide) k_751 k_17 (at_IAE ok) hqs d_Dk_begin_85 d_Dk_begin_88 d_Dk_begin_89 d_Dk_begin_91 d_Dk_begin_94 (by decide)
          · exact absurd h8 (by decide)
        · refine g_iload ok d_Dk_begin_53 4 rfl ?_
          refine g_iconst ok d_Dk_begin_55 ?_
          refine g_callPS (As := [.int (iI d), .int (iI 4)]) (st := []) ok (c_Dk_isBelow F G _ _ (by omega) (by omega) s0 a0 D t ad) k_615 k_1 k_613 k_614 q_Dk_isBelow (by decide) (Nat.le_of_ble_eq_true rfl) (by decide) d_Dk_begin_56 (fun z9 hc9 => ?_)
          have hz9 := if01 hc9
          clear hc9
          refine g_if_eq ok 66 d_Dk_begin_59 (by decide) (by omega) (fun h10 => ?_) (fun h10 => ?_)
          · refine g_iconst ok d_Dk_begin_66 ?_
            refine g_istore (lv' := [(5, .int (iI 0)), (0, .ref (ad 0)), (1, .int (iI c0)), (2, .int (iI f0)), (3, .int (iI sp)), (4, .int (iI d))]) ok d_Dk_begin_67 (by decide) rfl ?_
            refine g_iload ok d_Dk_begin_69 0 rfl ?_
            refine g_if_eq ok 85 d_Dk_begin_71 (by decide) (by omega) (fun h11 => ?_) (fun h11 => ?_)
            · obtain ⟨qs, hqs⟩ := str_at ok k_760 (nw_at ok 137 (by decide +kernel))
              exact g_throw (names := ["java/lang/RuntimeException", "java/lang/Exception"]) ok htr hno (by decide) (by decide) k_751 k_17 (at_IAE ok) hqs d_Dk_begin_85 d_Dk_begin_88 d_Dk_begin_89 d_Dk_begin_91 d_Dk_begin_94 (by decide)
            · exact absurd h11 (by decide)
          · refine g_iconst ok d_Dk_begin_62 ?_
            refine g_goto ok 67 d_Dk_begin_63 (by decide) ?_
            refine g_istore (lv' := [(5, .int (iI 1)), (0, .ref (ad 0)), (1, .int (iI c0)), (2, .int (iI f0)), (3, .int (iI sp)), (4, .int (iI d))]) ok d_Dk_begin_67 (by decide) rfl ?_
            refine g_iload ok d_Dk_begin_69 0 rfl ?_
            refine g_if_eq ok 85 d_Dk_begin_71 (by decide) (by omega) (fun h12 => ?_) (fun h12 => ?_)
            · exact absurd h12 (by decide)
            · refine g_iload_n ok d_Dk_begin_74 rfl 4 rfl ?_
              refine g_iconst ok d_Dk_begin_75 ?_
              refine g_icmp_lt ok 85 d_Dk_begin_76 (by decide) (by omega) (by omega) (fun h13 => ?_) (fun h13 => ?_)
              · obtain ⟨qs, hqs⟩ := str_at ok k_760 (nw_at ok 137 (by decide +kernel))
                exact g_throw (names := ["java/lang/RuntimeException", "java/lang/Exception"]) ok htr hno (by decide) (by decide) k_751 k_17 (at_IAE ok) hqs d_Dk_begin_85 d_Dk_begin_88 d_Dk_begin_89 d_Dk_begin_91 d_Dk_begin_94 (by decide)
              · refine g_iload_n ok d_Dk_begin_79 rfl 4 rfl ?_
                refine g_bipush ok (by decide) d_Dk_begin_80 ?_
                refine g_icmp_le ok 95 d_Dk_begin_82 (by decide) (by omega) (by omega) (fun h14 => ?_) (fun h14 => ?_)
                · exact absurd rfl (show ¬ (0 : Int) = 0 by omega)
                · obtain ⟨qs, hqs⟩ := str_at ok k_760 (nw_at ok 137 (by decide +kernel))
                  exact g_throw (names := ["java/lang/RuntimeException", "java/lang/Exception"]) ok htr hno (by decide) (by decide) k_751 k_17 (at_IAE ok) hqs d_Dk_begin_85 d_Dk_begin_88 d_Dk_begin_89 d_Dk_begin_91 d_Dk_begin_94 (by decide)
    · exact absurd rfl (show ¬ (0 : Int) = 0 by omega)
  · exact absurd rfl (show ¬ (0 : Int) = 0 by omega)
set_option maxHeartbeats 1000000 in
set_option maxRecDepth 100000 in
theorem t_Dk_corner_0 (F : Nat → Nat → Int) (G : Nat → Int → Int) (r x y : Int) (ho : F 0 10 = 0) : cT y_Dk_corner b_Dk_corner 5 (some .int) 6 82 F G (fun ad => [.ref (ad 0), .int (iI r), .int (iI x), .int (iI y)]) "java/lang/IllegalStateException" := by
  intro s0 a0 D t ad
  refine g_startX (by decide +kernel) (Nat.le_of_ble_eq_true rfl) (fun p l e R s m args below meth c A htr hno ok => ?_)
  show gW p l e R s m args below meth c _ D A 5 (gZ0 s) 0 0 ad 265 (mem ad t F G) 0 [(0, .ref (ad 0)), (1, .int (iI r)), (2, .int (iI x)), (3, .int (iI y))] []
  refine g_aload_n ok d_Dk_corner_0 rfl 0 rfl ?_
  refine gI_Dk_open ok _ rfl k_327 d_Dk_corner_1 ?_
  refine g_if_eq ok 23 d_Dk_corner_4 (by decide) (by omega) (fun h1 => ?_) (fun h1 => ?_)
  · obtain ⟨qs, hqs⟩ := str_at ok k_786 (nw_at ok 156 (by decide +kernel))
    exact g_throw (names := ["java/lang/RuntimeException", "java/lang/Exception"]) ok htr hno (by decide) (by decide) k_665 k_15 (at_ISE ok) hqs d_Dk_corner_23 d_Dk_corner_26 d_Dk_corner_27 d_Dk_corner_29 d_Dk_corner_32 (by decide)
  · exact absurd rfl (show ¬ (0 : Int) = 0 by omega)
set_option maxHeartbeats 1000000 in
set_option maxRecDepth 100000 in
theorem t_Dk_corner_1 (F : Nat → Nat → Int) (G : Nat → Int → Int) (k : Nat) (ht : 0 ≤ F 0 8 ∧ F 0 8 < 10) (hk : k = 2 + 22 * (F 0 8).toNat) (r x y : Int) (ho : F 0 10 = 1) (hfl : 0 ≤ F k 4 ∧ F k 4 ≤ 2) (hf : F k 4 = 1) : cT y_Dk_corner b_Dk_corner 5 (some .int) 6 82 F G (fun ad => [.ref (ad 0), .int (iI r), .int (iI x), .int (iI y)]) "java/lang/IllegalStateException" := by
  have hK : isSh k := hk ▸ sh_at ht
  have hkk := hK
  unfold isSh at hkk
  intro s0 a0 D t ad
  refine g_startX (by decide +kernel) (Nat.le_of_ble_eq_true rfl) (fun p l e R s m args below meth c A htr hno ok => ?_)
  show gW p l e R s m args below meth c _ D A 5 (gZ0 s) 0 0 ad 265 (mem ad t F G) 0 [(0, .ref (ad 0)), (1, .int (iI r)), (2, .int (iI x)), (3, .int (iI y))] []
  refine g_aload_n ok d_Dk_corner_0 rfl 0 rfl ?_
  refine gI_Dk_open ok _ rfl k_327 d_Dk_corner_1 ?_
  refine g_if_eq ok 23 d_Dk_corner_4 (by decide) (by omega) (fun h1 => ?_) (fun h1 => ?_)
  · obtain ⟨qs, hqs⟩ := str_at ok k_786 (nw_at ok 156 (by decide +kernel))
    exact g_throw (names := ["java/lang/RuntimeException", "java/lang/Exception"]) ok htr hno (by decide) (by decide) k_665 k_15 (at_ISE ok) hqs d_Dk_corner_23 d_Dk_corner_26 d_Dk_corner_27 d_Dk_corner_29 d_Dk_corner_32 (by decide)
  · refine g_aload_n ok d_Dk_corner_7 rfl 0 rfl ?_
    refine gI_Dk_shapes ok _ rfl k_317 d_Dk_corner_8 ?_
    refine g_aload_n ok d_Dk_corner_11 rfl 0 rfl ?_
    refine gI_Dk_shapeTotal ok _ rfl k_325 d_Dk_corner_12 ?_
    refine h_shapes ok (by omega) d_Dk_corner_15 ?_
    refine g_tv (y := .ref (ad k)) (by rw [hk]) ?_
    refine gN_Sh_fill ok _ hK k_101 d_Dk_corner_16 ?_
    refine g_iconst ok d_Dk_corner_19 ?_
    refine g_icmp_ne ok 33 d_Dk_corner_20 (by decide) (by omega) (by omega) (fun h2 => ?_) (fun h2 => ?_)
    · exact absurd rfl (show ¬ (0 : Int) = 0 by omega)
    · obtain ⟨qs, hqs⟩ := str_at ok k_786 (nw_at ok 156 (by decide +kernel))
      exact g_throw (names := ["java/lang/RuntimeException", "java/lang/Exception"]) ok htr hno (by decide) (by decide) k_665 k_15 (at_ISE ok) hqs d_Dk_corner_23 d_Dk_corner_26 d_Dk_corner_27 d_Dk_corner_29 d_Dk_corner_32 (by decide)
set_option maxHeartbeats 1000000 in
set_option maxRecDepth 100000 in
theorem t_Dk_corner_2 (F : Nat → Nat → Int) (G : Nat → Int → Int) (k : Nat) (ht : 0 ≤ F 0 8 ∧ F 0 8 < 10) (hk : k = 2 + 22 * (F 0 8).toNat) (r x y : Int) (hr : -2147483648 ≤ r ∧ r < 2147483648) (hx : -2147483648 ≤ x ∧ x < 2147483648) (hy : -2147483648 ≤ y ∧ y < 2147483648) (ho : F 0 10 = 1) (hfl : 0 ≤ F k 4 ∧ F k 4 ≤ 2) (hf : ¬ F k 4 = 1) (hb : ¬ ((0 ≤ r ∧ r < 4) ∧ (0 ≤ x ∧ x ≤ 600) ∧ (0 ≤ y ∧ y ≤ 600))) : cT y_Dk_corner b_Dk_corner 5 (some .int) 6 82 F G (fun ad => [.ref (ad 0), .int (iI r), .int (iI x), .int (iI y)]) "java/lang/IllegalArgumentException" := by
  have hK : isSh k := hk ▸ sh_at ht
  have hkk := hK
  unfold isSh at hkk
  intro s0 a0 D t ad
  refine g_startX (by decide +kernel) (Nat.le_of_ble_eq_true rfl) (fun p l e R s m args below meth c A htr hno ok => ?_)
  show gW p l e R s m args below meth c _ D A 5 (gZ0 s) 0 0 ad 265 (mem ad t F G) 0 [(0, .ref (ad 0)), (1, .int (iI r)), (2, .int (iI x)), (3, .int (iI y))] []
  refine g_aload_n ok d_Dk_corner_0 rfl 0 rfl ?_
  refine gI_Dk_open ok _ rfl k_327 d_Dk_corner_1 ?_
  refine g_if_eq ok 23 d_Dk_corner_4 (by decide) (by omega) (fun h1 => ?_) (fun h1 => ?_)
  · exact absurd rfl (show ¬ (0 : Int) = 0 by omega)
  · refine g_aload_n ok d_Dk_corner_7 rfl 0 rfl ?_
    refine gI_Dk_shapes ok _ rfl k_317 d_Dk_corner_8 ?_
    refine g_aload_n ok d_Dk_corner_11 rfl 0 rfl ?_
    refine gI_Dk_shapeTotal ok _ rfl k_325 d_Dk_corner_12 ?_
    refine h_shapes ok (by omega) d_Dk_corner_15 ?_
    refine g_tv (y := .ref (ad k)) (by rw [hk]) ?_
    refine gN_Sh_fill ok _ hK k_101 d_Dk_corner_16 ?_
    refine g_iconst ok d_Dk_corner_19 ?_
    refine g_icmp_ne ok 33 d_Dk_corner_20 (by decide) (by omega) (by omega) (fun h2 => ?_) (fun h2 => ?_)
    · refine g_iload_n ok d_Dk_corner_33 rfl 1 rfl ?_
      refine g_iconst ok d_Dk_corner_34 ?_
      refine g_callPS (As := [.int (iI r), .int (iI 4)]) (st := []) ok (c_Dk_isBelow F G _ _ (by omega) (by omega) s0 a0 D t ad) k_615 k_1 k_613 k_614 q_Dk_isBelow (by decide) (Nat.le_of_ble_eq_true rfl) (by decide) d_Dk_corner_35 (fun z3 hc3 => ?_)
      have hz3 := if01 hc3
      clear hc3
      refine g_if_eq ok 49 d_Dk_corner_38 (by decide) (by omega) (fun h4 => ?_) (fun h4 => ?_)
      · obtain ⟨qs, hqs⟩ := str_at ok k_790 (nw_at ok 190 (by decide +kernel))
        exact g_throw (names := ["java/lang/RuntimeException", "java/lang/Exception"]) ok htr hno (by decide) (by decide) k_751 k_17 (at_IAE ok) hqs d_Dk_corner_49 d_Dk_corner_52 d_Dk_corner_53 d_Dk_corner_55 d_Dk_corner_58 (by decide)
      · refine g_iload_n ok d_Dk_corner_41 rfl 2 rfl ?_
        refine g_iload_n ok d_Dk_corner_42 rfl 3 rfl ?_
        refine g_callPS (As := [.int (iI x), .int (iI y)]) (st := []) ok (c_Dk_isPlace F G _ _ (by omega) (by omega) s0 a0 D t ad) k_789 k_1 k_787 k_788 q_Dk_isPlace (by decide) (Nat.le_of_ble_eq_true rfl) (by decide) d_Dk_corner_43 (fun z5 hc5 => ?_)
        have hz5 := if01 hc5
        clear hc5
        refine g_if_ne ok 59 d_Dk_corner_46 (by decide) (by omega) (fun h6 => ?_) (fun h6 => ?_)
        · exact absurd rfl (show ¬ (0 : Int) = 0 by omega)
        · obtain ⟨qs, hqs⟩ := str_at ok k_790 (nw_at ok 190 (by decide +kernel))
          exact g_throw (names := ["java/lang/RuntimeException", "java/lang/Exception"]) ok htr hno (by decide) (by decide) k_751 k_17 (at_IAE ok) hqs d_Dk_corner_49 d_Dk_corner_52 d_Dk_corner_53 d_Dk_corner_55 d_Dk_corner_58 (by decide)
    · exact absurd rfl (show ¬ (0 : Int) = 0 by omega)
set_option maxHeartbeats 1000000 in
set_option maxRecDepth 100000 in
theorem t_Dk_corner_3 (F : Nat → Nat → Int) (G : Nat → Int → Int) (k : Nat) (ht : 0 ≤ F 0 8 ∧ F 0 8 < 10) (hk : k = 2 + 22 * (F 0 8).toNat) (r x y : Int) (ho : F 0 10 = 1) (hfl : 0 ≤ F k 4 ∧ F k 4 ≤ 2) (hf : ¬ F k 4 = 1) (hr : 0 ≤ r ∧ r < 4) (hxy : (0 ≤ x ∧ x ≤ 600) ∧ (0 ≤ y ∧ y ≤ 600)) (hs : F (k + 3 + 3 * r.toNat) 2 = 24) : cT y_Dk_corner b_Dk_corner 5 (some .int) 6 82 F G (fun ad => [.ref (ad 0), .int (iI r), .int (iI x), .int (iI y)]) "java/lang/UnsupportedOperationException" := by
  have hK : isSh k := hk ▸ sh_at ht
  have hkk := hK
  unfold isSh at hkk
  intro s0 a0 D t ad
  refine g_startX (by decide +kernel) (Nat.le_of_ble_eq_true rfl) (fun p l e R s m args below meth c A htr hno ok => ?_)
  show gW p l e R s m args below meth c _ D A 5 (gZ0 s) 0 0 ad 265 (mem ad t F G) 0 [(0, .ref (ad 0)), (1, .int (iI r)), (2, .int (iI x)), (3, .int (iI y))] []
  refine g_aload_n ok d_Dk_corner_0 rfl 0 rfl ?_
  refine gI_Dk_open ok _ rfl k_327 d_Dk_corner_1 ?_
  refine g_if_eq ok 23 d_Dk_corner_4 (by decide) (by omega) (fun h1 => ?_) (fun h1 => ?_)
  · exact absurd rfl (show ¬ (0 : Int) = 0 by omega)
  · refine g_aload_n ok d_Dk_corner_7 rfl 0 rfl ?_
    refine gI_Dk_shapes ok _ rfl k_317 d_Dk_corner_8 ?_
    refine g_aload_n ok d_Dk_corner_11 rfl 0 rfl ?_
    refine gI_Dk_shapeTotal ok _ rfl k_325 d_Dk_corner_12 ?_
    refine h_shapes ok (by omega) d_Dk_corner_15 ?_
    refine g_tv (y := .ref (ad k)) (by rw [hk]) ?_
    refine gN_Sh_fill ok _ hK k_101 d_Dk_corner_16 ?_
    refine g_iconst ok d_Dk_corner_19 ?_
    refine g_icmp_ne ok 33 d_Dk_corner_20 (by decide) (by omega) (by omega) (fun h2 => ?_) (fun h2 => ?_)
    · refine g_iload_n ok d_Dk_corner_33 rfl 1 rfl ?_
      refine g_iconst ok d_Dk_corner_34 ?_
      refine g_callPS (As := [.int (iI r), .int (iI 4)]) (st := []) ok (c_Dk_isBelow F G _ _ (by omega) (by omega) s0 a0 D t ad) k_615 k_1 k_613 k_614 q_Dk_isBelow (by decide) (Nat.le_of_ble_eq_true rfl) (by decide) d_Dk_corner_35 (fun z3 hc3 => ?_)
      have hz3 := if01 hc3
      clear hc3
      refine g_if_eq ok 49 d_Dk_corner_38 (by decide) (by omega) (fun h4 => ?_) (fun h4 => ?_)
      · exact absurd rfl (show ¬ (0 : Int) = 0 by omega)
      · refine g_iload_n ok d_Dk_corner_41 rfl 2 rfl ?_
        refine g_iload_n ok d_Dk_corner_42 rfl 3 rfl ?_
        refine g_callPS (As := [.int (iI x), .int (iI y)]) (st := []) ok (c_Dk_isPlace F G _ _ (by omega) (by omega) s0 a0 D t ad) k_789 k_1 k_787 k_788 q_Dk_isPlace (by decide) (Nat.le_of_ble_eq_true rfl) (by decide) d_Dk_corner_43 (fun z5 hc5 => ?_)
        have hz5 := if01 hc5
        clear hc5
        refine g_if_ne ok 59 d_Dk_corner_46 (by decide) (by omega) (fun h6 => ?_) (fun h6 => ?_)
        · refine g_aload_n ok d_Dk_corner_59 rfl 0 rfl ?_
          refine gI_Dk_shapes ok _ rfl k_317 d_Dk_corner_60 ?_
          refine g_aload_n ok d_Dk_corner_63 rfl 0 rfl ?_
          refine gI_Dk_shapeTotal ok _ rfl k_325 d_Dk_corner_64 ?_
          refine h_shapes ok (by omega) d_Dk_corner_67 ?_
          refine g_tv (y := .ref (ad k)) (by rw [hk]) ?_
          refine gN_Sh_rings ok _ hK k_85 d_Dk_corner_68 ?_
          refine g_iload_n ok d_Dk_corner_71 rfl 1 rfl ?_
          refine h_rings ok _ hK (by omega) d_Dk_corner_72 ?_
          refine g_astore (lv' := [(4, .ref (ad (k + 3 + 3 * (r : Int).toNat))), (0, .ref (ad 0)), (1, .int (iI r)), (2, .int (iI x)), (3, .int (iI y))]) ok d_Dk_corner_73 (by decide) rfl ?_
          refine g_aload ok d_Dk_corner_75 0 rfl ?_
          refine gN_Rg_size ok _ (rg_of hK (by omega)) k_57 d_Dk_corner_77 ?_
          refine g_bipush ok (by decide) d_Dk_corner_80 ?_
          refine g_icmp_lt ok 95 d_Dk_corner_82 (by decide) (by omega) (by omega) (fun h7 => ?_) (fun h7 => ?_)
          · exact absurd rfl (show ¬ (0 : Int) = 0 by omega)
          · obtain ⟨qs, hqs⟩ := str_at ok k_791 (nw_at ok 219 (by decide +kernel))
            exact g_throw (names := ["java/lang/RuntimeException", "java/lang/Exception"]) ok htr hno (by decide) (by decide) k_735 k_16 (at_UOE ok) hqs d_Dk_corner_85 d_Dk_corner_88 d_Dk_corner_89 d_Dk_corner_91 d_Dk_corner_94 (by decide)
        · exact absurd rfl (show ¬ (0 : Int) = 0 by omega)
    · exact absurd rfl (show ¬ (0 : Int) = 0 by omega)
set_option maxHeartbeats 1000000 in
set_option maxRecDepth 100000 in
theorem t_Dk_rail_0 (F : Nat → Nat → Int) (G : Nat → Int → Int) (r x y : Int) (ho : F 0 10 = 0) : cT y_Dk_rail b_Dk_rail 5 (some .int) 6 82 F G (fun ad => [.ref (ad 0), .int (iI r), .int (iI x), .int (iI y)]) "java/lang/IllegalStateException" := by
  intro s0 a0 D t ad
  refine g_startX (by decide +kernel) (Nat.le_of_ble_eq_true rfl) (fun p l e R s m args below meth c A htr hno ok => ?_)
  show gW p l e R s m args below meth c _ D A 5 (gZ0 s) 0 0 ad 265 (mem ad t F G) 0 [(0, .ref (ad 0)), (1, .int (iI r)), (2, .int (iI x)), (3, .int (iI y))] []
  refine g_aload_n ok d_Dk_rail_0 rfl 0 rfl ?_
  refine gI_Dk_open ok _ rfl k_327 d_Dk_rail_1 ?_
  refine g_if_eq ok 23 d_Dk_rail_4 (by decide) (by omega) (fun h1 => ?_) (fun h1 => ?_)
  · obtain ⟨qs, hqs⟩ := str_at ok k_803 (nw_at ok 251 (by decide +kernel))
    exact g_throw (names := ["java/lang/RuntimeException", "java/lang/Exception"]) ok htr hno (by decide) (by decide) k_665 k_15 (at_ISE ok) hqs d_Dk_rail_23 d_Dk_rail_26 d_Dk_rail_27 d_Dk_rail_29 d_Dk_rail_32 (by decide)
  · exact absurd rfl (show ¬ (0 : Int) = 0 by omega)
set_option maxHeartbeats 1000000 in
set_option maxRecDepth 100000 in
theorem t_Dk_rail_1 (F : Nat → Nat → Int) (G : Nat → Int → Int) (k : Nat) (ht : 0 ≤ F 0 8 ∧ F 0 8 < 10) (hk : k = 2 + 22 * (F 0 8).toNat) (r x y : Int) (ho : F 0 10 = 1) (hfl : 0 ≤ F k 4 ∧ F k 4 ≤ 2) (hf : ¬ F k 4 = 1) : cT y_Dk_rail b_Dk_rail 5 (some .int) 6 82 F G (fun ad => [.ref (ad 0), .int (iI r), .int (iI x), .int (iI y)]) "java/lang/IllegalStateException" := by
  have hK : isSh k := hk ▸ sh_at ht
  have hkk := hK
  unfold isSh at hkk
  intro s0 a0 D t ad
  refine g_startX (by decide +kernel) (Nat.le_of_ble_eq_true rfl) (fun p l e R s m args below meth c A htr hno ok => ?_)
  show gW p l e R s m args below meth c _ D A 5 (gZ0 s) 0 0 ad 265 (mem ad t F G) 0 [(0, .ref (ad 0)), (1, .int (iI r)), (2, .int (iI x)), (3, .int (iI y))] []
  refine g_aload_n ok d_Dk_rail_0 rfl 0 rfl ?_
  refine gI_Dk_open ok _ rfl k_327 d_Dk_rail_1 ?_
  refine g_if_eq ok 23 d_Dk_rail_4 (by decide) (by omega) (fun h1 => ?_) (fun h1 => ?_)
  · obtain ⟨qs, hqs⟩ := str_at ok k_803 (nw_at ok 251 (by decide +kernel))
    exact g_throw (names := ["java/lang/RuntimeException", "java/lang/Exception"]) ok htr hno (by decide) (by decide) k_665 k_15 (at_ISE ok) hqs d_Dk_rail_23 d_Dk_rail_26 d_Dk_rail_27 d_Dk_rail_29 d_Dk_rail_32 (by decide)
  · refine g_aload_n ok d_Dk_rail_7 rfl 0 rfl ?_
    refine gI_Dk_shapes ok _ rfl k_317 d_Dk_rail_8 ?_
    refine g_aload_n ok d_Dk_rail_11 rfl 0 rfl ?_
    refine gI_Dk_shapeTotal ok _ rfl k_325 d_Dk_rail_12 ?_
    refine h_shapes ok (by omega) d_Dk_rail_15 ?_
    refine g_tv (y := .ref (ad k)) (by rw [hk]) ?_
    refine gN_Sh_fill ok _ hK k_101 d_Dk_rail_16 ?_
    refine g_iconst ok d_Dk_rail_19 ?_
    refine g_icmp_eq ok 33 d_Dk_rail_20 (by decide) (by omega) (by omega) (fun h2 => ?_) (fun h2 => ?_)
    · exact absurd rfl (show ¬ (0 : Int) = 0 by omega)
    · obtain ⟨qs, hqs⟩ := str_at ok k_803 (nw_at ok 251 (by decide +kernel))
      exact g_throw (names := ["java/lang/RuntimeException", "java/lang/Exception"]) ok htr hno (by decide) (by decide) k_665 k_15 (at_ISE ok) hqs d_Dk_rail_23 d_Dk_rail_26 d_Dk_rail_27 d_Dk_rail_29 d_Dk_rail_32 (by decide)
set_option maxHeartbeats 1000000 in
set_option maxRecDepth 100000 in
theorem t_Dk_rail_2 (F : Nat → Nat → Int) (G : Nat → Int → Int) (k : Nat) (ht : 0 ≤ F 0 8 ∧ F 0 8 < 10) (hk : k = 2 + 22 * (F 0 8).toNat) (r x y : Int) (hr : -2147483648 ≤ r ∧ r < 2147483648) (hx : -2147483648 ≤ x ∧ x < 2147483648) (hy : -2147483648 ≤ y ∧ y < 2147483648) (ho : F 0 10 = 1) (hfl : 0 ≤ F k 4 ∧ F k 4 ≤ 2) (hf : F k 4 = 1) (hb : ¬ ((0 ≤ r ∧ r < 2) ∧ (0 ≤ x ∧ x ≤ 600) ∧ (0 ≤ y ∧ y ≤ 600))) : cT y_Dk_rail b_Dk_rail 5 (some .int) 6 82 F G (fun ad => [.ref (ad 0), .int (iI r), .int (iI x), .int (iI y)]) "java/lang/IllegalArgumentException" := by
  have hK : isSh k := hk ▸ sh_at ht
  have hkk := hK
  unfold isSh at hkk
  intro s0 a0 D t ad
  refine g_startX (by decide +kernel) (Nat.le_of_ble_eq_true rfl) (fun p l e R s m args below meth c A htr hno ok => ?_)
  show gW p l e R s m args below meth c _ D A 5 (gZ0 s) 0 0 ad 265 (mem ad t F G) 0 [(0, .ref (ad 0)), (1, .int (iI r)), (2, .int (iI x)), (3, .int (iI y))] []
  refine g_aload_n ok d_Dk_rail_0 rfl 0 rfl ?_
  refine gI_Dk_open ok _ rfl k_327 d_Dk_rail_1 ?_
  refine g_if_eq ok 23 d_Dk_rail_4 (by decide) (by omega) (fun h1 => ?_) (fun h1 => ?_)
  · exact absurd rfl (show ¬ (0 : Int) = 0 by omega)
  · refine g_aload_n ok d_Dk_rail_7 rfl 0 rfl ?_
    refine gI_Dk_shapes ok _ rfl k_317 d_Dk_rail_8 ?_
    refine g_aload_n ok d_Dk_rail_11 rfl 0 rfl ?_
    refine gI_Dk_shapeTotal ok _ rfl k_325 d_Dk_rail_12 ?_
    refine h_shapes ok (by omega) d_Dk_rail_15 ?_
    refine g_tv (y := .ref (ad k)) (by rw [hk]) ?_
    refine gN_Sh_fill ok _ hK k_101 d_Dk_rail_16 ?_
    refine g_iconst ok d_Dk_rail_19 ?_
    refine g_icmp_eq ok 33 d_Dk_rail_20 (by decide) (by omega) (by omega) (fun h2 => ?_) (fun h2 => ?_)
    · refine g_iload_n ok d_Dk_rail_33 rfl 1 rfl ?_
      refine g_iconst ok d_Dk_rail_34 ?_
      refine g_callPS (As := [.int (iI r), .int (iI 2)]) (st := []) ok (c_Dk_isBelow F G _ _ (by omega) (by omega) s0 a0 D t ad) k_615 k_1 k_613 k_614 q_Dk_isBelow (by decide) (Nat.le_of_ble_eq_true rfl) (by decide) d_Dk_rail_35 (fun z3 hc3 => ?_)
      have hz3 := if01 hc3
      clear hc3
      refine g_if_eq ok 49 d_Dk_rail_38 (by decide) (by omega) (fun h4 => ?_) (fun h4 => ?_)
      · obtain ⟨qs, hqs⟩ := str_at ok k_804 (nw_at ok 288 (by decide +kernel))
        exact g_throw (names := ["java/lang/RuntimeException", "java/lang/Exception"]) ok htr hno (by decide) (by decide) k_751 k_17 (at_IAE ok) hqs d_Dk_rail_49 d_Dk_rail_52 d_Dk_rail_53 d_Dk_rail_55 d_Dk_rail_58 (by decide)
      · refine g_iload_n ok d_Dk_rail_41 rfl 2 rfl ?_
        refine g_iload_n ok d_Dk_rail_42 rfl 3 rfl ?_
        refine g_callPS (As := [.int (iI x), .int (iI y)]) (st := []) ok (c_Dk_isPlace F G _ _ (by omega) (by omega) s0 a0 D t ad) k_789 k_1 k_787 k_788 q_Dk_isPlace (by decide) (Nat.le_of_ble_eq_true rfl) (by decide) d_Dk_rail_43 (fun z5 hc5 => ?_)
        have hz5 := if01 hc5
        clear hc5
        refine g_if_ne ok 59 d_Dk_rail_46 (by decide) (by omega) (fun h6 => ?_) (fun h6 => ?_)
        · exact absurd rfl (show ¬ (0 : Int) = 0 by omega)
        · obtain ⟨qs, hqs⟩ := str_at ok k_804 (nw_at ok 288 (by decide +kernel))
          exact g_throw (names := ["java/lang/RuntimeException", "java/lang/Exception"]) ok htr hno (by decide) (by decide) k_751 k_17 (at_IAE ok) hqs d_Dk_rail_49 d_Dk_rail_52 d_Dk_rail_53 d_Dk_rail_55 d_Dk_rail_58 (by decide)
    · exact absurd rfl (show ¬ (0 : Int) = 0 by omega)
set_option maxHeartbeats 1000000 in
set_option maxRecDepth 100000 in
theorem t_Dk_rail_3 (F : Nat → Nat → Int) (G : Nat → Int → Int) (k : Nat) (ht : 0 ≤ F 0 8 ∧ F 0 8 < 10) (hk : k = 2 + 22 * (F 0 8).toNat) (r x y : Int) (ho : F 0 10 = 1) (hfl : 0 ≤ F k 4 ∧ F k 4 ≤ 2) (hf : F k 4 = 1) (hr : 0 ≤ r ∧ r < 2) (hxy : (0 ≤ x ∧ x ≤ 600) ∧ (0 ≤ y ∧ y ≤ 600)) (hs : F (k + 15 + 3 * r.toNat) 2 = 16) : cT y_Dk_rail b_Dk_rail 5 (some .int) 6 82 F G (fun ad => [.ref (ad 0), .int (iI r), .int (iI x), .int (iI y)]) "java/lang/UnsupportedOperationException" := by
  have hK : isSh k := hk ▸ sh_at ht
  have hkk := hK
  unfold isSh at hkk
  intro s0 a0 D t ad
  refine g_startX (by decide +kernel) (Nat.le_of_ble_eq_true rfl) (fun p l e R s m args below meth c A htr hno ok => ?_)
  show gW p l e R s m args below meth c _ D A 5 (gZ0 s) 0 0 ad 265 (mem ad t F G) 0 [(0, .ref (ad 0)), (1, .int (iI r)), (2, .int (iI x)), (3, .int (iI y))] []
  refine g_aload_n ok d_Dk_rail_0 rfl 0 rfl ?_
  refine gI_Dk_open ok _ rfl k_327 d_Dk_rail_1 ?_
  refine g_if_eq ok 23 d_Dk_rail_4 (by decide) (by omega) (fun h1 => ?_) (fun h1 => ?_)
  · exact absurd rfl (show ¬ (0 : Int) = 0 by omega)
  · refine g_aload_n ok d_Dk_rail_7 rfl 0 rfl ?_
    refine gI_Dk_shapes ok _ rfl k_317 d_Dk_rail_8 ?_
    refine g_aload_n ok d_Dk_rail_11 rfl 0 rfl ?_
    refine gI_Dk_shapeTotal ok _ rfl k_325 d_Dk_rail_12 ?_
    refine h_shapes ok (by omega) d_Dk_rail_15 ?_
    refine g_tv (y := .ref (ad k)) (by rw [hk]) ?_
    refine gN_Sh_fill ok _ hK k_101 d_Dk_rail_16 ?_
    refine g_iconst ok d_Dk_rail_19 ?_
    refine g_icmp_eq ok 33 d_Dk_rail_20 (by decide) (by omega) (by omega) (fun h2 => ?_) (fun h2 => ?_)
    · refine g_iload_n ok d_Dk_rail_33 rfl 1 rfl ?_
      refine g_iconst ok d_Dk_rail_34 ?_
      refine g_callPS (As := [.int (iI r), .int (iI 2)]) (st := []) ok (c_Dk_isBelow F G _ _ (by omega) (by omega) s0 a0 D t ad) k_615 k_1 k_613 k_614 q_Dk_isBelow (by decide) (Nat.le_of_ble_eq_true rfl) (by decide) d_Dk_rail_35 (fun z3 hc3 => ?_)
      have hz3 := if01 hc3
      clear hc3
      refine g_if_eq ok 49 d_Dk_rail_38 (by decide) (by omega) (fun h4 => ?_) (fun h4 => ?_)
      · exact absurd rfl (show ¬ (0 : Int) = 0 by omega)
      · refine g_iload_n ok d_Dk_rail_41 rfl 2 rfl ?_
        refine g_iload_n ok d_Dk_rail_42 rfl 3 rfl ?_
        refine g_callPS (As := [.int (iI x), .int (iI y)]) (st := []) ok (c_Dk_isPlace F G _ _ (by omega) (by omega) s0 a0 D t ad) k_789 k_1 k_787 k_788 q_Dk_isPlace (by decide) (Nat.le_of_ble_eq_true rfl) (by decide) d_Dk_rail_43 (fun z5 hc5 => ?_)
        have hz5 := if01 hc5
        clear hc5
        refine g_if_ne ok 59 d_Dk_rail_46 (by decide) (by omega) (fun h6 => ?_) (fun h6 => ?_)
        · refine g_aload_n ok d_Dk_rail_59 rfl 0 rfl ?_
          refine gI_Dk_shapes ok _ rfl k_317 d_Dk_rail_60 ?_
          refine g_aload_n ok d_Dk_rail_63 rfl 0 rfl ?_
          refine gI_Dk_shapeTotal ok _ rfl k_325 d_Dk_rail_64 ?_
          refine h_shapes ok (by omega) d_Dk_rail_67 ?_
          refine g_tv (y := .ref (ad k)) (by rw [hk]) ?_
          refine gN_Sh_rails ok _ hK k_91 d_Dk_rail_68 ?_
          refine g_iload_n ok d_Dk_rail_71 rfl 1 rfl ?_
          refine h_rails ok _ hK (by omega) d_Dk_rail_72 ?_
          refine g_astore (lv' := [(4, .ref (ad (k + 15 + 3 * (r : Int).toNat))), (0, .ref (ad 0)), (1, .int (iI r)), (2, .int (iI x)), (3, .int (iI y))]) ok d_Dk_rail_73 (by decide) rfl ?_
          refine g_aload ok d_Dk_rail_75 0 rfl ?_
          refine gN_Rg_size ok _ (rg_rail hK (by omega)) k_57 d_Dk_rail_77 ?_
          refine g_bipush ok (by decide) d_Dk_rail_80 ?_
          refine g_icmp_lt ok 95 d_Dk_rail_82 (by decide) (by omega) (by omega) (fun h7 => ?_) (fun h7 => ?_)
          · exact absurd rfl (show ¬ (0 : Int) = 0 by omega)
          · obtain ⟨qs, hqs⟩ := str_at ok k_805 (nw_at ok 320 (by decide +kernel))
            exact g_throw (names := ["java/lang/RuntimeException", "java/lang/Exception"]) ok htr hno (by decide) (by decide) k_735 k_16 (at_UOE ok) hqs d_Dk_rail_85 d_Dk_rail_88 d_Dk_rail_89 d_Dk_rail_91 d_Dk_rail_94 (by decide)
        · exact absurd rfl (show ¬ (0 : Int) = 0 by omega)
    · exact absurd rfl (show ¬ (0 : Int) = 0 by omega)
set_option maxHeartbeats 1000000 in
set_option maxRecDepth 100000 in
theorem t_Dk_end_1 (F : Nat → Nat → Int) (G : Nat → Int → Int) (ho : F 0 10 = 0) : cT y_Dk_end b_Dk_end 3 (some .int) 7 170 F G (fun ad => [.ref (ad 0)]) "java/lang/IllegalStateException" := by
  intro s0 a0 D t ad
  refine g_startX (by decide +kernel) (Nat.le_of_ble_eq_true rfl) (fun p l e R s m args below meth c A htr hno ok => ?_)
  show gW p l e R s m args below meth c _ D A 3 (gZ0 s) 0 0 ad 265 (mem ad t F G) 0 [(0, .ref (ad 0))] []
  refine g_aload_n ok d_Dk_end_0 rfl 0 rfl ?_
  refine gI_Dk_open ok _ rfl k_327 d_Dk_end_1 ?_
  refine g_if_ne ok 17 d_Dk_end_4 (by decide) (by omega) (fun h1 => ?_) (fun h1 => ?_)
  · exact absurd rfl (show ¬ (0 : Int) = 0 by omega)
  · obtain ⟨qs, hqs⟩ := str_at ok k_813 (nw_at ok 355 (by decide +kernel))
    exact g_throw (names := ["java/lang/RuntimeException", "java/lang/Exception"]) ok htr hno (by decide) (by decide) k_665 k_15 (at_ISE ok) hqs d_Dk_end_7 d_Dk_end_10 d_Dk_end_11 d_Dk_end_13 d_Dk_end_16 (by decide)
set_option maxHeartbeats 1000000 in
set_option maxRecDepth 100000 in
theorem t_Dk_shape_1 (F : Nat → Nat → Int) (G : Nat → Int → Int) (n wh : Int) (hn : -2147483648 ≤ n ∧ n < 2147483648) (hwh : -2147483648 ≤ wh ∧ wh < 2147483648) (ht : 0 ≤ F 0 8 ∧ F 0 8 ≤ 10) (hb : ¬ (0 ≤ n ∧ n < F 0 8)) : cT y_Dk_shape b_Dk_shape 4 (some .int) 6 82 F G (fun ad => [.ref (ad 0), .int (iI n), .int (iI wh)]) nX := by
  intro s0 a0 D t ad
  refine g_startX (by decide +kernel) (Nat.le_of_ble_eq_true rfl) (fun p l e R s m args below meth c A htr hno ok => ?_)
  show gW p l e R s m args below meth c _ D A 4 (gZ0 s) 0 0 ad 265 (mem ad t F G) 0 [(0, .ref (ad 0)), (1, .int (iI n)), (2, .int (iI wh))] []
  refine g_iload_n ok d_Dk_shape_0 rfl 1 rfl ?_
  refine g_aload_n ok d_Dk_shape_1 rfl 0 rfl ?_
  refine gI_Dk_shapeTotal ok _ rfl k_325 d_Dk_shape_2 ?_
  refine g_callPS (As := [.int (iI n), .int (iI (F 0 8))]) (st := []) ok (c_Dk_isBelow F G _ _ (by omega) (by omega) s0 a0 D t ad) k_615 k_1 k_613 k_614 q_Dk_isBelow (by decide) (Nat.le_of_ble_eq_true rfl) (by decide) d_Dk_shape_5 (fun z1 hc1 => ?_)
  have hz1 := if01 hc1
  clear hc1
  refine g_if_ne ok 21 d_Dk_shape_8 (by decide) (by omega) (fun h2 => ?_) (fun h2 => ?_)
  · exact absurd rfl (show ¬ (0 : Int) = 0 by omega)
  · obtain ⟨qs, hqs⟩ := str_at ok k_760 (nw_at ok 137 (by decide +kernel))
    exact g_throwN ok htr hno k_899 k_20 hqs d_Dk_shape_11 d_Dk_shape_14 d_Dk_shape_15 d_Dk_shape_17 d_Dk_shape_20 (by decide)
set_option maxHeartbeats 1000000 in
set_option maxRecDepth 100000 in
theorem t_Dk_shape_2 (F : Nat → Nat → Int) (G : Nat → Int → Int) (k : Nat) (n wh : Int) (hn : -2147483648 ≤ n ∧ n < 2147483648) (hwh : -2147483648 ≤ wh ∧ wh < 2147483648) (ht : 0 ≤ F 0 8 ∧ F 0 8 ≤ 10) (hn1 : 0 ≤ n ∧ n < F 0 8) (hk : k = 2 + 22 * n.toNat) (hb : ¬ (0 ≤ wh ∧ wh ≤ 9)) : cT y_Dk_shape b_Dk_shape 4 (some .int) 6 82 F G (fun ad => [.ref (ad 0), .int (iI n), .int (iI wh)]) "java/lang/IllegalArgumentException" := by
  have hK : isSh k := hk ▸ sh_at (by omega)
  intro s0 a0 D t ad
  refine g_startX (by decide +kernel) (Nat.le_of_ble_eq_true rfl) (fun p l e R s m args below meth c A htr hno ok => ?_)
  show gW p l e R s m args below meth c _ D A 4 (gZ0 s) 0 0 ad 265 (mem ad t F G) 0 [(0, .ref (ad 0)), (1, .int (iI n)), (2, .int (iI wh))] []
  refine g_iload_n ok d_Dk_shape_0 rfl 1 rfl ?_
  refine g_aload_n ok d_Dk_shape_1 rfl 0 rfl ?_
  refine gI_Dk_shapeTotal ok _ rfl k_325 d_Dk_shape_2 ?_
  refine g_callPS (As := [.int (iI n), .int (iI (F 0 8))]) (st := []) ok (c_Dk_isBelow F G _ _ (by omega) (by omega) s0 a0 D t ad) k_615 k_1 k_613 k_614 q_Dk_isBelow (by decide) (Nat.le_of_ble_eq_true rfl) (by decide) d_Dk_shape_5 (fun z1 hc1 => ?_)
  have hz1 := if01 hc1
  clear hc1
  refine g_if_ne ok 21 d_Dk_shape_8 (by decide) (by omega) (fun h2 => ?_) (fun h2 => ?_)
  · refine g_aload_n ok d_Dk_shape_21 rfl 0 rfl ?_
    refine gI_Dk_shapes ok _ rfl k_317 d_Dk_shape_22 ?_
    refine g_iload_n ok d_Dk_shape_25 rfl 1 rfl ?_
    refine h_shapes ok (by omega) d_Dk_shape_26 ?_
    refine g_tv (y := .ref (ad k)) (by rw [hk]) ?_
    refine g_astore_n (lv' := [(3, .ref (ad k)), (0, .ref (ad 0)), (1, .int (iI n)), (2, .int (iI wh))]) ok d_Dk_shape_27 rfl (by decide) rfl ?_
    refine g_iload_n ok d_Dk_shape_28 rfl 3 rfl ?_
    rcases (show wh = 0 ∨ wh = 1 ∨ wh = 2 ∨ wh = 3 ∨ wh = 4 ∨ wh = 5 ∨ wh = 6 ∨ wh = 7 ∨ wh = 8 ∨ wh = 9 ∨ (wh < 0 ∨ 9 < wh) by omega) with hw3 | hw3 | hw3 | hw3 | hw3 | hw3 | hw3 | hw3 | hw3 | hw3 | hw3
    · refine g_tabIn ok (by omega) d_Dk_shape_29 (by omega) (off := 55) (by rw [hw3]; rfl) 84 (by decide) ?_
      exact absurd rfl (show ¬ (0 : Int) = 0 by omega)
    · refine g_tabIn ok (by omega) d_Dk_shape_29 (by omega) (off := 60) (by rw [hw3]; rfl) 89 (by decide) ?_
      exact absurd rfl (show ¬ (0 : Int) = 0 by omega)
    · refine g_tabIn ok (by omega) d_Dk_shape_29 (by omega) (off := 65) (by rw [hw3]; rfl) 94 (by decide) ?_
      exact absurd rfl (show ¬ (0 : Int) = 0 by omega)
    · refine g_tabIn ok (by omega) d_Dk_shape_29 (by omega) (off := 70) (by rw [hw3]; rfl) 99 (by decide) ?_
      exact absurd rfl (show ¬ (0 : Int) = 0 by omega)
    · refine g_tabIn ok (by omega) d_Dk_shape_29 (by omega) (off := 75) (by rw [hw3]; rfl) 104 (by decide) ?_
      exact absurd rfl (show ¬ (0 : Int) = 0 by omega)
    · refine g_tabIn ok (by omega) d_Dk_shape_29 (by omega) (off := 80) (by rw [hw3]; rfl) 109 (by decide) ?_
      exact absurd rfl (show ¬ (0 : Int) = 0 by omega)
    · refine g_tabIn ok (by omega) d_Dk_shape_29 (by omega) (off := 85) (by rw [hw3]; rfl) 114 (by decide) ?_
      exact absurd rfl (show ¬ (0 : Int) = 0 by omega)
    · refine g_tabIn ok (by omega) d_Dk_shape_29 (by omega) (off := 90) (by rw [hw3]; rfl) 119 (by decide) ?_
      exact absurd rfl (show ¬ (0 : Int) = 0 by omega)
    · refine g_tabIn ok (by omega) d_Dk_shape_29 (by omega) (off := 95) (by rw [hw3]; rfl) 124 (by decide) ?_
      exact absurd rfl (show ¬ (0 : Int) = 0 by omega)
    · refine g_tabIn ok (by omega) d_Dk_shape_29 (by omega) (off := 103) (by rw [hw3]; rfl) 132 (by decide) ?_
      exact absurd rfl (show ¬ (0 : Int) = 0 by omega)
    · refine g_tabOut ok (by omega) d_Dk_shape_29 (by omega) 140 (by decide) ?_
      obtain ⟨qs, hqs⟩ := str_at ok k_914 (nw_at ok 384 (by decide +kernel))
      exact g_throw (names := ["java/lang/RuntimeException", "java/lang/Exception"]) ok htr hno (by decide) (by decide) k_751 k_17 (at_IAE ok) hqs d_Dk_shape_140 d_Dk_shape_143 d_Dk_shape_144 d_Dk_shape_146 d_Dk_shape_149 (by decide)
  · exact absurd rfl (show ¬ (0 : Int) = 0 by omega)
set_option maxHeartbeats 1000000 in
set_option maxRecDepth 100000 in
theorem t_Dk_record_1 (F : Nat → Nat → Int) (G : Nat → Int → Int) (i f : Int) (hi : -2147483648 ≤ i ∧ i < 2147483648) (hf : -2147483648 ≤ f ∧ f < 2147483648) (hs : 0 ≤ F 236 1 ∧ F 236 1 ≤ 4000) (hb : ¬ (0 ≤ i ∧ i < F 236 1)) : cT y_Dk_record b_Dk_record 3 (some .int) 6 82 F G (fun ad => [.ref (ad 0), .int (iI i), .int (iI f)]) "java/lang/IndexOutOfBoundsException" := by
  intro s0 a0 D t ad
  refine g_startX (by decide +kernel) (Nat.le_of_ble_eq_true rfl) (fun p l e R s m args below meth c A htr hno ok => ?_)
  show gW p l e R s m args below meth c _ D A 3 (gZ0 s) 0 0 ad 265 (mem ad t F G) 0 [(0, .ref (ad 0)), (1, .int (iI i)), (2, .int (iI f))] []
  refine g_iload_n ok d_Dk_record_0 rfl 1 rfl ?_
  refine g_aload_n ok d_Dk_record_1 rfl 0 rfl ?_
  refine gI_Dk_path ok _ rfl k_322 d_Dk_record_2 ?_
  refine gN_Pa_size ok _ rfl k_258 d_Dk_record_5 ?_
  refine g_callPS (As := [.int (iI i), .int (iI (F 236 1))]) (st := []) ok (c_Dk_isBelow F G _ _ (by omega) (by omega) s0 a0 D t ad) k_615 k_1 k_613 k_614 q_Dk_isBelow (by decide) (Nat.le_of_ble_eq_true rfl) (by decide) d_Dk_record_8 (fun z1 hc1 => ?_)
  have hz1 := if01 hc1
  clear hc1
  refine g_if_ne ok 24 d_Dk_record_11 (by decide) (by omega) (fun h2 => ?_) (fun h2 => ?_)
  · exact absurd rfl (show ¬ (0 : Int) = 0 by omega)
  · obtain ⟨qs, hqs⟩ := str_at ok k_932 (nw_at ok 423 (by decide +kernel))
    exact g_throw (names := ["java/lang/RuntimeException", "java/lang/Exception"]) ok htr hno (by decide) (by decide) k_923 k_21 (at_IOB ok) hqs d_Dk_record_14 d_Dk_record_17 d_Dk_record_18 d_Dk_record_20 d_Dk_record_23 (by decide)
set_option maxHeartbeats 1000000 in
set_option maxRecDepth 100000 in
theorem t_Dk_record_2 (F : Nat → Nat → Int) (G : Nat → Int → Int) (i f : Int) (hi : -2147483648 ≤ i ∧ i < 2147483648) (hf : -2147483648 ≤ f ∧ f < 2147483648) (hs : 0 ≤ F 236 1 ∧ F 236 1 ≤ 4000) (hi1 : 0 ≤ i ∧ i < F 236 1) (hb : ¬ (0 ≤ f ∧ f ≤ 2)) : cT y_Dk_record b_Dk_record 3 (some .int) 6 82 F G (fun ad => [.ref (ad 0), .int (iI i), .int (iI f)]) "java/lang/IllegalArgumentException" := by
  intro s0 a0 D t ad
  refine g_startX (by decide +kernel) (Nat.le_of_ble_eq_true rfl) (fun p l e R s m args below meth c A htr hno ok => ?_)
  show gW p l e R s m args below meth c _ D A 3 (gZ0 s) 0 0 ad 265 (mem ad t F G) 0 [(0, .ref (ad 0)), (1, .int (iI i)), (2, .int (iI f))] []
  refine g_iload_n ok d_Dk_record_0 rfl 1 rfl ?_
  refine g_aload_n ok d_Dk_record_1 rfl 0 rfl ?_
  refine gI_Dk_path ok _ rfl k_322 d_Dk_record_2 ?_
  refine gN_Pa_size ok _ rfl k_258 d_Dk_record_5 ?_
  refine g_callPS (As := [.int (iI i), .int (iI (F 236 1))]) (st := []) ok (c_Dk_isBelow F G _ _ (by omega) (by omega) s0 a0 D t ad) k_615 k_1 k_613 k_614 q_Dk_isBelow (by decide) (Nat.le_of_ble_eq_true rfl) (by decide) d_Dk_record_8 (fun z1 hc1 => ?_)
  have hz1 := if01 hc1
  clear hc1
  refine g_if_ne ok 24 d_Dk_record_11 (by decide) (by omega) (fun h2 => ?_) (fun h2 => ?_)
  · refine g_iload_n ok d_Dk_record_24 rfl 2 rfl ?_
    rcases (show f = 0 ∨ f = 1 ∨ f = 2 ∨ (f < 0 ∨ 2 < f) by omega) with hw3 | hw3 | hw3 | hw3
    · refine g_tabIn ok (by omega) d_Dk_record_25 (by omega) (off := 27) (by rw [hw3]; rfl) 52 (by decide) ?_
      exact absurd rfl (show ¬ (0 : Int) = 0 by omega)
    · refine g_tabIn ok (by omega) d_Dk_record_25 (by omega) (off := 36) (by rw [hw3]; rfl) 61 (by decide) ?_
      exact absurd rfl (show ¬ (0 : Int) = 0 by omega)
    · refine g_tabIn ok (by omega) d_Dk_record_25 (by omega) (off := 45) (by rw [hw3]; rfl) 70 (by decide) ?_
      exact absurd rfl (show ¬ (0 : Int) = 0 by omega)
    · refine g_tabOut ok (by omega) d_Dk_record_25 (by omega) 79 (by decide) ?_
      obtain ⟨qs, hqs⟩ := str_at ok k_941 (nw_at ok 452 (by decide +kernel))
      exact g_throw (names := ["java/lang/RuntimeException", "java/lang/Exception"]) ok htr hno (by decide) (by decide) k_751 k_17 (at_IAE ok) hqs d_Dk_record_79 d_Dk_record_82 d_Dk_record_83 d_Dk_record_85 d_Dk_record_88 (by decide)
  · exact absurd rfl (show ¬ (0 : Int) = 0 by omega)
set_option maxHeartbeats 1000000 in
set_option maxRecDepth 100000 in
theorem t_Dk_byteAt_1 (F : Nat → Nat → Int) (G : Nat → Int → Int) (i : Int) (hi : -2147483648 ≤ i ∧ i < 2147483648) (hs : 0 ≤ F 236 1 ∧ F 236 1 ≤ 4000) (hb : ¬ (0 ≤ i ∧ i < 3 * F 236 1)) : cT y_Dk_byteAt b_Dk_byteAt 3 (some .int) 6 82 F G (fun ad => [.ref (ad 0), .int (iI i)]) "java/lang/IndexOutOfBoundsException" := by
  intro s0 a0 D t ad
  refine g_startX (by decide +kernel) (Nat.le_of_ble_eq_true rfl) (fun p l e R s m args below meth c A htr hno ok => ?_)
  show gW p l e R s m args below meth c _ D A 3 (gZ0 s) 0 0 ad 265 (mem ad t F G) 0 [(0, .ref (ad 0)), (1, .int (iI i))] []
  refine g_iload_n ok d_Dk_byteAt_0 rfl 1 rfl ?_
  refine g_iconst ok d_Dk_byteAt_1 ?_
  refine g_aload_n ok d_Dk_byteAt_2 rfl 0 rfl ?_
  refine gI_Dk_path ok _ rfl k_322 d_Dk_byteAt_3 ?_
  refine gN_Pa_size ok _ rfl k_258 d_Dk_byteAt_6 ?_
  refine g_imul ok d_Dk_byteAt_9 ?_
  refine g_callPS (As := [.int (iI i), .int (iI (3 * (F 236 1)))]) (st := []) ok (c_Dk_isBelow F G _ _ (by omega) (by omega) s0 a0 D t ad) k_615 k_1 k_613 k_614 q_Dk_isBelow (by decide) (Nat.le_of_ble_eq_true rfl) (by decide) d_Dk_byteAt_10 (fun z1 hc1 => ?_)
  have hz1 := if01 hc1
  clear hc1
  refine g_if_ne ok 26 d_Dk_byteAt_13 (by decide) (by omega) (fun h2 => ?_) (fun h2 => ?_)
  · exact absurd rfl (show ¬ (0 : Int) = 0 by omega)
  · obtain ⟨qs, hqs⟩ := str_at ok k_949 (nw_at ok 493 (by decide +kernel))
    exact g_throw (names := ["java/lang/RuntimeException", "java/lang/Exception"]) ok htr hno (by decide) (by decide) k_923 k_21 (at_IOB ok) hqs d_Dk_byteAt_16 d_Dk_byteAt_19 d_Dk_byteAt_20 d_Dk_byteAt_22 d_Dk_byteAt_25 (by decide)
set_option maxHeartbeats 1000000 in
set_option maxRecDepth 100000 in
theorem t_Dk_load_1 (F : Nat → Nat → Int) (G : Nat → Int → Int) (i b : Int) (hi : -2147483648 ≤ i ∧ i < 2147483648) (hb : -2147483648 ≤ b ∧ b < 2147483648) (hs : 0 ≤ F 0 9 ∧ F 0 9 ≤ 1500) (hb1 : ¬ (0 ≤ i ∧ i ≤ F 0 9 ∧ i < 1500)) : cT y_Dk_load b_Dk_load 3 (some .int) 6 82 F G (fun ad => [.ref (ad 0), .int (iI i), .int (iI b)]) "java/lang/IndexOutOfBoundsException" := by
  intro s0 a0 D t ad
  refine g_startX (by decide +kernel) (Nat.le_of_ble_eq_true rfl) (fun p l e R s m args below meth c A htr hno ok => ?_)
  show gW p l e R s m args below meth c _ D A 3 (gZ0 s) 0 0 ad 265 (mem ad t F G) 0 [(0, .ref (ad 0)), (1, .int (iI i)), (2, .int (iI b))] []
  refine g_iload_n ok d_Dk_load_0 rfl 1 rfl ?_
  refine g_if_lt ok 19 d_Dk_load_1 (by decide) (by omega) (fun h1 => ?_) (fun h1 => ?_)
  · obtain ⟨qs, hqs⟩ := str_at ok k_949 (nw_at ok 493 (by decide +kernel))
    exact g_throw (names := ["java/lang/RuntimeException", "java/lang/Exception"]) ok htr hno (by decide) (by decide) k_923 k_21 (at_IOB ok) hqs d_Dk_load_19 d_Dk_load_22 d_Dk_load_23 d_Dk_load_25 d_Dk_load_28 (by decide)
  · refine g_iload_n ok d_Dk_load_4 rfl 1 rfl ?_
    refine g_aload_n ok d_Dk_load_5 rfl 0 rfl ?_
    refine gI_Dk_loadedTotal ok _ rfl k_326 d_Dk_load_6 ?_
    refine g_icmp_gt ok 19 d_Dk_load_9 (by decide) (by omega) (by omega) (fun h2 => ?_) (fun h2 => ?_)
    · obtain ⟨qs, hqs⟩ := str_at ok k_949 (nw_at ok 493 (by decide +kernel))
      exact g_throw (names := ["java/lang/RuntimeException", "java/lang/Exception"]) ok htr hno (by decide) (by decide) k_923 k_21 (at_IOB ok) hqs d_Dk_load_19 d_Dk_load_22 d_Dk_load_23 d_Dk_load_25 d_Dk_load_28 (by decide)
    · refine g_iload_n ok d_Dk_load_12 rfl 1 rfl ?_
      refine g_sipush ok (by decide) d_Dk_load_13 ?_
      refine g_icmp_lt ok 29 d_Dk_load_16 (by decide) (by omega) (by omega) (fun h3 => ?_) (fun h3 => ?_)
      · exact absurd rfl (show ¬ (0 : Int) = 0 by omega)
      · obtain ⟨qs, hqs⟩ := str_at ok k_949 (nw_at ok 493 (by decide +kernel))
        exact g_throw (names := ["java/lang/RuntimeException", "java/lang/Exception"]) ok htr hno (by decide) (by decide) k_923 k_21 (at_IOB ok) hqs d_Dk_load_19 d_Dk_load_22 d_Dk_load_23 d_Dk_load_25 d_Dk_load_28 (by decide)
set_option maxHeartbeats 1000000 in
set_option maxRecDepth 100000 in
theorem t_Dk_load_2 (F : Nat → Nat → Int) (G : Nat → Int → Int) (i b : Int) (hi : -2147483648 ≤ i ∧ i < 2147483648) (hb : -2147483648 ≤ b ∧ b < 2147483648) (hs : 0 ≤ F 0 9 ∧ F 0 9 ≤ 1500) (hi1 : 0 ≤ i ∧ i ≤ F 0 9 ∧ i < 1500) (hb1 : ¬ (0 ≤ b ∧ b ≤ 255)) : cT y_Dk_load b_Dk_load 3 (some .int) 6 82 F G (fun ad => [.ref (ad 0), .int (iI i), .int (iI b)]) "java/lang/IllegalArgumentException" := by
  intro s0 a0 D t ad
  refine g_startX (by decide +kernel) (Nat.le_of_ble_eq_true rfl) (fun p l e R s m args below meth c A htr hno ok => ?_)
  show gW p l e R s m args below meth c _ D A 3 (gZ0 s) 0 0 ad 265 (mem ad t F G) 0 [(0, .ref (ad 0)), (1, .int (iI i)), (2, .int (iI b))] []
  refine g_iload_n ok d_Dk_load_0 rfl 1 rfl ?_
  refine g_if_lt ok 19 d_Dk_load_1 (by decide) (by omega) (fun h1 => ?_) (fun h1 => ?_)
  · exact absurd rfl (show ¬ (0 : Int) = 0 by omega)
  · refine g_iload_n ok d_Dk_load_4 rfl 1 rfl ?_
    refine g_aload_n ok d_Dk_load_5 rfl 0 rfl ?_
    refine gI_Dk_loadedTotal ok _ rfl k_326 d_Dk_load_6 ?_
    refine g_icmp_gt ok 19 d_Dk_load_9 (by decide) (by omega) (by omega) (fun h2 => ?_) (fun h2 => ?_)
    · exact absurd rfl (show ¬ (0 : Int) = 0 by omega)
    · refine g_iload_n ok d_Dk_load_12 rfl 1 rfl ?_
      refine g_sipush ok (by decide) d_Dk_load_13 ?_
      refine g_icmp_lt ok 29 d_Dk_load_16 (by decide) (by omega) (by omega) (fun h3 => ?_) (fun h3 => ?_)
      · refine g_iload_n ok d_Dk_load_29 rfl 2 rfl ?_
        refine g_if_lt ok 40 d_Dk_load_30 (by decide) (by omega) (fun h4 => ?_) (fun h4 => ?_)
        · obtain ⟨qs, hqs⟩ := str_at ok k_964 (nw_at ok 522 (by decide +kernel))
          exact g_throw (names := ["java/lang/RuntimeException", "java/lang/Exception"]) ok htr hno (by decide) (by decide) k_751 k_17 (at_IAE ok) hqs d_Dk_load_40 d_Dk_load_43 d_Dk_load_44 d_Dk_load_46 d_Dk_load_49 (by decide)
        · refine g_iload_n ok d_Dk_load_33 rfl 2 rfl ?_
          refine g_sipush ok (by decide) d_Dk_load_34 ?_
          refine g_icmp_le ok 50 d_Dk_load_37 (by decide) (by omega) (by omega) (fun h5 => ?_) (fun h5 => ?_)
          · exact absurd rfl (show ¬ (0 : Int) = 0 by omega)
          · obtain ⟨qs, hqs⟩ := str_at ok k_964 (nw_at ok 522 (by decide +kernel))
            exact g_throw (names := ["java/lang/RuntimeException", "java/lang/Exception"]) ok htr hno (by decide) (by decide) k_751 k_17 (at_IAE ok) hqs d_Dk_load_40 d_Dk_load_43 d_Dk_load_44 d_Dk_load_46 d_Dk_load_49 (by decide)
      · exact absurd rfl (show ¬ (0 : Int) = 0 by omega)
set_option maxHeartbeats 1000000 in
set_option maxRecDepth 100000 in
theorem t_Dk_under_1 (F : Nat → Nat → Int) (G : Nat → Int → Int) (x y : Int) (hx : -2147483648 ≤ x ∧ x < 2147483648) (hy : -2147483648 ≤ y ∧ y < 2147483648) (hb : ¬ inR x y) : cT y_Dk_under b_Dk_under 4 (some .int) 6 82 F G (fun ad => [.ref (ad 0), .int (iI x), .int (iI y)]) "java/lang/IllegalArgumentException" := by
  have hb1 := hb
  unfold inR at hb1
  intro s0 a0 D t ad
  refine g_startX (by decide +kernel) (Nat.le_of_ble_eq_true rfl) (fun p l e R s m args below meth c A htr hno ok => ?_)
  show gW p l e R s m args below meth c _ D A 4 (gZ0 s) 0 0 ad 265 (mem ad t F G) 0 [(0, .ref (ad 0)), (1, .int (iI x)), (2, .int (iI y))] []
  refine g_iload_n ok d_Dk_under_0 rfl 1 rfl ?_
  refine g_iload_n ok d_Dk_under_1 rfl 2 rfl ?_
  refine g_callPS (As := [.int (iI x), .int (iI y)]) (st := []) ok (c_Dk_isPlace F G _ _ (by omega) (by omega) s0 a0 D t ad) k_789 k_1 k_787 k_788 q_Dk_isPlace (by decide) (Nat.le_of_ble_eq_true rfl) (by decide) d_Dk_under_2 (fun z1 hc1 => ?_)
  have hz1 := if01 hc1
  clear hc1
  refine g_if_ne ok 18 d_Dk_under_5 (by decide) (by omega) (fun h2 => ?_) (fun h2 => ?_)
  · exact absurd rfl (show ¬ (0 : Int) = 0 by omega)
  · obtain ⟨qs, hqs⟩ := str_at ok k_972 (nw_at ok 547 (by decide +kernel))
    exact g_throw (names := ["java/lang/RuntimeException", "java/lang/Exception"]) ok htr hno (by decide) (by decide) k_751 k_17 (at_IAE ok) hqs d_Dk_under_8 d_Dk_under_11 d_Dk_under_12 d_Dk_under_14 d_Dk_under_17 (by decide)
set_option maxHeartbeats 1000000 in
set_option maxRecDepth 100000 in
theorem t_Dk_needle_1 (F : Nat → Nat → Int) (G : Nat → Int → Int) (i f : Int) (hi : -2147483648 ≤ i ∧ i < 2147483648) (hf : -2147483648 ≤ f ∧ f < 2147483648) (hs : 0 ≤ F 236 1 ∧ F 236 1 ≤ 4000) (hb : ¬ (0 ≤ i ∧ i ≤ F 236 1)) : cT y_Dk_needle b_Dk_needle 5 (some .int) 6 82 F G (fun ad => [.ref (ad 0), .int (iI i), .int (iI f)]) "java/lang/IndexOutOfBoundsException" := by
  intro s0 a0 D t ad
  refine g_startX (by decide +kernel) (Nat.le_of_ble_eq_true rfl) (fun p l e R s m args below meth c A htr hno ok => ?_)
  show gW p l e R s m args below meth c _ D A 5 (gZ0 s) 0 0 ad 265 (mem ad t F G) 0 [(0, .ref (ad 0)), (1, .int (iI i)), (2, .int (iI f))] []
  refine g_iload_n ok d_Dk_needle_0 rfl 1 rfl ?_
  refine g_if_lt ok 15 d_Dk_needle_1 (by decide) (by omega) (fun h1 => ?_) (fun h1 => ?_)
  · obtain ⟨qs, hqs⟩ := str_at ok k_981 (nw_at ok 579 (by decide +kernel))
    exact g_throw (names := ["java/lang/RuntimeException", "java/lang/Exception"]) ok htr hno (by decide) (by decide) k_923 k_21 (at_IOB ok) hqs d_Dk_needle_15 d_Dk_needle_18 d_Dk_needle_19 d_Dk_needle_21 d_Dk_needle_24 (by decide)
  · refine g_iload_n ok d_Dk_needle_4 rfl 1 rfl ?_
    refine g_aload_n ok d_Dk_needle_5 rfl 0 rfl ?_
    refine gI_Dk_path ok _ rfl k_322 d_Dk_needle_6 ?_
    refine gN_Pa_size ok _ rfl k_258 d_Dk_needle_9 ?_
    refine g_icmp_le ok 25 d_Dk_needle_12 (by decide) (by omega) (by omega) (fun h2 => ?_) (fun h2 => ?_)
    · exact absurd rfl (show ¬ (0 : Int) = 0 by omega)
    · obtain ⟨qs, hqs⟩ := str_at ok k_981 (nw_at ok 579 (by decide +kernel))
      exact g_throw (names := ["java/lang/RuntimeException", "java/lang/Exception"]) ok htr hno (by decide) (by decide) k_923 k_21 (at_IOB ok) hqs d_Dk_needle_15 d_Dk_needle_18 d_Dk_needle_19 d_Dk_needle_21 d_Dk_needle_24 (by decide)
set_option maxHeartbeats 1000000 in
set_option maxRecDepth 100000 in
theorem t_Dk_needle_2 (F : Nat → Nat → Int) (G : Nat → Int → Int) (i f : Int) (hi : -2147483648 ≤ i ∧ i < 2147483648) (hf : -2147483648 ≤ f ∧ f < 2147483648) (hs : 0 ≤ F 236 1 ∧ F 236 1 ≤ 4000) (hi1 : 0 ≤ i ∧ i ≤ F 236 1) (hb : ¬ (0 ≤ f ∧ f ≤ 1)) : cT y_Dk_needle b_Dk_needle 5 (some .int) 6 82 F G (fun ad => [.ref (ad 0), .int (iI i), .int (iI f)]) "java/lang/IllegalArgumentException" := by
  intro s0 a0 D t ad
  refine g_startX (by decide +kernel) (Nat.le_of_ble_eq_true rfl) (fun p l e R s m args below meth c A htr hno ok => ?_)
  show gW p l e R s m args below meth c _ D A 5 (gZ0 s) 0 0 ad 265 (mem ad t F G) 0 [(0, .ref (ad 0)), (1, .int (iI i)), (2, .int (iI f))] []
  refine g_iload_n ok d_Dk_needle_0 rfl 1 rfl ?_
  refine g_if_lt ok 15 d_Dk_needle_1 (by decide) (by omega) (fun h1 => ?_) (fun h1 => ?_)
  · exact absurd rfl (show ¬ (0 : Int) = 0 by omega)
  · refine g_iload_n ok d_Dk_needle_4 rfl 1 rfl ?_
    refine g_aload_n ok d_Dk_needle_5 rfl 0 rfl ?_
    refine gI_Dk_path ok _ rfl k_322 d_Dk_needle_6 ?_
    refine gN_Pa_size ok _ rfl k_258 d_Dk_needle_9 ?_
    refine g_icmp_le ok 25 d_Dk_needle_12 (by decide) (by omega) (by omega) (fun h2 => ?_) (fun h2 => ?_)
    · refine g_iload_n ok d_Dk_needle_25 rfl 2 rfl ?_
      refine g_if_eq ok 44 d_Dk_needle_26 (by decide) (by omega) (fun h3 => ?_) (fun h3 => ?_)
      · exact absurd rfl (show ¬ (0 : Int) = 0 by omega)
      · refine g_iload_n ok d_Dk_needle_29 rfl 2 rfl ?_
        refine g_iconst ok d_Dk_needle_30 ?_
        refine g_icmp_eq ok 44 d_Dk_needle_31 (by decide) (by omega) (by omega) (fun h4 => ?_) (fun h4 => ?_)
        · exact absurd rfl (show ¬ (0 : Int) = 0 by omega)
        · obtain ⟨qs, hqs⟩ := str_at ok k_982 (nw_at ok 618 (by decide +kernel))
          exact g_throw (names := ["java/lang/RuntimeException", "java/lang/Exception"]) ok htr hno (by decide) (by decide) k_751 k_17 (at_IAE ok) hqs d_Dk_needle_34 d_Dk_needle_37 d_Dk_needle_38 d_Dk_needle_40 d_Dk_needle_43 (by decide)
    · exact absurd rfl (show ¬ (0 : Int) = 0 by omega)
