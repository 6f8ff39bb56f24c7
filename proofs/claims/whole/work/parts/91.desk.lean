/-! the desk: begin, corner, rail, shape, under (where they answer) -/
theorem sh_at {v : Int} (h : 0 ≤ v ∧ v < 10) : isSh (2 + 22 * v.toNat) := by
  unfold isSh
  omega
theorem rm_ring {k q : Nat} (h : isSh k) (hq : q < 4) : 24 ≤ rRoom ((k + 3 + 3 * q - 2) % 22) := by
  unfold isSh at h
  rw [show (k + 3 + 3 * q - 2) % 22 = 3 + 3 * q by omega]
  rcases (show q = 0 ∨ q = 1 ∨ q = 2 ∨ q = 3 by omega) with e | e | e | e <;> subst e <;> decide
theorem rm_rail {k q : Nat} (h : isSh k) (hq : q < 2) : rRoom ((k + 15 + 3 * q - 2) % 22) = 16 := by
  unfold isSh at h
  rw [show (k + 15 + 3 * q - 2) % 22 = 15 + 3 * q by omega]
  rcases (show q = 0 ∨ q = 1 by omega) with e | e <;> subst e <;> decide
theorem rg_rail {k q : Nat} (h : isSh k) (hq : q < 2) : isRg (k + 15 + 3 * q) := by
  have z := rg_of (q := q + 4) h (by omega)
  rw [show k + 3 + 3 * (q + 4) = k + 15 + 3 * q by omega] at z
  exact z
theorem d_Dk_begin_0 : decode b_Dk_begin 0 = .ok (.aload_n 0, 1) := by decide +kernel
theorem d_Dk_begin_1 : decode b_Dk_begin 1 = .ok (.getfield 56, 3) := by decide +kernel
theorem d_Dk_begin_4 : decode b_Dk_begin 4 = .ok (.ifCond .eq 13, 3) := by decide +kernel
theorem d_Dk_begin_7 : decode b_Dk_begin 7 = .ok (.new 60, 3) := by decide +kernel
theorem d_Dk_begin_10 : decode b_Dk_begin 10 = .ok (.dup, 1) := by decide +kernel
theorem d_Dk_begin_11 : decode b_Dk_begin 11 = .ok (.ldc 62, 2) := by decide +kernel
theorem d_Dk_begin_13 : decode b_Dk_begin 13 = .ok (.invokespecial 64, 3) := by decide +kernel
theorem d_Dk_begin_16 : decode b_Dk_begin 16 = .ok (.athrow, 1) := by decide +kernel
theorem d_Dk_begin_17 : decode b_Dk_begin 17 = .ok (.aload_n 0, 1) := by decide +kernel
theorem d_Dk_begin_18 : decode b_Dk_begin 18 = .ok (.getfield 67, 3) := by decide +kernel
theorem d_Dk_begin_21 : decode b_Dk_begin 21 = .ok (.bipush 10, 2) := by decide +kernel
theorem d_Dk_begin_23 : decode b_Dk_begin 23 = .ok (.if_icmp .lt 13, 3) := by decide +kernel
theorem d_Dk_begin_26 : decode b_Dk_begin 26 = .ok (.new 71, 3) := by decide +kernel
theorem d_Dk_begin_29 : decode b_Dk_begin 29 = .ok (.dup, 1) := by decide +kernel
theorem d_Dk_begin_30 : decode b_Dk_begin 30 = .ok (.ldc 73, 2) := by decide +kernel
theorem d_Dk_begin_32 : decode b_Dk_begin 32 = .ok (.invokespecial 75, 3) := by decide +kernel
theorem d_Dk_begin_35 : decode b_Dk_begin 35 = .ok (.athrow, 1) := by decide +kernel
theorem d_Dk_begin_36 : decode b_Dk_begin 36 = .ok (.iload_n 1, 1) := by decide +kernel
theorem d_Dk_begin_37 : decode b_Dk_begin 37 = .ok (.bipush 8, 2) := by decide +kernel
theorem d_Dk_begin_39 : decode b_Dk_begin 39 = .ok (.invokestatic 76, 3) := by decide +kernel
theorem d_Dk_begin_42 : decode b_Dk_begin 42 = .ok (.ifCond .eq 24, 3) := by decide +kernel
theorem d_Dk_begin_45 : decode b_Dk_begin 45 = .ok (.iload_n 2, 1) := by decide +kernel
theorem d_Dk_begin_46 : decode b_Dk_begin 46 = .ok (.iconst 3, 1) := by decide +kernel
theorem d_Dk_begin_47 : decode b_Dk_begin 47 = .ok (.invokestatic 76, 3) := by decide +kernel
theorem d_Dk_begin_50 : decode b_Dk_begin 50 = .ok (.ifCond .eq 16, 3) := by decide +kernel
theorem d_Dk_begin_53 : decode b_Dk_begin 53 = .ok (.iload 4, 2) := by decide +kernel
theorem d_Dk_begin_55 : decode b_Dk_begin 55 = .ok (.iconst 4, 1) := by decide +kernel
theorem d_Dk_begin_56 : decode b_Dk_begin 56 = .ok (.invokestatic 76, 3) := by decide +kernel
theorem d_Dk_begin_59 : decode b_Dk_begin 59 = .ok (.ifCond .eq 7, 3) := by decide +kernel
theorem d_Dk_begin_62 : decode b_Dk_begin 62 = .ok (.iconst 1, 1) := by decide +kernel
theorem d_Dk_begin_63 : decode b_Dk_begin 63 = .ok (.goto 4, 3) := by decide +kernel
theorem d_Dk_begin_66 : decode b_Dk_begin 66 = .ok (.iconst 0, 1) := by decide +kernel
theorem d_Dk_begin_67 : decode b_Dk_begin 67 = .ok (.istore 5, 2) := by decide +kernel
theorem d_Dk_begin_69 : decode b_Dk_begin 69 = .ok (.iload 5, 2) := by decide +kernel
theorem d_Dk_begin_71 : decode b_Dk_begin 71 = .ok (.ifCond .eq 14, 3) := by decide +kernel
theorem d_Dk_begin_74 : decode b_Dk_begin 74 = .ok (.iload_n 3, 1) := by decide +kernel
theorem d_Dk_begin_75 : decode b_Dk_begin 75 = .ok (.iconst 4, 1) := by decide +kernel
theorem d_Dk_begin_76 : decode b_Dk_begin 76 = .ok (.if_icmp .lt 9, 3) := by decide +kernel
theorem d_Dk_begin_79 : decode b_Dk_begin 79 = .ok (.iload_n 3, 1) := by decide +kernel
theorem d_Dk_begin_80 : decode b_Dk_begin 80 = .ok (.bipush 20, 2) := by decide +kernel
theorem d_Dk_begin_82 : decode b_Dk_begin 82 = .ok (.if_icmp .le 13, 3) := by decide +kernel
theorem d_Dk_begin_85 : decode b_Dk_begin 85 = .ok (.new 80, 3) := by decide +kernel
theorem d_Dk_begin_88 : decode b_Dk_begin 88 = .ok (.dup, 1) := by decide +kernel
theorem d_Dk_begin_89 : decode b_Dk_begin 89 = .ok (.ldc 82, 2) := by decide +kernel
theorem d_Dk_begin_91 : decode b_Dk_begin 91 = .ok (.invokespecial 84, 3) := by decide +kernel
theorem d_Dk_begin_94 : decode b_Dk_begin 94 = .ok (.athrow, 1) := by decide +kernel
theorem d_Dk_begin_95 : decode b_Dk_begin 95 = .ok (.aload_n 0, 1) := by decide +kernel
theorem d_Dk_begin_96 : decode b_Dk_begin 96 = .ok (.getfield 11, 3) := by decide +kernel
theorem d_Dk_begin_99 : decode b_Dk_begin 99 = .ok (.aload_n 0, 1) := by decide +kernel
theorem d_Dk_begin_100 : decode b_Dk_begin 100 = .ok (.getfield 67, 3) := by decide +kernel
theorem d_Dk_begin_103 : decode b_Dk_begin 103 = .ok (.aaload, 1) := by decide +kernel
theorem d_Dk_begin_104 : decode b_Dk_begin 104 = .ok (.iload_n 1, 1) := by decide +kernel
theorem d_Dk_begin_105 : decode b_Dk_begin 105 = .ok (.iload_n 2, 1) := by decide +kernel
theorem d_Dk_begin_106 : decode b_Dk_begin 106 = .ok (.iload_n 3, 1) := by decide +kernel
theorem d_Dk_begin_107 : decode b_Dk_begin 107 = .ok (.iload 4, 2) := by decide +kernel
theorem d_Dk_begin_109 : decode b_Dk_begin 109 = .ok (.invokevirtual 85, 3) := by decide +kernel
theorem d_Dk_begin_112 : decode b_Dk_begin 112 = .ok (.aload_n 0, 1) := by decide +kernel
theorem d_Dk_begin_113 : decode b_Dk_begin 113 = .ok (.iconst 1, 1) := by decide +kernel
theorem d_Dk_begin_114 : decode b_Dk_begin 114 = .ok (.putfield 56, 3) := by decide +kernel
theorem d_Dk_begin_117 : decode b_Dk_begin 117 = .ok (.return_, 1) := by decide +kernel
set_option maxHeartbeats 1000000 in
set_option maxRecDepth 100000 in
theorem c_Dk_begin (F : Nat → Nat → Int) (G : Nat → Int → Int) (k : Nat) (ht : 0 ≤ F 0 8 ∧ F 0 8 < 10) (hk : k = 2 + 22 * (F 0 8).toNat) (c0 f0 sp d : Int) (ho : F 0 10 = 0) (hb : bgOk c0 f0 sp d) : cV y_Dk_begin b_Dk_begin 6 none 6 82 F G (fun ad => [.ref (ad 0), .int (iI c0), .int (iI f0), .int (iI sp), .int (iI d)]) (fun F' G' => F' = fU (fU (fU (clrN (k + 15) (clrN (k + 3) (fU (fU (fU (fU F k 3 c0) k 4 f0) k 5 sp) k 6 d) 4) 2) (k + 21) 0 0) (k + 21) 1 0) 0 10 1 ∧ G' = G) := by
  have hK : isSh k := hk ▸ sh_at ht
  have hkk := hK
  unfold isSh at hkk
  have hb1 := hb
  unfold bgOk at hb1
  intro s0 a0 D t ad
  refine g_startV (by decide +kernel) (Nat.le_of_ble_eq_true rfl) (fun p l e R s m args below meth c A ok => ?_)
  show gW p l e R s m args below meth c _ D A 6 (gZ0 s) 0 0 ad 265 (mem ad t F G) 0 [(0, .ref (ad 0)), (1, .int (iI c0)), (2, .int (iI f0)), (3, .int (iI sp)), (4, .int (iI d))] []
  refine g_aload_n ok d_Dk_begin_0 rfl 0 rfl ?_
  refine gI_Dk_open ok _ rfl k_327 d_Dk_begin_1 ?_
  refine g_if_eq ok 17 d_Dk_begin_4 (by decide) (by omega) (fun h1 => ?_) (fun h1 => ?_)
  · refine g_aload_n ok d_Dk_begin_17 rfl 0 rfl ?_
    refine gI_Dk_shapeTotal ok _ rfl k_325 d_Dk_begin_18 ?_
    refine g_bipush ok (by decide) d_Dk_begin_21 ?_
    refine g_icmp_lt ok 36 d_Dk_begin_23 (by decide) (by omega) (by omega) (fun h2 => ?_) (fun h2 => ?_)
    · refine g_iload_n ok d_Dk_begin_36 rfl 1 rfl ?_
      refine g_bipush ok (by decide) d_Dk_begin_37 ?_
      refine g_callPS (As := [.int (iI c0), .int (iI 8)]) (st := []) ok (c_Dk_isBelow F G _ _ (by omega) (by omega) s0 a0 D t ad) k_615 k_1 k_613 k_614 q_Dk_isBelow (by decide) (Nat.le_of_ble_eq_true rfl) (by decide) d_Dk_begin_39 (fun z3 hc3 => ?_)
      have hz3 : z3 = 1 := hc3.trans (if_pos (by omega))
      refine g_if_eq ok 66 d_Dk_begin_42 (by decide) (by omega) (fun h4 => ?_) (fun h4 => ?_)
      · exact absurd h4 (by omega)
      · refine g_iload_n ok d_Dk_begin_45 rfl 2 rfl ?_
        refine g_iconst ok d_Dk_begin_46 ?_
        refine g_callPS (As := [.int (iI f0), .int (iI 3)]) (st := []) ok (c_Dk_isBelow F G _ _ (by omega) (by omega) s0 a0 D t ad) k_615 k_1 k_613 k_614 q_Dk_isBelow (by decide) (Nat.le_of_ble_eq_true rfl) (by decide) d_Dk_begin_47 (fun z5 hc5 => ?_)
        have hz5 : z5 = 1 := hc5.trans (if_pos (by omega))
        refine g_if_eq ok 66 d_Dk_begin_50 (by decide) (by omega) (fun h6 => ?_) (fun h6 => ?_)
        · exact absurd h6 (by omega)
        · refine g_iload ok d_Dk_begin_53 4 rfl ?_
          refine g_iconst ok d_Dk_begin_55 ?_
          refine g_callPS (As := [.int (iI d), .int (iI 4)]) (st := []) ok (c_Dk_isBelow F G _ _ (by omega) (by omega) s0 a0 D t ad) k_615 k_1 k_613 k_614 q_Dk_isBelow (by decide) (Nat.le_of_ble_eq_true rfl) (by decide) d_Dk_begin_56 (fun z7 hc7 => ?_)
          have hz7 : z7 = 1 := hc7.trans (if_pos (by omega))
          refine g_if_eq ok 66 d_Dk_begin_59 (by decide) (by omega) (fun h8 => ?_) (fun h8 => ?_)
          · exact absurd h8 (by omega)
          · refine g_iconst ok d_Dk_begin_62 ?_
            refine g_goto ok 67 d_Dk_begin_63 (by decide) ?_
            refine g_istore (lv' := [(5, .int (iI 1)), (0, .ref (ad 0)), (1, .int (iI c0)), (2, .int (iI f0)), (3, .int (iI sp)), (4, .int (iI d))]) ok d_Dk_begin_67 (by decide) rfl ?_
            refine g_iload ok d_Dk_begin_69 0 rfl ?_
            refine g_if_eq ok 85 d_Dk_begin_71 (by decide) (by omega) (fun h9 => ?_) (fun h9 => ?_)
            · exact absurd h9 (by decide)
            · refine g_iload_n ok d_Dk_begin_74 rfl 4 rfl ?_
              refine g_iconst ok d_Dk_begin_75 ?_
              refine g_icmp_lt ok 85 d_Dk_begin_76 (by decide) (by omega) (by omega) (fun h10 => ?_) (fun h10 => ?_)
              · exact absurd h10 (by omega)
              · refine g_iload_n ok d_Dk_begin_79 rfl 4 rfl ?_
                refine g_bipush ok (by decide) d_Dk_begin_80 ?_
                refine g_icmp_le ok 95 d_Dk_begin_82 (by decide) (by omega) (by omega) (fun h11 => ?_) (fun h11 => ?_)
                · refine g_aload_n ok d_Dk_begin_95 rfl 1 rfl ?_
                  refine gI_Dk_shapes ok _ rfl k_317 d_Dk_begin_96 ?_
                  refine g_aload_n ok d_Dk_begin_99 rfl 1 rfl ?_
                  refine gI_Dk_shapeTotal ok _ rfl k_325 d_Dk_begin_100 ?_
                  refine h_shapes ok (by omega) d_Dk_begin_103 ?_
                  refine g_tv (y := .ref (ad k)) (by rw [hk]) ?_
                  refine g_iload_n ok d_Dk_begin_104 rfl 2 rfl ?_
                  refine g_iload_n ok d_Dk_begin_105 rfl 3 rfl ?_
                  refine g_iload_n ok d_Dk_begin_106 rfl 4 rfl ?_
                  refine g_iload ok d_Dk_begin_107 5 rfl ?_
                  refine g_callVVN (As := [.int (iI c0), .int (iI f0), .int (iI sp), .int (iI d)]) (st := []) ok _ (c_Sh_reset F G _ hK _ _ _ _ s0 a0 D t ad) k_770 k_2 k_767 cl_Sh (m_Sh (ad := ad) (t := t) (F := F) (G := G) hK).1 (m_Sh hK).2 k_769 s_Sh_reset q_Sh_reset (by decide) (Nat.le_of_ble_eq_true rfl) (by decide) d_Dk_begin_109 (fun ce1 hc12 => ?_)
                  obtain ⟨Fq, Gq, rfl, hFq, hGq⟩ := hc12
                  rw [hFq, hGq]
                  clear hFq hGq
                  refine g_aload_n ok d_Dk_begin_112 rfl 1 rfl ?_
                  refine g_iconst ok d_Dk_begin_113 ?_
                  refine pI_Dk_open ok _ rfl k_327 (by first | exact Or.inl rfl | exact Or.inr rfl | omega) d_Dk_begin_114 ?_
                  exact g_vret ok d_Dk_begin_117 ⟨_, _, rfl, rfl, rfl⟩
                · exact absurd h11 (by omega)
    · exact absurd h2 (by omega)
  · exact absurd h1 (by omega)
theorem d_Dk_corner_0 : decode b_Dk_corner 0 = .ok (.aload_n 0, 1) := by decide +kernel
theorem d_Dk_corner_1 : decode b_Dk_corner 1 = .ok (.getfield 56, 3) := by decide +kernel
theorem d_Dk_corner_4 : decode b_Dk_corner 4 = .ok (.ifCond .eq 19, 3) := by decide +kernel
theorem d_Dk_corner_7 : decode b_Dk_corner 7 = .ok (.aload_n 0, 1) := by decide +kernel
theorem d_Dk_corner_8 : decode b_Dk_corner 8 = .ok (.getfield 11, 3) := by decide +kernel
theorem d_Dk_corner_11 : decode b_Dk_corner 11 = .ok (.aload_n 0, 1) := by decide +kernel
theorem d_Dk_corner_12 : decode b_Dk_corner 12 = .ok (.getfield 67, 3) := by decide +kernel
theorem d_Dk_corner_15 : decode b_Dk_corner 15 = .ok (.aaload, 1) := by decide +kernel
theorem d_Dk_corner_16 : decode b_Dk_corner 16 = .ok (.getfield 89, 3) := by decide +kernel
theorem d_Dk_corner_19 : decode b_Dk_corner 19 = .ok (.iconst 1, 1) := by decide +kernel
theorem d_Dk_corner_20 : decode b_Dk_corner 20 = .ok (.if_icmp .ne 13, 3) := by decide +kernel
theorem d_Dk_corner_23 : decode b_Dk_corner 23 = .ok (.new 60, 3) := by decide +kernel
theorem d_Dk_corner_26 : decode b_Dk_corner 26 = .ok (.dup, 1) := by decide +kernel
theorem d_Dk_corner_27 : decode b_Dk_corner 27 = .ok (.ldc 92, 2) := by decide +kernel
theorem d_Dk_corner_29 : decode b_Dk_corner 29 = .ok (.invokespecial 64, 3) := by decide +kernel
theorem d_Dk_corner_32 : decode b_Dk_corner 32 = .ok (.athrow, 1) := by decide +kernel
theorem d_Dk_corner_33 : decode b_Dk_corner 33 = .ok (.iload_n 1, 1) := by decide +kernel
theorem d_Dk_corner_34 : decode b_Dk_corner 34 = .ok (.iconst 4, 1) := by decide +kernel
theorem d_Dk_corner_35 : decode b_Dk_corner 35 = .ok (.invokestatic 76, 3) := by decide +kernel
theorem d_Dk_corner_38 : decode b_Dk_corner 38 = .ok (.ifCond .eq 11, 3) := by decide +kernel
theorem d_Dk_corner_41 : decode b_Dk_corner 41 = .ok (.iload_n 2, 1) := by decide +kernel
theorem d_Dk_corner_42 : decode b_Dk_corner 42 = .ok (.iload_n 3, 1) := by decide +kernel
theorem d_Dk_corner_43 : decode b_Dk_corner 43 = .ok (.invokestatic 94, 3) := by decide +kernel
theorem d_Dk_corner_46 : decode b_Dk_corner 46 = .ok (.ifCond .ne 13, 3) := by decide +kernel
theorem d_Dk_corner_49 : decode b_Dk_corner 49 = .ok (.new 80, 3) := by decide +kernel
theorem d_Dk_corner_52 : decode b_Dk_corner 52 = .ok (.dup, 1) := by decide +kernel
theorem d_Dk_corner_53 : decode b_Dk_corner 53 = .ok (.ldc 97, 2) := by decide +kernel
theorem d_Dk_corner_55 : decode b_Dk_corner 55 = .ok (.invokespecial 84, 3) := by decide +kernel
theorem d_Dk_corner_58 : decode b_Dk_corner 58 = .ok (.athrow, 1) := by decide +kernel
theorem d_Dk_corner_59 : decode b_Dk_corner 59 = .ok (.aload_n 0, 1) := by decide +kernel
theorem d_Dk_corner_60 : decode b_Dk_corner 60 = .ok (.getfield 11, 3) := by decide +kernel
theorem d_Dk_corner_63 : decode b_Dk_corner 63 = .ok (.aload_n 0, 1) := by decide +kernel
theorem d_Dk_corner_64 : decode b_Dk_corner 64 = .ok (.getfield 67, 3) := by decide +kernel
theorem d_Dk_corner_67 : decode b_Dk_corner 67 = .ok (.aaload, 1) := by decide +kernel
theorem d_Dk_corner_68 : decode b_Dk_corner 68 = .ok (.getfield 99, 3) := by decide +kernel
theorem d_Dk_corner_71 : decode b_Dk_corner 71 = .ok (.iload_n 1, 1) := by decide +kernel
theorem d_Dk_corner_72 : decode b_Dk_corner 72 = .ok (.aaload, 1) := by decide +kernel
theorem d_Dk_corner_73 : decode b_Dk_corner 73 = .ok (.astore 4, 2) := by decide +kernel
theorem d_Dk_corner_75 : decode b_Dk_corner 75 = .ok (.aload 4, 2) := by decide +kernel
theorem d_Dk_corner_77 : decode b_Dk_corner 77 = .ok (.getfield 103, 3) := by decide +kernel
theorem d_Dk_corner_80 : decode b_Dk_corner 80 = .ok (.bipush 24, 2) := by decide +kernel
theorem d_Dk_corner_82 : decode b_Dk_corner 82 = .ok (.if_icmp .lt 13, 3) := by decide +kernel
theorem d_Dk_corner_85 : decode b_Dk_corner 85 = .ok (.new 71, 3) := by decide +kernel
theorem d_Dk_corner_88 : decode b_Dk_corner 88 = .ok (.dup, 1) := by decide +kernel
theorem d_Dk_corner_89 : decode b_Dk_corner 89 = .ok (.ldc 108, 2) := by decide +kernel
theorem d_Dk_corner_91 : decode b_Dk_corner 91 = .ok (.invokespecial 75, 3) := by decide +kernel
theorem d_Dk_corner_94 : decode b_Dk_corner 94 = .ok (.athrow, 1) := by decide +kernel
theorem d_Dk_corner_95 : decode b_Dk_corner 95 = .ok (.aload 4, 2) := by decide +kernel
theorem d_Dk_corner_97 : decode b_Dk_corner 97 = .ok (.iload_n 2, 1) := by decide +kernel
theorem d_Dk_corner_98 : decode b_Dk_corner 98 = .ok (.iload_n 3, 1) := by decide +kernel
theorem d_Dk_corner_99 : decode b_Dk_corner 99 = .ok (.invokevirtual 110, 3) := by decide +kernel
theorem d_Dk_corner_102 : decode b_Dk_corner 102 = .ok (.aload 4, 2) := by decide +kernel
theorem d_Dk_corner_104 : decode b_Dk_corner 104 = .ok (.getfield 103, 3) := by decide +kernel
theorem d_Dk_corner_107 : decode b_Dk_corner 107 = .ok (.ireturn, 1) := by decide +kernel
set_option maxHeartbeats 1000000 in
set_option maxRecDepth 100000 in
theorem c_Dk_corner (F : Nat → Nat → Int) (G : Nat → Int → Int) (k : Nat) (ht : 0 ≤ F 0 8 ∧ F 0 8 < 10) (hk : k = 2 + 22 * (F 0 8).toNat) (r x y : Int) (ho : F 0 10 = 1) (hfl : 0 ≤ F k 4 ∧ F k 4 ≤ 2) (hf : ¬ F k 4 = 1) (hr : 0 ≤ r ∧ r < 4) (hxy : (0 ≤ x ∧ x ≤ 600) ∧ (0 ≤ y ∧ y ≤ 600)) (hs : 0 ≤ F (k + 3 + 3 * r.toNat) 2 ∧ F (k + 3 + 3 * r.toNat) 2 < 24) : cI y_Dk_corner b_Dk_corner 5 (some .int) 6 82 F G (fun ad => [.ref (ad 0), .int (iI r), .int (iI x), .int (iI y)]) (fun z F' G' => z = F (k + 3 + 3 * r.toNat) 2 + 1 ∧ F' = fU F (k + 3 + 3 * r.toNat) 2 (F (k + 3 + 3 * r.toNat) 2 + 1) ∧ G' = gU (gU G (k + 3 + 3 * r.toNat + 1) (F (k + 3 + 3 * r.toNat) 2) x) (k + 3 + 3 * r.toNat + 2) (F (k + 3 + 3 * r.toNat) 2) y) := by
  have hK : isSh k := hk ▸ sh_at ht
  have hkk := hK
  unfold isSh at hkk
  intro s0 a0 D t ad
  refine g_startI (by decide +kernel) (Nat.le_of_ble_eq_true rfl) (fun p l e R s m args below meth c A ok => ?_)
  show gW p l e R s m args below meth c _ D A 5 (gZ0 s) 0 0 ad 265 (mem ad t F G) 0 [(0, .ref (ad 0)), (1, .int (iI r)), (2, .int (iI x)), (3, .int (iI y))] []
  refine g_aload_n ok d_Dk_corner_0 rfl 0 rfl ?_
  refine gI_Dk_open ok _ rfl k_327 d_Dk_corner_1 ?_
  refine g_if_eq ok 23 d_Dk_corner_4 (by decide) (by omega) (fun h1 => ?_) (fun h1 => ?_)
  · exact absurd h1 (by omega)
  · refine g_aload_n ok d_Dk_corner_7 rfl 0 rfl ?_
    refine gI_Dk_shapes ok _ rfl k_317 d_Dk_corner_8 ?_
    refine g_aload_n ok d_Dk_corner_11 rfl 0 rfl ?_
    refine gI_Dk_shapeTotal ok _ rfl k_325 d_Dk_corner_12 ?_
    refine h_shapes ok (by omega) d_Dk_corner_15 ?_
    refine g_tv (y := .ref (ad k)) (by rw [hk]) ?_
    refine gN_Sh_fill ok _ hK k_101 d_Dk_corner_16 ?_
    refine g_iconst ok d_Dk_corner_19 ?_
    refine g_icmp_ne ok 33 d_Dk_corner_20 (by decide) (by omega) (by omega) (fun h2 => ?_) (fun h2 => ?_)
    · refine g_iload_n ok d_Dk_corner_33 rfl 1 rfl ?_
      refine g_iconst ok d_Dk_corner_34 ?_
      refine g_callPS (As := [.int (iI r), .int (iI 4)]) (st := []) ok (c_Dk_isBelow F G _ _ (by omega) (by omega) s0 a0 D t ad) k_615 k_1 k_613 k_614 q_Dk_isBelow (by decide) (Nat.le_of_ble_eq_true rfl) (by decide) d_Dk_corner_35 (fun z3 hc3 => ?_)
      have hz3 : z3 = 1 := hc3.trans (if_pos (by omega))
      refine g_if_eq ok 49 d_Dk_corner_38 (by decide) (by omega) (fun h4 => ?_) (fun h4 => ?_)
      · exact absurd h4 (by omega)
      · refine g_iload_n ok d_Dk_corner_41 rfl 2 rfl ?_
        refine g_iload_n ok d_Dk_corner_42 rfl 3 rfl ?_
        refine g_callPS (As := [.int (iI x), .int (iI y)]) (st := []) ok (c_Dk_isPlace F G _ _ (by omega) (by omega) s0 a0 D t ad) k_789 k_1 k_787 k_788 q_Dk_isPlace (by decide) (Nat.le_of_ble_eq_true rfl) (by decide) d_Dk_corner_43 (fun z5 hc5 => ?_)
        have hz5 : z5 = 1 := hc5.trans (if_pos (by omega))
        refine g_if_ne ok 59 d_Dk_corner_46 (by decide) (by omega) (fun h6 => ?_) (fun h6 => ?_)
        · refine g_aload_n ok d_Dk_corner_59 rfl 0 rfl ?_
          refine gI_Dk_shapes ok _ rfl k_317 d_Dk_corner_60 ?_
          refine g_aload_n ok d_Dk_corner_63 rfl 0 rfl ?_
          refine gI_Dk_shapeTotal ok _ rfl k_325 d_Dk_corner_64 ?_
          refine h_shapes ok (by omega) d_Dk_corner_67 ?_
          refine g_tv (y := .ref (ad k)) (by rw [hk]) ?_
          refine gN_Sh_rings ok _ hK k_85 d_Dk_corner_68 ?_
          refine g_iload_n ok d_Dk_corner_71 rfl 1 rfl ?_
          refine h_rings ok _ hK (by omega) d_Dk_corner_72 ?_
          refine g_astore (lv' := [(4, .ref (ad (k + 3 + 3 * (r : Int).toNat))), (0, .ref (ad 0)), (1, .int (iI r)), (2, .int (iI x)), (3, .int (iI y))]) ok d_Dk_corner_73 (by decide) rfl ?_
          refine g_aload ok d_Dk_corner_75 0 rfl ?_
          refine gN_Rg_size ok _ (rg_of hK (by omega)) k_57 d_Dk_corner_77 ?_
          refine g_bipush ok (by decide) d_Dk_corner_80 ?_
          refine g_icmp_lt ok 95 d_Dk_corner_82 (by decide) (by omega) (by omega) (fun h7 => ?_) (fun h7 => ?_)
          · refine g_aload ok d_Dk_corner_95 0 rfl ?_
            refine g_iload_n ok d_Dk_corner_97 rfl 3 rfl ?_
            refine g_iload_n ok d_Dk_corner_98 rfl 4 rfl ?_
            refine g_callVVN (As := [.int (iI x), .int (iI y)]) (st := []) ok _ (c_Rg_add F G _ _ _ _ (rg_of hK (by omega)) rfl (by have := rm_ring hK (q := r.toNat) (by omega); omega) s0 a0 D t ad) k_795 k_3 k_792 cl_Rg (m_Rg (ad := ad) (t := t) (F := F) (G := G) (rg_of hK (by omega))).1 (m_Rg (rg_of hK (by omega))).2 k_794 s_Rg_add q_Rg_add (by decide) (Nat.le_of_ble_eq_true rfl) (by decide) d_Dk_corner_99 (fun ce1 hc8 => ?_)
            obtain ⟨Fq, Gq, rfl, hFq, hGq⟩ := hc8
            rw [hFq, hGq]
            clear hFq hGq
            refine g_aload ok d_Dk_corner_102 0 rfl ?_
            refine gN_Rg_size ok _ (rg_of hK (by omega)) k_57 d_Dk_corner_104 ?_
            refine g_top (y := F (k + 3 + 3 * (r : Int).toNat) 2 + 1) (by show (fU F (k + 3 + 3 * (r : Int).toNat) 2 (F (k + 3 + 3 * (r : Int).toNat) 2 + 1)) (k + 3 + 3 * (r : Int).toNat) 2 = _; rw [fU_hit]) ?_
            exact g_iret ok d_Dk_corner_107 ⟨_, _, rfl, rfl, rfl, rfl⟩
          · exact absurd h7 (by omega)
        · exact absurd h6 (by omega)
    · exact absurd h2 (by omega)
theorem d_Dk_rail_0 : decode b_Dk_rail 0 = .ok (.aload_n 0, 1) := by decide +kernel
theorem d_Dk_rail_1 : decode b_Dk_rail 1 = .ok (.getfield 56, 3) := by decide +kernel
theorem d_Dk_rail_4 : decode b_Dk_rail 4 = .ok (.ifCond .eq 19, 3) := by decide +kernel
theorem d_Dk_rail_7 : decode b_Dk_rail 7 = .ok (.aload_n 0, 1) := by decide +kernel
theorem d_Dk_rail_8 : decode b_Dk_rail 8 = .ok (.getfield 11, 3) := by decide +kernel
theorem d_Dk_rail_11 : decode b_Dk_rail 11 = .ok (.aload_n 0, 1) := by decide +kernel
theorem d_Dk_rail_12 : decode b_Dk_rail 12 = .ok (.getfield 67, 3) := by decide +kernel
theorem d_Dk_rail_15 : decode b_Dk_rail 15 = .ok (.aaload, 1) := by decide +kernel
theorem d_Dk_rail_16 : decode b_Dk_rail 16 = .ok (.getfield 89, 3) := by decide +kernel
theorem d_Dk_rail_19 : decode b_Dk_rail 19 = .ok (.iconst 1, 1) := by decide +kernel
theorem d_Dk_rail_20 : decode b_Dk_rail 20 = .ok (.if_icmp .eq 13, 3) := by decide +kernel
theorem d_Dk_rail_23 : decode b_Dk_rail 23 = .ok (.new 60, 3) := by decide +kernel
theorem d_Dk_rail_26 : decode b_Dk_rail 26 = .ok (.dup, 1) := by decide +kernel
theorem d_Dk_rail_27 : decode b_Dk_rail 27 = .ok (.ldc 114, 2) := by decide +kernel
theorem d_Dk_rail_29 : decode b_Dk_rail 29 = .ok (.invokespecial 64, 3) := by decide +kernel
theorem d_Dk_rail_32 : decode b_Dk_rail 32 = .ok (.athrow, 1) := by decide +kernel
theorem d_Dk_rail_33 : decode b_Dk_rail 33 = .ok (.iload_n 1, 1) := by decide +kernel
theorem d_Dk_rail_34 : decode b_Dk_rail 34 = .ok (.iconst 2, 1) := by decide +kernel
theorem d_Dk_rail_35 : decode b_Dk_rail 35 = .ok (.invokestatic 76, 3) := by decide +kernel
theorem d_Dk_rail_38 : decode b_Dk_rail 38 = .ok (.ifCond .eq 11, 3) := by decide +kernel
theorem d_Dk_rail_41 : decode b_Dk_rail 41 = .ok (.iload_n 2, 1) := by decide +kernel
theorem d_Dk_rail_42 : decode b_Dk_rail 42 = .ok (.iload_n 3, 1) := by decide +kernel
theorem d_Dk_rail_43 : decode b_Dk_rail 43 = .ok (.invokestatic 94, 3) := by decide +kernel
theorem d_Dk_rail_46 : decode b_Dk_rail 46 = .ok (.ifCond .ne 13, 3) := by decide +kernel
theorem d_Dk_rail_49 : decode b_Dk_rail 49 = .ok (.new 80, 3) := by decide +kernel
theorem d_Dk_rail_52 : decode b_Dk_rail 52 = .ok (.dup, 1) := by decide +kernel
theorem d_Dk_rail_53 : decode b_Dk_rail 53 = .ok (.ldc 116, 2) := by decide +kernel
theorem d_Dk_rail_55 : decode b_Dk_rail 55 = .ok (.invokespecial 84, 3) := by decide +kernel
theorem d_Dk_rail_58 : decode b_Dk_rail 58 = .ok (.athrow, 1) := by decide +kernel
theorem d_Dk_rail_59 : decode b_Dk_rail 59 = .ok (.aload_n 0, 1) := by decide +kernel
theorem d_Dk_rail_60 : decode b_Dk_rail 60 = .ok (.getfield 11, 3) := by decide +kernel
theorem d_Dk_rail_63 : decode b_Dk_rail 63 = .ok (.aload_n 0, 1) := by decide +kernel
theorem d_Dk_rail_64 : decode b_Dk_rail 64 = .ok (.getfield 67, 3) := by decide +kernel
theorem d_Dk_rail_67 : decode b_Dk_rail 67 = .ok (.aaload, 1) := by decide +kernel
theorem d_Dk_rail_68 : decode b_Dk_rail 68 = .ok (.getfield 118, 3) := by decide +kernel
theorem d_Dk_rail_71 : decode b_Dk_rail 71 = .ok (.iload_n 1, 1) := by decide +kernel
theorem d_Dk_rail_72 : decode b_Dk_rail 72 = .ok (.aaload, 1) := by decide +kernel
theorem d_Dk_rail_73 : decode b_Dk_rail 73 = .ok (.astore 4, 2) := by decide +kernel
theorem d_Dk_rail_75 : decode b_Dk_rail 75 = .ok (.aload 4, 2) := by decide +kernel
theorem d_Dk_rail_77 : decode b_Dk_rail 77 = .ok (.getfield 103, 3) := by decide +kernel
theorem d_Dk_rail_80 : decode b_Dk_rail 80 = .ok (.bipush 16, 2) := by decide +kernel
theorem d_Dk_rail_82 : decode b_Dk_rail 82 = .ok (.if_icmp .lt 13, 3) := by decide +kernel
theorem d_Dk_rail_85 : decode b_Dk_rail 85 = .ok (.new 71, 3) := by decide +kernel
theorem d_Dk_rail_88 : decode b_Dk_rail 88 = .ok (.dup, 1) := by decide +kernel
theorem d_Dk_rail_89 : decode b_Dk_rail 89 = .ok (.ldc 121, 2) := by decide +kernel
theorem d_Dk_rail_91 : decode b_Dk_rail 91 = .ok (.invokespecial 75, 3) := by decide +kernel
theorem d_Dk_rail_94 : decode b_Dk_rail 94 = .ok (.athrow, 1) := by decide +kernel
theorem d_Dk_rail_95 : decode b_Dk_rail 95 = .ok (.aload 4, 2) := by decide +kernel
theorem d_Dk_rail_97 : decode b_Dk_rail 97 = .ok (.iload_n 2, 1) := by decide +kernel
theorem d_Dk_rail_98 : decode b_Dk_rail 98 = .ok (.iload_n 3, 1) := by decide +kernel
theorem d_Dk_rail_99 : decode b_Dk_rail 99 = .ok (.invokevirtual 110, 3) := by decide +kernel
theorem d_Dk_rail_102 : decode b_Dk_rail 102 = .ok (.aload 4, 2) := by decide +kernel
theorem d_Dk_rail_104 : decode b_Dk_rail 104 = .ok (.getfield 103, 3) := by decide +kernel
theorem d_Dk_rail_107 : decode b_Dk_rail 107 = .ok (.ireturn, 1) := by decide +kernel
set_option maxHeartbeats 1000000 in
set_option maxRecDepth 100000 in
theorem c_Dk_rail (F : Nat → Nat → Int) (G : Nat → Int → Int) (k : Nat) (ht : 0 ≤ F 0 8 ∧ F 0 8 < 10) (hk : k = 2 + 22 * (F 0 8).toNat) (r x y : Int) (ho : F 0 10 = 1) (hfl : 0 ≤ F k 4 ∧ F k 4 ≤ 2) (hf : F k 4 = 1) (hr : 0 ≤ r ∧ r < 2) (hxy : (0 ≤ x ∧ x ≤ 600) ∧ (0 ≤ y ∧ y ≤ 600)) (hs : 0 ≤ F (k + 15 + 3 * r.toNat) 2 ∧ F (k + 15 + 3 * r.toNat) 2 < 16) : cI y_Dk_rail b_Dk_rail 5 (some .int) 6 82 F G (fun ad => [.ref (ad 0), .int (iI r), .int (iI x), .int (iI y)]) (fun z F' G' => z = F (k + 15 + 3 * r.toNat) 2 + 1 ∧ F' = fU F (k + 15 + 3 * r.toNat) 2 (F (k + 15 + 3 * r.toNat) 2 + 1) ∧ G' = gU (gU G (k + 15 + 3 * r.toNat + 1) (F (k + 15 + 3 * r.toNat) 2) x) (k + 15 + 3 * r.toNat + 2) (F (k + 15 + 3 * r.toNat) 2) y) := by
  have hK : isSh k := hk ▸ sh_at ht
  have hkk := hK
  unfold isSh at hkk
  intro s0 a0 D t ad
  refine g_startI (by decide +kernel) (Nat.le_of_ble_eq_true rfl) (fun p l e R s m args below meth c A ok => ?_)
  show gW p l e R s m args below meth c _ D A 5 (gZ0 s) 0 0 ad 265 (mem ad t F G) 0 [(0, .ref (ad 0)), (1, .int (iI r)), (2, .int (iI x)), (3, .int (iI y))] []
  refine g_aload_n ok d_Dk_rail_0 rfl 0 rfl ?_
  refine gI_Dk_open ok _ rfl k_327 d_Dk_rail_1 ?_
  refine g_if_eq ok 23 d_Dk_rail_4 (by decide) (by omega) (fun h1 => ?_) (fun h1 => ?_)
  · exact absurd h1 (by omega)
  · refine g_aload_n ok d_Dk_rail_7 rfl 0 rfl ?_
    refine gI_Dk_shapes ok _ rfl k_317 d_Dk_rail_8 ?_
    refine g_aload_n ok d_Dk_rail_11 rfl 0 rfl ?_
    refine gI_Dk_shapeTotal ok _ rfl k_325 d_Dk_rail_12 ?_
    refine h_shapes ok (by omega) d_Dk_rail_15 ?_
    refine g_tv (y := .ref (ad k)) (by rw [hk]) ?_
    refine gN_Sh_fill ok _ hK k_101 d_Dk_rail_16 ?_
    refine g_iconst ok d_Dk_rail_19 ?_
    refine g_icmp_eq ok 33 d_Dk_rail_20 (by decide) (by omega) (by omega) (fun h2 => ?_) (fun h2 => ?_)
    · refine g_iload_n ok d_Dk_rail_33 rfl 1 rfl ?_
      refine g_iconst ok d_Dk_rail_34 ?_
      refine g_callPS (As := [.int (iI r), .int (iI 2)]) (st := []) ok (c_Dk_isBelow F G _ _ (by omega) (by omega) s0 a0 D t ad) k_615 k_1 k_613 k_614 q_Dk_isBelow (by decide) (Nat.le_of_ble_eq_true rfl) (by decide) d_Dk_rail_35 (fun z3 hc3 => ?_)
      have hz3 : z3 = 1 := hc3.trans (if_pos (by omega))
      refine g_if_eq ok 49 d_Dk_rail_38 (by decide) (by omega) (fun h4 => ?_) (fun h4 => ?_)
      · exact absurd h4 (by omega)
      · refine g_iload_n ok d_Dk_rail_41 rfl 2 rfl ?_
        refine g_iload_n ok d_Dk_rail_42 rfl 3 rfl ?_
        refine g_callPS (As := [.int (iI x), .int (iI y)]) (st := []) ok (c_Dk_isPlace F G _ _ (by omega) (by omega) s0 a0 D t ad) k_789 k_1 k_787 k_788 q_Dk_isPlace (by decide) (Nat.le_of_ble_eq_true rfl) (by decide) d_Dk_rail_43 (fun z5 hc5 => ?_)
        have hz5 : z5 = 1 := hc5.trans (if_pos (by omega))
        refine g_if_ne ok 59 d_Dk_rail_46 (by decide) (by omega) (fun h6 => ?_) (fun h6 => ?_)
        · refine g_aload_n ok d_Dk_rail_59 rfl 0 rfl ?_
          refine gI_Dk_shapes ok _ rfl k_317 d_Dk_rail_60 ?_
          refine g_aload_n ok d_Dk_rail_63 rfl 0 rfl ?_
          refine gI_Dk_shapeTotal ok _ rfl k_325 d_Dk_rail_64 ?_
          refine h_shapes ok (by omega) d_Dk_rail_67 ?_
          refine g_tv (y := .ref (ad k)) (by rw [hk]) ?_
          refine gN_Sh_rails ok _ hK k_91 d_Dk_rail_68 ?_
          refine g_iload_n ok d_Dk_rail_71 rfl 1 rfl ?_
          refine h_rails ok _ hK (by omega) d_Dk_rail_72 ?_
          refine g_astore (lv' := [(4, .ref (ad (k + 15 + 3 * (r : Int).toNat))), (0, .ref (ad 0)), (1, .int (iI r)), (2, .int (iI x)), (3, .int (iI y))]) ok d_Dk_rail_73 (by decide) rfl ?_
          refine g_aload ok d_Dk_rail_75 0 rfl ?_
          refine gN_Rg_size ok _ (rg_rail hK (by omega)) k_57 d_Dk_rail_77 ?_
          refine g_bipush ok (by decide) d_Dk_rail_80 ?_
          refine g_icmp_lt ok 95 d_Dk_rail_82 (by decide) (by omega) (by omega) (fun h7 => ?_) (fun h7 => ?_)
          · refine g_aload ok d_Dk_rail_95 0 rfl ?_
            refine g_iload_n ok d_Dk_rail_97 rfl 3 rfl ?_
            refine g_iload_n ok d_Dk_rail_98 rfl 4 rfl ?_
            refine g_callVVN (As := [.int (iI x), .int (iI y)]) (st := []) ok _ (c_Rg_add F G _ _ _ _ (rg_rail hK (by omega)) rfl (by rw [rm_rail hK (by omega)]; omega) s0 a0 D t ad) k_795 k_3 k_792 cl_Rg (m_Rg (ad := ad) (t := t) (F := F) (G := G) (rg_rail hK (by omega))).1 (m_Rg (rg_rail hK (by omega))).2 k_794 s_Rg_add q_Rg_add (by decide) (Nat.le_of_ble_eq_true rfl) (by decide) d_Dk_rail_99 (fun ce1 hc8 => ?_)
            obtain ⟨Fq, Gq, rfl, hFq, hGq⟩ := hc8
            rw [hFq, hGq]
            clear hFq hGq
            refine g_aload ok d_Dk_rail_102 0 rfl ?_
            refine gN_Rg_size ok _ (rg_rail hK (by omega)) k_57 d_Dk_rail_104 ?_
            refine g_top (y := F (k + 15 + 3 * (r : Int).toNat) 2 + 1) (by show (fU F (k + 15 + 3 * (r : Int).toNat) 2 (F (k + 15 + 3 * (r : Int).toNat) 2 + 1)) (k + 15 + 3 * (r : Int).toNat) 2 = _; rw [fU_hit]) ?_
            exact g_iret ok d_Dk_rail_107 ⟨_, _, rfl, rfl, rfl, rfl⟩
          · exact absurd h7 (by omega)
        · exact absurd h6 (by omega)
    · exact absurd h2 (by omega)
def shV (F : Nat → Nat → Int) (k : Nat) (w : Int) : Int := if w = 0 then F k 3 else if w = 1 then F k 4 else if w = 2 then F k 5 else if w = 3 then F k 6 else if w = 4 then F k 7 else if w = 5 then F k 8 else if w = 6 then F k 9 else if w = 7 then F k 10 else if w = 8 then F (k + 21) 0 else F (k + 21) 1
theorem d_Dk_shape_0 : decode b_Dk_shape 0 = .ok (.iload_n 1, 1) := by decide +kernel
theorem d_Dk_shape_1 : decode b_Dk_shape 1 = .ok (.aload_n 0, 1) := by decide +kernel
theorem d_Dk_shape_2 : decode b_Dk_shape 2 = .ok (.getfield 67, 3) := by decide +kernel
theorem d_Dk_shape_5 : decode b_Dk_shape 5 = .ok (.invokestatic 76, 3) := by decide +kernel
theorem d_Dk_shape_8 : decode b_Dk_shape 8 = .ok (.ifCond .ne 13, 3) := by decide +kernel
theorem d_Dk_shape_11 : decode b_Dk_shape 11 = .ok (.new 149, 3) := by decide +kernel
theorem d_Dk_shape_14 : decode b_Dk_shape 14 = .ok (.dup, 1) := by decide +kernel
theorem d_Dk_shape_15 : decode b_Dk_shape 15 = .ok (.ldc 82, 2) := by decide +kernel
theorem d_Dk_shape_17 : decode b_Dk_shape 17 = .ok (.invokespecial 151, 3) := by decide +kernel
theorem d_Dk_shape_20 : decode b_Dk_shape 20 = .ok (.athrow, 1) := by decide +kernel
theorem d_Dk_shape_21 : decode b_Dk_shape 21 = .ok (.aload_n 0, 1) := by decide +kernel
theorem d_Dk_shape_22 : decode b_Dk_shape 22 = .ok (.getfield 11, 3) := by decide +kernel
theorem d_Dk_shape_25 : decode b_Dk_shape 25 = .ok (.iload_n 1, 1) := by decide +kernel
theorem d_Dk_shape_26 : decode b_Dk_shape 26 = .ok (.aaload, 1) := by decide +kernel
theorem d_Dk_shape_27 : decode b_Dk_shape 27 = .ok (.astore_n 3, 1) := by decide +kernel
theorem d_Dk_shape_28 : decode b_Dk_shape 28 = .ok (.iload_n 2, 1) := by decide +kernel
theorem d_Dk_shape_29 : decode b_Dk_shape 29 = .ok (.tableswitch 111 0 9 #[55, 60, 65, 70, 75, 80, 85, 90, 95, 103], 55) := by decide +kernel
theorem d_Dk_shape_84 : decode b_Dk_shape 84 = .ok (.aload_n 3, 1) := by decide +kernel
theorem d_Dk_shape_85 : decode b_Dk_shape 85 = .ok (.getfield 152, 3) := by decide +kernel
theorem d_Dk_shape_88 : decode b_Dk_shape 88 = .ok (.ireturn, 1) := by decide +kernel
theorem d_Dk_shape_89 : decode b_Dk_shape 89 = .ok (.aload_n 3, 1) := by decide +kernel
theorem d_Dk_shape_90 : decode b_Dk_shape 90 = .ok (.getfield 89, 3) := by decide +kernel
theorem d_Dk_shape_93 : decode b_Dk_shape 93 = .ok (.ireturn, 1) := by decide +kernel
theorem d_Dk_shape_94 : decode b_Dk_shape 94 = .ok (.aload_n 3, 1) := by decide +kernel
theorem d_Dk_shape_95 : decode b_Dk_shape 95 = .ok (.getfield 155, 3) := by decide +kernel
theorem d_Dk_shape_98 : decode b_Dk_shape 98 = .ok (.ireturn, 1) := by decide +kernel
theorem d_Dk_shape_99 : decode b_Dk_shape 99 = .ok (.aload_n 3, 1) := by decide +kernel
theorem d_Dk_shape_100 : decode b_Dk_shape 100 = .ok (.getfield 158, 3) := by decide +kernel
theorem d_Dk_shape_103 : decode b_Dk_shape 103 = .ok (.ireturn, 1) := by decide +kernel
theorem d_Dk_shape_104 : decode b_Dk_shape 104 = .ok (.aload_n 3, 1) := by decide +kernel
theorem d_Dk_shape_105 : decode b_Dk_shape 105 = .ok (.getfield 161, 3) := by decide +kernel
theorem d_Dk_shape_108 : decode b_Dk_shape 108 = .ok (.ireturn, 1) := by decide +kernel
theorem d_Dk_shape_109 : decode b_Dk_shape 109 = .ok (.aload_n 3, 1) := by decide +kernel
theorem d_Dk_shape_110 : decode b_Dk_shape 110 = .ok (.getfield 164, 3) := by decide +kernel
theorem d_Dk_shape_113 : decode b_Dk_shape 113 = .ok (.ireturn, 1) := by decide +kernel
theorem d_Dk_shape_114 : decode b_Dk_shape 114 = .ok (.aload_n 3, 1) := by decide +kernel
theorem d_Dk_shape_115 : decode b_Dk_shape 115 = .ok (.getfield 167, 3) := by decide +kernel
theorem d_Dk_shape_118 : decode b_Dk_shape 118 = .ok (.ireturn, 1) := by decide +kernel
theorem d_Dk_shape_119 : decode b_Dk_shape 119 = .ok (.aload_n 3, 1) := by decide +kernel
theorem d_Dk_shape_120 : decode b_Dk_shape 120 = .ok (.getfield 170, 3) := by decide +kernel
theorem d_Dk_shape_123 : decode b_Dk_shape 123 = .ok (.ireturn, 1) := by decide +kernel
theorem d_Dk_shape_124 : decode b_Dk_shape 124 = .ok (.aload_n 3, 1) := by decide +kernel
theorem d_Dk_shape_125 : decode b_Dk_shape 125 = .ok (.getfield 132, 3) := by decide +kernel
theorem d_Dk_shape_128 : decode b_Dk_shape 128 = .ok (.getfield 173, 3) := by decide +kernel
theorem d_Dk_shape_131 : decode b_Dk_shape 131 = .ok (.ireturn, 1) := by decide +kernel
theorem d_Dk_shape_132 : decode b_Dk_shape 132 = .ok (.aload_n 3, 1) := by decide +kernel
theorem d_Dk_shape_133 : decode b_Dk_shape 133 = .ok (.getfield 132, 3) := by decide +kernel
theorem d_Dk_shape_136 : decode b_Dk_shape 136 = .ok (.getfield 178, 3) := by decide +kernel
theorem d_Dk_shape_139 : decode b_Dk_shape 139 = .ok (.ireturn, 1) := by decide +kernel
theorem d_Dk_shape_140 : decode b_Dk_shape 140 = .ok (.new 80, 3) := by decide +kernel
theorem d_Dk_shape_143 : decode b_Dk_shape 143 = .ok (.dup, 1) := by decide +kernel
theorem d_Dk_shape_144 : decode b_Dk_shape 144 = .ok (.ldc 181, 2) := by decide +kernel
theorem d_Dk_shape_146 : decode b_Dk_shape 146 = .ok (.invokespecial 84, 3) := by decide +kernel
theorem d_Dk_shape_149 : decode b_Dk_shape 149 = .ok (.athrow, 1) := by decide +kernel
set_option maxHeartbeats 1000000 in
set_option maxRecDepth 100000 in
theorem c_Dk_shape (F : Nat → Nat → Int) (G : Nat → Int → Int) (k : Nat) (n wh : Int) (ht : 0 ≤ F 0 8 ∧ F 0 8 ≤ 10) (hn : 0 ≤ n ∧ n < F 0 8) (hk : k = 2 + 22 * n.toNat) (hw : 0 ≤ wh ∧ wh ≤ 9) : cP y_Dk_shape b_Dk_shape 4 (some .int) 6 82 F G (fun ad => [.ref (ad 0), .int (iI n), .int (iI wh)]) (fun z => z = shV F k wh) := by
  have hK : isSh k := hk ▸ sh_at (by omega)
  intro s0 a0 D t ad
  refine g_startP (by decide +kernel) (Nat.le_of_ble_eq_true rfl) (fun p l e R s m args below meth c A ok => ?_)
  show gW p l e R s m args below meth c _ D A 4 (gZ0 s) 0 0 ad 265 (mem ad t F G) 0 [(0, .ref (ad 0)), (1, .int (iI n)), (2, .int (iI wh))] []
  refine g_iload_n ok d_Dk_shape_0 rfl 1 rfl ?_
  refine g_aload_n ok d_Dk_shape_1 rfl 0 rfl ?_
  refine gI_Dk_shapeTotal ok _ rfl k_325 d_Dk_shape_2 ?_
  refine g_callPS (As := [.int (iI n), .int (iI (F 0 8))]) (st := []) ok (c_Dk_isBelow F G _ _ (by omega) (by omega) s0 a0 D t ad) k_615 k_1 k_613 k_614 q_Dk_isBelow (by decide) (Nat.le_of_ble_eq_true rfl) (by decide) d_Dk_shape_5 (fun z1 hc1 => ?_)
  have hz1 : z1 = 1 := hc1.trans (if_pos (by omega))
  refine g_if_ne ok 21 d_Dk_shape_8 (by decide) (by omega) (fun h2 => ?_) (fun h2 => ?_)
  · refine g_aload_n ok d_Dk_shape_21 rfl 0 rfl ?_
    refine gI_Dk_shapes ok _ rfl k_317 d_Dk_shape_22 ?_
    refine g_iload_n ok d_Dk_shape_25 rfl 1 rfl ?_
    refine h_shapes ok (by omega) d_Dk_shape_26 ?_
    refine g_tv (y := .ref (ad k)) (by rw [hk]) ?_
    refine g_astore_n (lv' := [(3, .ref (ad k)), (0, .ref (ad 0)), (1, .int (iI n)), (2, .int (iI wh))]) ok d_Dk_shape_27 rfl (by decide) rfl ?_
    refine g_iload_n ok d_Dk_shape_28 rfl 3 rfl ?_
    rcases (show wh = 0 ∨ wh = 1 ∨ wh = 2 ∨ wh = 3 ∨ wh = 4 ∨ wh = 5 ∨ wh = 6 ∨ wh = 7 ∨ wh = 8 ∨ wh = 9 ∨ (wh < 0 ∨ 9 < wh) by omega) with hw3 | hw3 | hw3 | hw3 | hw3 | hw3 | hw3 | hw3 | hw3 | hw3 | hw3
    · refine g_tabIn ok (by omega) d_Dk_shape_29 (by omega) (off := 55) (by rw [hw3]; rfl) 84 (by decide) ?_
      refine g_aload_n ok d_Dk_shape_84 rfl 0 rfl ?_
      refine gN_Sh_colour ok _ hK k_97 d_Dk_shape_85 ?_
      exact g_ipret ok d_Dk_shape_88 (by unfold shV; rw [if_pos (by omega)])
    · refine g_tabIn ok (by omega) d_Dk_shape_29 (by omega) (off := 60) (by rw [hw3]; rfl) 89 (by decide) ?_
      refine g_aload_n ok d_Dk_shape_89 rfl 0 rfl ?_
      refine gN_Sh_fill ok _ hK k_101 d_Dk_shape_90 ?_
      exact g_ipret ok d_Dk_shape_93 (by unfold shV; rw [if_neg (by omega), if_pos (by omega)])
    · refine g_tabIn ok (by omega) d_Dk_shape_29 (by omega) (off := 65) (by rw [hw3]; rfl) 94 (by decide) ?_
      refine g_aload_n ok d_Dk_shape_94 rfl 0 rfl ?_
      refine gN_Sh_spacing ok _ hK k_104 d_Dk_shape_95 ?_
      exact g_ipret ok d_Dk_shape_98 (by unfold shV; rw [if_neg (by omega), if_neg (by omega), if_pos (by omega)])
    · refine g_tabIn ok (by omega) d_Dk_shape_29 (by omega) (off := 70) (by rw [hw3]; rfl) 99 (by decide) ?_
      refine g_aload_n ok d_Dk_shape_99 rfl 0 rfl ?_
      refine gN_Sh_direction ok _ hK k_107 d_Dk_shape_100 ?_
      exact g_ipret ok d_Dk_shape_103 (by unfold shV; rw [if_neg (by omega), if_neg (by omega), if_neg (by omega), if_pos (by omega)])
    · refine g_tabIn ok (by omega) d_Dk_shape_29 (by omega) (off := 75) (by rw [hw3]; rfl) 104 (by decide) ?_
      refine g_aload_n ok d_Dk_shape_104 rfl 0 rfl ?_
      refine gN_Sh_left ok _ hK k_111 d_Dk_shape_105 ?_
      exact g_ipret ok d_Dk_shape_108 (by unfold shV; rw [if_neg (by omega), if_neg (by omega), if_neg (by omega), if_neg (by omega), if_pos (by omega)])
    · refine g_tabIn ok (by omega) d_Dk_shape_29 (by omega) (off := 80) (by rw [hw3]; rfl) 109 (by decide) ?_
      refine g_aload_n ok d_Dk_shape_109 rfl 0 rfl ?_
      refine gN_Sh_top ok _ hK k_115 d_Dk_shape_110 ?_
      exact g_ipret ok d_Dk_shape_113 (by unfold shV; rw [if_neg (by omega), if_neg (by omega), if_neg (by omega), if_neg (by omega), if_neg (by omega), if_pos (by omega)])
    · refine g_tabIn ok (by omega) d_Dk_shape_29 (by omega) (off := 85) (by rw [hw3]; rfl) 114 (by decide) ?_
      refine g_aload_n ok d_Dk_shape_114 rfl 0 rfl ?_
      refine gN_Sh_right ok _ hK k_119 d_Dk_shape_115 ?_
      exact g_ipret ok d_Dk_shape_118 (by unfold shV; rw [if_neg (by omega), if_neg (by omega), if_neg (by omega), if_neg (by omega), if_neg (by omega), if_neg (by omega), if_pos (by omega)])
    · refine g_tabIn ok (by omega) d_Dk_shape_29 (by omega) (off := 90) (by rw [hw3]; rfl) 119 (by decide) ?_
      refine g_aload_n ok d_Dk_shape_119 rfl 0 rfl ?_
      refine gN_Sh_bottom ok _ hK k_123 d_Dk_shape_120 ?_
      exact g_ipret ok d_Dk_shape_123 (by unfold shV; rw [if_neg (by omega), if_neg (by omega), if_neg (by omega), if_neg (by omega), if_neg (by omega), if_neg (by omega), if_neg (by omega), if_pos (by omega)])
    · refine g_tabIn ok (by omega) d_Dk_shape_29 (by omega) (off := 95) (by rw [hw3]; rfl) 124 (by decide) ?_
      refine g_aload_n ok d_Dk_shape_124 rfl 0 rfl ?_
      refine gN_Sh_tally ok _ hK k_93 d_Dk_shape_125 ?_
      refine gN_Ty_runs ok _ (ty_of hK) k_75 d_Dk_shape_128 ?_
      exact g_ipret ok d_Dk_shape_131 (by unfold shV; rw [if_neg (by omega), if_neg (by omega), if_neg (by omega), if_neg (by omega), if_neg (by omega), if_neg (by omega), if_neg (by omega), if_neg (by omega), if_pos (by omega)])
    · refine g_tabIn ok (by omega) d_Dk_shape_29 (by omega) (off := 103) (by rw [hw3]; rfl) 132 (by decide) ?_
      refine g_aload_n ok d_Dk_shape_132 rfl 0 rfl ?_
      refine gN_Sh_tally ok _ hK k_93 d_Dk_shape_133 ?_
      refine gN_Ty_places ok _ (ty_of hK) k_77 d_Dk_shape_136 ?_
      exact g_ipret ok d_Dk_shape_139 (by unfold shV; rw [if_neg (by omega), if_neg (by omega), if_neg (by omega), if_neg (by omega), if_neg (by omega), if_neg (by omega), if_neg (by omega), if_neg (by omega), if_neg (by omega)])
    · refine g_tabOut ok (by omega) d_Dk_shape_29 (by omega) 140 (by decide) ?_
      exact absurd hw3 (by omega)
  · exact absurd h2 (by omega)
theorem d_Dk_under_0 : decode b_Dk_under 0 = .ok (.iload_n 1, 1) := by decide +kernel
theorem d_Dk_under_1 : decode b_Dk_under 1 = .ok (.iload_n 2, 1) := by decide +kernel
theorem d_Dk_under_2 : decode b_Dk_under 2 = .ok (.invokestatic 94, 3) := by decide +kernel
theorem d_Dk_under_5 : decode b_Dk_under 5 = .ok (.ifCond .ne 13, 3) := by decide +kernel
theorem d_Dk_under_8 : decode b_Dk_under 8 = .ok (.new 80, 3) := by decide +kernel
theorem d_Dk_under_11 : decode b_Dk_under 11 = .ok (.dup, 1) := by decide +kernel
theorem d_Dk_under_12 : decode b_Dk_under 12 = .ok (.ldc 244, 2) := by decide +kernel
theorem d_Dk_under_14 : decode b_Dk_under 14 = .ok (.invokespecial 84, 3) := by decide +kernel
theorem d_Dk_under_17 : decode b_Dk_under 17 = .ok (.athrow, 1) := by decide +kernel
theorem d_Dk_under_18 : decode b_Dk_under 18 = .ok (.aload_n 0, 1) := by decide +kernel
theorem d_Dk_under_19 : decode b_Dk_under 19 = .ok (.getfield 67, 3) := by decide +kernel
theorem d_Dk_under_22 : decode b_Dk_under 22 = .ok (.iconst 1, 1) := by decide +kernel
theorem d_Dk_under_23 : decode b_Dk_under 23 = .ok (.isub, 1) := by decide +kernel
theorem d_Dk_under_24 : decode b_Dk_under 24 = .ok (.istore_n 3, 1) := by decide +kernel
theorem d_Dk_under_25 : decode b_Dk_under 25 = .ok (.iload_n 3, 1) := by decide +kernel
theorem d_Dk_under_26 : decode b_Dk_under 26 = .ok (.ifCond .lt 35, 3) := by decide +kernel
theorem d_Dk_under_29 : decode b_Dk_under 29 = .ok (.aload_n 0, 1) := by decide +kernel
theorem d_Dk_under_30 : decode b_Dk_under 30 = .ok (.getfield 11, 3) := by decide +kernel
theorem d_Dk_under_33 : decode b_Dk_under 33 = .ok (.aload_n 0, 1) := by decide +kernel
theorem d_Dk_under_34 : decode b_Dk_under 34 = .ok (.getfield 16, 3) := by decide +kernel
theorem d_Dk_under_37 : decode b_Dk_under 37 = .ok (.iload_n 3, 1) := by decide +kernel
theorem d_Dk_under_38 : decode b_Dk_under 38 = .ok (.iaload, 1) := by decide +kernel
theorem d_Dk_under_39 : decode b_Dk_under 39 = .ok (.aaload, 1) := by decide +kernel
theorem d_Dk_under_40 : decode b_Dk_under 40 = .ok (.iload_n 1, 1) := by decide +kernel
theorem d_Dk_under_41 : decode b_Dk_under 41 = .ok (.iload_n 2, 1) := by decide +kernel
theorem d_Dk_under_42 : decode b_Dk_under 42 = .ok (.invokevirtual 246, 3) := by decide +kernel
theorem d_Dk_under_45 : decode b_Dk_under 45 = .ok (.ifCond .eq 10, 3) := by decide +kernel
theorem d_Dk_under_48 : decode b_Dk_under 48 = .ok (.aload_n 0, 1) := by decide +kernel
theorem d_Dk_under_49 : decode b_Dk_under 49 = .ok (.getfield 16, 3) := by decide +kernel
theorem d_Dk_under_52 : decode b_Dk_under 52 = .ok (.iload_n 3, 1) := by decide +kernel
theorem d_Dk_under_53 : decode b_Dk_under 53 = .ok (.iaload, 1) := by decide +kernel
theorem d_Dk_under_54 : decode b_Dk_under 54 = .ok (.ireturn, 1) := by decide +kernel
theorem d_Dk_under_55 : decode b_Dk_under 55 = .ok (.iinc 3 (-1), 3) := by decide +kernel
theorem d_Dk_under_58 : decode b_Dk_under 58 = .ok (.goto (-33), 3) := by decide +kernel
theorem d_Dk_under_61 : decode b_Dk_under 61 = .ok (.iconst (-1), 1) := by decide +kernel
theorem d_Dk_under_62 : decode b_Dk_under 62 = .ok (.ireturn, 1) := by decide +kernel
set_option maxHeartbeats 1000000 in
set_option maxRecDepth 100000 in
theorem c_Dk_under (F : Nat → Nat → Int) (G : Nat → Int → Int) (x y : Int) (hU : inR x y) (ht : 0 ≤ F 0 8 ∧ F 0 8 ≤ 10) (hsq : ∀ j : Int, 0 ≤ j → j < F 0 8 → (0 ≤ G 222 j ∧ G 222 j < 10) ∧ shOk F G (shP G j)) : cP y_Dk_under b_Dk_under 4 (some .int) 6 82 F G (fun ad => [.ref (ad 0), .int (iI x), .int (iI y)]) (fun z => (∃ i : Int, (0 ≤ i ∧ i < F 0 8) ∧ z = G 222 i ∧ hasC F G (shP G i) x y ∧ ∀ j : Int, i < j → j < F 0 8 → ¬ hasC F G (shP G j) x y) ∨ (z = -1 ∧ ∀ j : Int, 0 ≤ j → j < F 0 8 → ¬ hasC F G (shP G j) x y)) := by
  have hU1 := hU
  unfold inR at hU1
  intro s0 a0 D t ad
  refine g_startP (by decide +kernel) (Nat.le_of_ble_eq_true rfl) (fun p l e R s m args below meth c A ok => ?_)
  show gW p l e R s m args below meth c _ D A 4 (gZ0 s) 0 0 ad 265 (mem ad t F G) 0 [(0, .ref (ad 0)), (1, .int (iI x)), (2, .int (iI y))] []
  refine g_iload_n ok d_Dk_under_0 rfl 1 rfl ?_
  refine g_iload_n ok d_Dk_under_1 rfl 2 rfl ?_
  refine g_callPS (As := [.int (iI x), .int (iI y)]) (st := []) ok (c_Dk_isPlace F G _ _ (by omega) (by omega) s0 a0 D t ad) k_789 k_1 k_787 k_788 q_Dk_isPlace (by decide) (Nat.le_of_ble_eq_true rfl) (by decide) d_Dk_under_2 (fun z1 hc1 => ?_)
  have hz1 : z1 = 1 := hc1.trans (if_pos (by omega))
  refine g_if_ne ok 18 d_Dk_under_5 (by decide) (by omega) (fun h2 => ?_) (fun h2 => ?_)
  · refine g_aload_n ok d_Dk_under_18 rfl 0 rfl ?_
    refine gI_Dk_shapeTotal ok _ rfl k_325 d_Dk_under_19 ?_
    refine g_iconst ok d_Dk_under_22 ?_
    refine g_isub ok d_Dk_under_23 ?_
    refine g_istore_n (lv' := [(3, .int (iI ((F 0 8) - 1))), (0, .ref (ad 0)), (1, .int (iI x)), (2, .int (iI y))]) ok d_Dk_under_24 rfl (by decide) rfl ?_
    have L_i : ∀ (n_i : Nat) (i : Int), (-1 ≤ i ∧ i < F 0 8) → (∀ j : Int, i < j → j < F 0 8 → ¬ hasC F G (shP G j) x y) → (i + 2) < (n_i : Int) → gW p l e R s m args below meth c (MQ below (gQp (fun z => (∃ i : Int, (0 ≤ i ∧ i < F 0 8) ∧ z = G 222 i ∧ hasC F G (shP G i) x y ∧ ∀ j : Int, i < j → j < F 0 8 → ¬ hasC F G (shP G j) x y) ∨ (z = -1 ∧ ∀ j : Int, 0 ≤ j → j < F 0 8 → ¬ hasC F G (shP G j) x y))) args s 0 0 (fun _ => False)) D A 4 (gZ0 s) 0 0 ad 265 (mem ad t F G) 25 [(0, .ref (ad 0)), (1, .int (iI x)), (2, .int (iI y)), (3, .int (iI i))] [] := by
      intro n_i
      induction n_i with
      | zero =>
        intro i hi hno hm_i
        exact absurd hm_i (by omega)
      | succ n_i ih_i =>
        intro i hi hno hm_i
        refine g_iload_n ok d_Dk_under_25 rfl 3 rfl ?_
        refine g_if_lt ok 61 d_Dk_under_26 (by decide) (by omega) (fun h3 => ?_) (fun h3 => ?_)
        · refine g_iconst ok d_Dk_under_61 ?_
          exact g_ipret ok d_Dk_under_62 (Or.inr ⟨rfl, fun j j1 j2 => hno j (by omega) j2⟩)
        · obtain ⟨hg0, hSi⟩ := hsq i (by omega) (by omega)
          refine g_aload_n ok d_Dk_under_29 rfl 0 rfl ?_
          refine gI_Dk_shapes ok _ rfl k_317 d_Dk_under_30 ?_
          refine g_aload_n ok d_Dk_under_33 rfl 0 rfl ?_
          refine gI_Dk_sequence ok _ rfl k_318 d_Dk_under_34 ?_
          refine g_iload_n ok d_Dk_under_37 rfl 3 rfl ?_
          refine h_iald ok _ a_222 (by omega) d_Dk_under_38 ?_
          refine h_shapes ok (by omega) d_Dk_under_39 ?_
          refine g_iload_n ok d_Dk_under_40 rfl 1 rfl ?_
          refine g_iload_n ok d_Dk_under_41 rfl 2 rfl ?_
          refine g_callPVN (As := [.int (iI x), .int (iI y)]) (st := []) ok _ (c_Sh_has F G _ _ _ hSi.1 hSi.2.1 hSi.2.2.1 hU.1 hU.2 s0 a0 D t ad) k_519 k_2 k_973 cl_Sh (m_Sh (ad := ad) (t := t) (F := F) (G := G) hSi.1).1 (m_Sh hSi.1).2 k_518 s_Sh_has q_Sh_has (by decide) (Nat.le_of_ble_eq_true rfl) (by decide) d_Dk_under_42 (fun z4 hc4 => ?_)
          have hz01 := hc4.1
          have hzR : z4 = 1 ↔ hasC F G (shP G i) x y := hc4.2.trans ⟨fun z => ⟨hU, z⟩, fun z => z.2⟩
          refine g_if_eq ok 55 d_Dk_under_45 (by decide) (by omega) (fun h5 => ?_) (fun h5 => ?_)
          · refine g_iinc (lv' := [(3, .int (iI (i + (-1)))), (0, .ref (ad 0)), (1, .int (iI x)), (2, .int (iI y))]) ok d_Dk_under_55 3 rfl (by decide) rfl ?_
            refine g_goto ok 25 d_Dk_under_58 (by decide) ?_
            refine g_lv [1, 2, 3, 0] rfl ?_
            exact ih_i (i + (-1)) (by omega) (fun j z1 z2 => by by_cases y1 : j = i; subst y1; exact fun y2 => absurd (hzR.mpr y2) (by omega); exact hno j (by omega) z2) (by omega)
          · refine g_aload_n ok d_Dk_under_48 rfl 0 rfl ?_
            refine gI_Dk_sequence ok _ rfl k_318 d_Dk_under_49 ?_
            refine g_iload_n ok d_Dk_under_52 rfl 3 rfl ?_
            refine h_iald ok _ a_222 (by omega) d_Dk_under_53 ?_
            exact g_ipret ok d_Dk_under_54 (Or.inl ⟨i, by omega, rfl, hzR.mp (by omega), hno⟩)
    refine g_lv [1, 2, 3, 0] rfl ?_
    exact L_i ((((F 0 8) - 1) + 2 : Int).toNat + 1) ((F 0 8) - 1) (by omega) (fun j z1 z2 => by omega) (by omega)
  · exact absurd h2 (by omega)
