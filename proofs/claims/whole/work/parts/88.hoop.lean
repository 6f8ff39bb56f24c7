/-! hoop, under, stitch and shape of the reference -/
theorem d_Mo_hoop_0 : decode b_Mo_hoop 0 = .ok (.aload_n 0, 1) := by decide +kernel
theorem d_Mo_hoop_1 : decode b_Mo_hoop 1 = .ok (.iconst 0, 1) := by decide +kernel
theorem d_Mo_hoop_2 : decode b_Mo_hoop 2 = .ok (.putfield 7, 3) := by decide +kernel
theorem d_Mo_hoop_5 : decode b_Mo_hoop 5 = .ok (.iconst 0, 1) := by decide +kernel
theorem d_Mo_hoop_6 : decode b_Mo_hoop 6 = .ok (.istore_n 3, 1) := by decide +kernel
theorem d_Mo_hoop_7 : decode b_Mo_hoop 7 = .ok (.iconst 0, 1) := by decide +kernel
theorem d_Mo_hoop_8 : decode b_Mo_hoop 8 = .ok (.istore 4, 2) := by decide +kernel
theorem d_Mo_hoop_10 : decode b_Mo_hoop 10 = .ok (.iconst 0, 1) := by decide +kernel
theorem d_Mo_hoop_11 : decode b_Mo_hoop 11 = .ok (.istore 5, 2) := by decide +kernel
theorem d_Mo_hoop_13 : decode b_Mo_hoop 13 = .ok (.iconst 0, 1) := by decide +kernel
theorem d_Mo_hoop_14 : decode b_Mo_hoop 14 = .ok (.istore 6, 2) := by decide +kernel
theorem d_Mo_hoop_16 : decode b_Mo_hoop 16 = .ok (.iconst 0, 1) := by decide +kernel
theorem d_Mo_hoop_17 : decode b_Mo_hoop 17 = .ok (.istore 7, 2) := by decide +kernel
theorem d_Mo_hoop_19 : decode b_Mo_hoop 19 = .ok (.iconst 0, 1) := by decide +kernel
theorem d_Mo_hoop_20 : decode b_Mo_hoop 20 = .ok (.istore 8, 2) := by decide +kernel
theorem d_Mo_hoop_22 : decode b_Mo_hoop 22 = .ok (.iconst 0, 1) := by decide +kernel
theorem d_Mo_hoop_23 : decode b_Mo_hoop 23 = .ok (.istore 9, 2) := by decide +kernel
theorem d_Mo_hoop_25 : decode b_Mo_hoop 25 = .ok (.iload 9, 2) := by decide +kernel
theorem d_Mo_hoop_27 : decode b_Mo_hoop 27 = .ok (.aload_n 0, 1) := by decide +kernel
theorem d_Mo_hoop_28 : decode b_Mo_hoop 28 = .ok (.getfield 73, 3) := by decide +kernel
theorem d_Mo_hoop_31 : decode b_Mo_hoop 31 = .ok (.if_icmp .ge 71, 3) := by decide +kernel
theorem d_Mo_hoop_34 : decode b_Mo_hoop 34 = .ok (.iload_n 3, 1) := by decide +kernel
theorem d_Mo_hoop_35 : decode b_Mo_hoop 35 = .ok (.aload_n 0, 1) := by decide +kernel
theorem d_Mo_hoop_36 : decode b_Mo_hoop 36 = .ok (.getfield 76, 3) := by decide +kernel
theorem d_Mo_hoop_39 : decode b_Mo_hoop 39 = .ok (.iload 9, 2) := by decide +kernel
theorem d_Mo_hoop_41 : decode b_Mo_hoop 41 = .ok (.iaload, 1) := by decide +kernel
theorem d_Mo_hoop_42 : decode b_Mo_hoop 42 = .ok (.iadd, 1) := by decide +kernel
theorem d_Mo_hoop_43 : decode b_Mo_hoop 43 = .ok (.istore_n 3, 1) := by decide +kernel
theorem d_Mo_hoop_44 : decode b_Mo_hoop 44 = .ok (.iload 4, 2) := by decide +kernel
theorem d_Mo_hoop_46 : decode b_Mo_hoop 46 = .ok (.aload_n 0, 1) := by decide +kernel
theorem d_Mo_hoop_47 : decode b_Mo_hoop 47 = .ok (.getfield 79, 3) := by decide +kernel
theorem d_Mo_hoop_50 : decode b_Mo_hoop 50 = .ok (.iload 9, 2) := by decide +kernel
theorem d_Mo_hoop_52 : decode b_Mo_hoop 52 = .ok (.iaload, 1) := by decide +kernel
theorem d_Mo_hoop_53 : decode b_Mo_hoop 53 = .ok (.iadd, 1) := by decide +kernel
theorem d_Mo_hoop_54 : decode b_Mo_hoop 54 = .ok (.istore 4, 2) := by decide +kernel
theorem d_Mo_hoop_56 : decode b_Mo_hoop 56 = .ok (.iload_n 3, 1) := by decide +kernel
theorem d_Mo_hoop_57 : decode b_Mo_hoop 57 = .ok (.iload 5, 2) := by decide +kernel
theorem d_Mo_hoop_59 : decode b_Mo_hoop 59 = .ok (.if_icmp .ge 6, 3) := by decide +kernel
theorem d_Mo_hoop_62 : decode b_Mo_hoop 62 = .ok (.iload_n 3, 1) := by decide +kernel
theorem d_Mo_hoop_63 : decode b_Mo_hoop 63 = .ok (.istore 5, 2) := by decide +kernel
theorem d_Mo_hoop_65 : decode b_Mo_hoop 65 = .ok (.iload_n 3, 1) := by decide +kernel
theorem d_Mo_hoop_66 : decode b_Mo_hoop 66 = .ok (.iload 7, 2) := by decide +kernel
theorem d_Mo_hoop_68 : decode b_Mo_hoop 68 = .ok (.if_icmp .le 6, 3) := by decide +kernel
theorem d_Mo_hoop_71 : decode b_Mo_hoop 71 = .ok (.iload_n 3, 1) := by decide +kernel
theorem d_Mo_hoop_72 : decode b_Mo_hoop 72 = .ok (.istore 7, 2) := by decide +kernel
theorem d_Mo_hoop_74 : decode b_Mo_hoop 74 = .ok (.iload 4, 2) := by decide +kernel
theorem d_Mo_hoop_76 : decode b_Mo_hoop 76 = .ok (.iload 6, 2) := by decide +kernel
theorem d_Mo_hoop_78 : decode b_Mo_hoop 78 = .ok (.if_icmp .ge 7, 3) := by decide +kernel
theorem d_Mo_hoop_81 : decode b_Mo_hoop 81 = .ok (.iload 4, 2) := by decide +kernel
theorem d_Mo_hoop_83 : decode b_Mo_hoop 83 = .ok (.istore 6, 2) := by decide +kernel
theorem d_Mo_hoop_85 : decode b_Mo_hoop 85 = .ok (.iload 4, 2) := by decide +kernel
theorem d_Mo_hoop_87 : decode b_Mo_hoop 87 = .ok (.iload 8, 2) := by decide +kernel
theorem d_Mo_hoop_89 : decode b_Mo_hoop 89 = .ok (.if_icmp .le 7, 3) := by decide +kernel
theorem d_Mo_hoop_92 : decode b_Mo_hoop 92 = .ok (.iload 4, 2) := by decide +kernel
theorem d_Mo_hoop_94 : decode b_Mo_hoop 94 = .ok (.istore 8, 2) := by decide +kernel
theorem d_Mo_hoop_96 : decode b_Mo_hoop 96 = .ok (.iinc 9 1, 3) := by decide +kernel
theorem d_Mo_hoop_99 : decode b_Mo_hoop 99 = .ok (.goto (-74), 3) := by decide +kernel
theorem d_Mo_hoop_102 : decode b_Mo_hoop 102 = .ok (.iload 7, 2) := by decide +kernel
theorem d_Mo_hoop_104 : decode b_Mo_hoop 104 = .ok (.iload 5, 2) := by decide +kernel
theorem d_Mo_hoop_106 : decode b_Mo_hoop 106 = .ok (.isub, 1) := by decide +kernel
theorem d_Mo_hoop_107 : decode b_Mo_hoop 107 = .ok (.iload_n 1, 1) := by decide +kernel
theorem d_Mo_hoop_108 : decode b_Mo_hoop 108 = .ok (.if_icmp .gt 16, 3) := by decide +kernel
theorem d_Mo_hoop_111 : decode b_Mo_hoop 111 = .ok (.iload 8, 2) := by decide +kernel
theorem d_Mo_hoop_113 : decode b_Mo_hoop 113 = .ok (.iload 6, 2) := by decide +kernel
theorem d_Mo_hoop_115 : decode b_Mo_hoop 115 = .ok (.isub, 1) := by decide +kernel
theorem d_Mo_hoop_116 : decode b_Mo_hoop 116 = .ok (.iload_n 2, 1) := by decide +kernel
theorem d_Mo_hoop_117 : decode b_Mo_hoop 117 = .ok (.if_icmp .gt 7, 3) := by decide +kernel
theorem d_Mo_hoop_120 : decode b_Mo_hoop 120 = .ok (.iconst 1, 1) := by decide +kernel
theorem d_Mo_hoop_121 : decode b_Mo_hoop 121 = .ok (.goto 4, 3) := by decide +kernel
theorem d_Mo_hoop_124 : decode b_Mo_hoop 124 = .ok (.iconst 0, 1) := by decide +kernel
theorem d_Mo_hoop_125 : decode b_Mo_hoop 125 = .ok (.ireturn, 1) := by decide +kernel
set_option maxHeartbeats 1000000 in
set_option maxRecDepth 100000 in
theorem c_Mo_hoop (F : Nat → Nat → Int) (G : Nat → Int → Int) (w h : Int) (hw : -2147483648 ≤ w ∧ w < 2147483648) (hh : -2147483648 ≤ h ∧ h < 2147483648) (hp : mRec F G) : cI y_Mo_hoop b_Mo_hoop 10 (some .boolean) 0 0 F G (fun ad => [.ref (ad 244), .int (iI w), .int (iI h)]) (fun z F' G' => F' = (fU F 244 0 0) ∧ G' = G ∧ z = if pmax (G 258) (F 244 20).toNat - pmin (G 258) (F 244 20).toNat ≤ w ∧ pmax (G 259) (F 244 20).toNat - pmin (G 259) (F 244 20).toNat ≤ h then 1 else 0) := by
  obtain ⟨hn, hC⟩ := hp
  intro s0 a0 D t ad
  refine g_startI (by decide +kernel) (Nat.le_of_ble_eq_true rfl) (fun p l e R s m args below meth c A ok => ?_)
  show gW p l e R s m args below meth c _ D A 10 (gZ0 s) 0 0 ad 265 (mem ad t F G) 0 [(0, .ref (ad 244)), (1, .int (iI w)), (2, .int (iI h))] []
  refine g_aload_n ok d_Mo_hoop_0 rfl 0 rfl ?_
  refine g_iconst ok d_Mo_hoop_1 ?_
  refine pI_Mo_thrownCode ok _ rfl k_989 d_Mo_hoop_2 ?_
  refine g_iconst ok d_Mo_hoop_5 ?_
  refine g_istore_n (lv' := [(3, .int (iI 0)), (0, .ref (ad 244)), (1, .int (iI w)), (2, .int (iI h))]) ok d_Mo_hoop_6 rfl (by decide) rfl ?_
  refine g_iconst ok d_Mo_hoop_7 ?_
  refine g_istore (lv' := [(4, .int (iI 0)), (3, .int (iI 0)), (0, .ref (ad 244)), (1, .int (iI w)), (2, .int (iI h))]) ok d_Mo_hoop_8 (by decide) rfl ?_
  refine g_iconst ok d_Mo_hoop_10 ?_
  refine g_istore (lv' := [(5, .int (iI 0)), (4, .int (iI 0)), (3, .int (iI 0)), (0, .ref (ad 244)), (1, .int (iI w)), (2, .int (iI h))]) ok d_Mo_hoop_11 (by decide) rfl ?_
  refine g_iconst ok d_Mo_hoop_13 ?_
  refine g_istore (lv' := [(6, .int (iI 0)), (5, .int (iI 0)), (4, .int (iI 0)), (3, .int (iI 0)), (0, .ref (ad 244)), (1, .int (iI w)), (2, .int (iI h))]) ok d_Mo_hoop_14 (by decide) rfl ?_
  refine g_iconst ok d_Mo_hoop_16 ?_
  refine g_istore (lv' := [(7, .int (iI 0)), (6, .int (iI 0)), (5, .int (iI 0)), (4, .int (iI 0)), (3, .int (iI 0)), (0, .ref (ad 244)), (1, .int (iI w)), (2, .int (iI h))]) ok d_Mo_hoop_17 (by decide) rfl ?_
  refine g_iconst ok d_Mo_hoop_19 ?_
  refine g_istore (lv' := [(8, .int (iI 0)), (7, .int (iI 0)), (6, .int (iI 0)), (5, .int (iI 0)), (4, .int (iI 0)), (3, .int (iI 0)), (0, .ref (ad 244)), (1, .int (iI w)), (2, .int (iI h))]) ok d_Mo_hoop_20 (by decide) rfl ?_
  refine g_iconst ok d_Mo_hoop_22 ?_
  refine g_istore (lv' := [(9, .int (iI 0)), (8, .int (iI 0)), (7, .int (iI 0)), (6, .int (iI 0)), (5, .int (iI 0)), (4, .int (iI 0)), (3, .int (iI 0)), (0, .ref (ad 244)), (1, .int (iI w)), (2, .int (iI h))]) ok d_Mo_hoop_23 (by decide) rfl ?_
  have L_i : ∀ (n_i : Nat) (x : Int) (y : Int) (lx : Int) (ly : Int) (ux : Int) (uy : Int) (i : Int), (0 ≤ i ∧ i ≤ F 244 20) → ((-200 * i ≤ x ∧ x ≤ 200 * i) ∧ (-200 * i ≤ y ∧ y ≤ 200 * i) ∧ (-200 * i ≤ lx ∧ lx ≤ 0) ∧ (0 ≤ ux ∧ ux ≤ 200 * i) ∧ (-200 * i ≤ ly ∧ ly ≤ 0) ∧ (0 ≤ uy ∧ uy ≤ 200 * i)) → (x = sumN (G 258) i.toNat ∧ y = sumN (G 259) i.toNat ∧ lx = pmin (G 258) i.toNat ∧ ux = pmax (G 258) i.toNat ∧ ly = pmin (G 259) i.toNat ∧ uy = pmax (G 259) i.toNat) → (F 244 20 + 1 - i) < (n_i : Int) → gW p l e R s m args below meth c (MQ below (gQi D A ad 265 (fun z ce' => ∃ F' G', ce' = mem ad t F' G' ∧ (fun z F' G' => F' = (fU F 244 0 0) ∧ G' = G ∧ z = if pmax (G 258) (F 244 20).toNat - pmin (G 258) (F 244 20).toNat ≤ w ∧ pmax (G 259) (F 244 20).toNat - pmin (G 259) (F 244 20).toNat ≤ h then 1 else 0) z F' G')) args s 0 0 A) D A 10 (gZ) 0 0 ad 265 (mem ad t (fU F 244 0 0) G) 25 [(0, .ref (ad 244)), (1, .int (iI w)), (2, .int (iI h)), (3, .int (iI x)), (4, .int (iI y)), (5, .int (iI lx)), (6, .int (iI ly)), (7, .int (iI ux)), (8, .int (iI uy)), (9, .int (iI i))] [] := by
    intro n_i
    induction n_i with
    | zero =>
      intro x y lx ly ux uy i hi hb hv hm_i
      exact absurd hm_i (by omega)
    | succ n_i ih_i =>
      intro x y lx ly ux uy i hi hb hv hm_i
      refine g_iload ok d_Mo_hoop_25 9 rfl ?_
      refine g_aload_n ok d_Mo_hoop_27 rfl 0 rfl ?_
      refine gI_Mo_records ok _ rfl k_1009 d_Mo_hoop_28 ?_
      refine g_top (y := F 244 20) (by show (fU F 244 0 0) 244 20 = _; rw [fU_ja (show (20 : Nat) ≠ 0 by decide)]) ?_
      refine g_icmp_ge ok 102 d_Mo_hoop_31 (by decide) (by omega) (by omega) (fun h1 => ?_) (fun h1 => ?_)
      · have ei : (F 244 20).toNat = i.toNat := by omega
        obtain ⟨v1, v2, v3, v4, v5, v6⟩ := hv
        refine g_iload ok d_Mo_hoop_102 7 rfl ?_
        refine g_iload ok d_Mo_hoop_104 5 rfl ?_
        refine g_isub ok d_Mo_hoop_106 ?_
        refine g_iload_n ok d_Mo_hoop_107 rfl 1 rfl ?_
        refine g_icmp_gt ok 124 d_Mo_hoop_108 (by decide) (by omega) (by omega) (fun h2 => ?_) (fun h2 => ?_)
        · refine g_iconst ok d_Mo_hoop_124 ?_
          exact g_zret ok d_Mo_hoop_125 (by first | exact Or.inl rfl | exact Or.inr rfl | omega) ⟨_, _, rfl, rfl, rfl, by rw [ei, ← v3, ← v4, ← v5, ← v6]; split <;> omega⟩
        · refine g_iload ok d_Mo_hoop_111 8 rfl ?_
          refine g_iload ok d_Mo_hoop_113 6 rfl ?_
          refine g_isub ok d_Mo_hoop_115 ?_
          refine g_iload_n ok d_Mo_hoop_116 rfl 2 rfl ?_
          refine g_icmp_gt ok 124 d_Mo_hoop_117 (by decide) (by omega) (by omega) (fun h3 => ?_) (fun h3 => ?_)
          · refine g_iconst ok d_Mo_hoop_124 ?_
            exact g_zret ok d_Mo_hoop_125 (by first | exact Or.inl rfl | exact Or.inr rfl | omega) ⟨_, _, rfl, rfl, rfl, by rw [ei, ← v3, ← v4, ← v5, ← v6]; split <;> omega⟩
          · refine g_iconst ok d_Mo_hoop_120 ?_
            refine g_goto ok 125 d_Mo_hoop_121 (by decide) ?_
            exact g_zret ok d_Mo_hoop_125 (by first | exact Or.inl rfl | exact Or.inr rfl | omega) ⟨_, _, rfl, rfl, rfl, by rw [ei, ← v3, ← v4, ← v5, ← v6]; split <;> omega⟩
      · have hci := hC i (by omega) (by omega)
        refine g_iload_n ok d_Mo_hoop_34 rfl 3 rfl ?_
        refine g_aload_n ok d_Mo_hoop_35 rfl 0 rfl ?_
        refine gI_Mo_dx ok _ rfl k_1010 d_Mo_hoop_36 ?_
        refine g_iload ok d_Mo_hoop_39 9 rfl ?_
        refine h_iald ok _ a_258 (by omega) d_Mo_hoop_41 ?_
        refine g_iadd ok d_Mo_hoop_42 ?_
        refine g_istore_n (lv' := [(3, .int (iI (x + (G 258 i)))), (0, .ref (ad 244)), (1, .int (iI w)), (2, .int (iI h)), (4, .int (iI y)), (5, .int (iI lx)), (6, .int (iI ly)), (7, .int (iI ux)), (8, .int (iI uy)), (9, .int (iI i))]) ok d_Mo_hoop_43 rfl (by decide) rfl ?_
        refine g_iload ok d_Mo_hoop_44 4 rfl ?_
        refine g_aload_n ok d_Mo_hoop_46 rfl 1 rfl ?_
        refine gI_Mo_dy ok _ rfl k_1011 d_Mo_hoop_47 ?_
        refine g_iload ok d_Mo_hoop_50 9 rfl ?_
        refine h_iald ok _ a_259 (by omega) d_Mo_hoop_52 ?_
        refine g_iadd ok d_Mo_hoop_53 ?_
        refine g_istore (lv' := [(4, .int (iI (y + (G 259 i)))), (3, .int (iI (x + (G 258 i)))), (0, .ref (ad 244)), (1, .int (iI w)), (2, .int (iI h)), (5, .int (iI lx)), (6, .int (iI ly)), (7, .int (iI ux)), (8, .int (iI uy)), (9, .int (iI i))]) ok d_Mo_hoop_54 (by decide) rfl ?_
        have J_l1 : ∀ (lx1 : Int), (lx1 = min lx (x + G 258 i)) → gW p l e R s m args below meth c (MQ below (gQi D A ad 265 (fun z ce' => ∃ F' G', ce' = mem ad t F' G' ∧ (fun z F' G' => F' = (fU F 244 0 0) ∧ G' = G ∧ z = if pmax (G 258) (F 244 20).toNat - pmin (G 258) (F 244 20).toNat ≤ w ∧ pmax (G 259) (F 244 20).toNat - pmin (G 259) (F 244 20).toNat ≤ h then 1 else 0) z F' G')) args s 0 0 A) D A 10 (gZ) 0 0 ad 265 (mem ad t (fU F 244 0 0) G) 65 [(0, .ref (ad 244)), (1, .int (iI w)), (2, .int (iI h)), (3, .int (iI (x + G 258 i))), (4, .int (iI (y + G 259 i))), (5, .int (iI lx1)), (6, .int (iI ly)), (7, .int (iI ux)), (8, .int (iI uy)), (9, .int (iI i))] [] := by
          intro lx1 e1
          have J_u1 : ∀ (ux1 : Int), (ux1 = max ux (x + G 258 i)) → gW p l e R s m args below meth c (MQ below (gQi D A ad 265 (fun z ce' => ∃ F' G', ce' = mem ad t F' G' ∧ (fun z F' G' => F' = (fU F 244 0 0) ∧ G' = G ∧ z = if pmax (G 258) (F 244 20).toNat - pmin (G 258) (F 244 20).toNat ≤ w ∧ pmax (G 259) (F 244 20).toNat - pmin (G 259) (F 244 20).toNat ≤ h then 1 else 0) z F' G')) args s 0 0 A) D A 10 (gZ) 0 0 ad 265 (mem ad t (fU F 244 0 0) G) 74 [(0, .ref (ad 244)), (1, .int (iI w)), (2, .int (iI h)), (3, .int (iI (x + G 258 i))), (4, .int (iI (y + G 259 i))), (5, .int (iI lx1)), (6, .int (iI ly)), (7, .int (iI ux1)), (8, .int (iI uy)), (9, .int (iI i))] [] := by
            intro ux1 e2
            have J_l2 : ∀ (ly1 : Int), (ly1 = min ly (y + G 259 i)) → gW p l e R s m args below meth c (MQ below (gQi D A ad 265 (fun z ce' => ∃ F' G', ce' = mem ad t F' G' ∧ (fun z F' G' => F' = (fU F 244 0 0) ∧ G' = G ∧ z = if pmax (G 258) (F 244 20).toNat - pmin (G 258) (F 244 20).toNat ≤ w ∧ pmax (G 259) (F 244 20).toNat - pmin (G 259) (F 244 20).toNat ≤ h then 1 else 0) z F' G')) args s 0 0 A) D A 10 (gZ) 0 0 ad 265 (mem ad t (fU F 244 0 0) G) 85 [(0, .ref (ad 244)), (1, .int (iI w)), (2, .int (iI h)), (3, .int (iI (x + G 258 i))), (4, .int (iI (y + G 259 i))), (5, .int (iI lx1)), (6, .int (iI ly1)), (7, .int (iI ux1)), (8, .int (iI uy)), (9, .int (iI i))] [] := by
              intro ly1 e3
              have J_u2 : ∀ (uy1 : Int), (uy1 = max uy (y + G 259 i)) → gW p l e R s m args below meth c (MQ below (gQi D A ad 265 (fun z ce' => ∃ F' G', ce' = mem ad t F' G' ∧ (fun z F' G' => F' = (fU F 244 0 0) ∧ G' = G ∧ z = if pmax (G 258) (F 244 20).toNat - pmin (G 258) (F 244 20).toNat ≤ w ∧ pmax (G 259) (F 244 20).toNat - pmin (G 259) (F 244 20).toNat ≤ h then 1 else 0) z F' G')) args s 0 0 A) D A 10 (gZ) 0 0 ad 265 (mem ad t (fU F 244 0 0) G) 96 [(0, .ref (ad 244)), (1, .int (iI w)), (2, .int (iI h)), (3, .int (iI (x + G 258 i))), (4, .int (iI (y + G 259 i))), (5, .int (iI lx1)), (6, .int (iI ly1)), (7, .int (iI ux1)), (8, .int (iI uy1)), (9, .int (iI i))] [] := by
                intro uy1 e4
                refine g_iinc (lv' := [(9, .int (iI (i + 1))), (0, .ref (ad 244)), (1, .int (iI w)), (2, .int (iI h)), (3, .int (iI (x + G 258 i))), (4, .int (iI (y + G 259 i))), (5, .int (iI lx1)), (6, .int (iI ly1)), (7, .int (iI ux1)), (8, .int (iI uy1))]) ok d_Mo_hoop_96 9 rfl (by decide) rfl ?_
                refine g_goto ok 25 d_Mo_hoop_99 (by decide) ?_
                refine g_lv [1, 2, 3, 4, 5, 6, 7, 8, 9, 0] rfl ?_
                exact ih_i (x + G 258 i) (y + G 259 i) lx1 ly1 ux1 uy1 (i + 1) (by omega) (by omega) (by obtain ⟨v1, v2, v3, v4, v5, v6⟩ := hv; rw [pmin_step hi.1, pmin_step hi.1, pmax_step hi.1, pmax_step hi.1, sumN_step hi.1, sumN_step hi.1, ← v1, ← v2, ← v3, ← v4, ← v5, ← v6]; exact ⟨rfl, rfl, e1, e2, e3, e4⟩) (by omega)
              refine g_iload ok d_Mo_hoop_85 4 rfl ?_
              refine g_iload ok d_Mo_hoop_87 8 rfl ?_
              refine g_icmp_le ok 96 d_Mo_hoop_89 (by decide) (by omega) (by omega) (fun h4 => ?_) (fun h4 => ?_)
              · refine g_z ?_
                exact J_u2 uy (by omega)
              · refine g_iload ok d_Mo_hoop_92 4 rfl ?_
                refine g_istore (lv' := [(8, .int (iI (y + G 259 i))), (0, .ref (ad 244)), (1, .int (iI w)), (2, .int (iI h)), (3, .int (iI (x + G 258 i))), (4, .int (iI (y + G 259 i))), (5, .int (iI lx1)), (6, .int (iI ly1)), (7, .int (iI ux1)), (9, .int (iI i))]) ok d_Mo_hoop_94 (by decide) rfl ?_
                refine g_z ?_
                refine g_lv [1, 2, 3, 4, 5, 6, 7, 8, 0, 9] rfl ?_
                exact J_u2 (y + G 259 i) (by omega)
            refine g_iload ok d_Mo_hoop_74 4 rfl ?_
            refine g_iload ok d_Mo_hoop_76 6 rfl ?_
            refine g_icmp_ge ok 85 d_Mo_hoop_78 (by decide) (by omega) (by omega) (fun h5 => ?_) (fun h5 => ?_)
            · refine g_z ?_
              exact J_l2 ly (by omega)
            · refine g_iload ok d_Mo_hoop_81 4 rfl ?_
              refine g_istore (lv' := [(6, .int (iI (y + G 259 i))), (0, .ref (ad 244)), (1, .int (iI w)), (2, .int (iI h)), (3, .int (iI (x + G 258 i))), (4, .int (iI (y + G 259 i))), (5, .int (iI lx1)), (7, .int (iI ux1)), (8, .int (iI uy)), (9, .int (iI i))]) ok d_Mo_hoop_83 (by decide) rfl ?_
              refine g_z ?_
              refine g_lv [1, 2, 3, 4, 5, 6, 0, 7, 8, 9] rfl ?_
              exact J_l2 (y + G 259 i) (by omega)
          refine g_iload_n ok d_Mo_hoop_65 rfl 3 rfl ?_
          refine g_iload ok d_Mo_hoop_66 7 rfl ?_
          refine g_icmp_le ok 74 d_Mo_hoop_68 (by decide) (by omega) (by omega) (fun h6 => ?_) (fun h6 => ?_)
          · refine g_z ?_
            exact J_u1 ux (by omega)
          · refine g_iload_n ok d_Mo_hoop_71 rfl 3 rfl ?_
            refine g_istore (lv' := [(7, .int (iI (x + G 258 i))), (0, .ref (ad 244)), (1, .int (iI w)), (2, .int (iI h)), (3, .int (iI (x + G 258 i))), (4, .int (iI (y + G 259 i))), (5, .int (iI lx1)), (6, .int (iI ly)), (8, .int (iI uy)), (9, .int (iI i))]) ok d_Mo_hoop_72 (by decide) rfl ?_
            refine g_z ?_
            refine g_lv [1, 2, 3, 4, 5, 6, 7, 0, 8, 9] rfl ?_
            exact J_u1 (x + G 258 i) (by omega)
        refine g_iload_n ok d_Mo_hoop_56 rfl 1 rfl ?_
        refine g_iload ok d_Mo_hoop_57 5 rfl ?_
        refine g_icmp_ge ok 65 d_Mo_hoop_59 (by decide) (by omega) (by omega) (fun h7 => ?_) (fun h7 => ?_)
        · refine g_z ?_
          refine g_lv [2, 3, 4, 1, 0, 5, 6, 7, 8, 9] rfl ?_
          exact J_l1 lx (by omega)
        · refine g_iload_n ok d_Mo_hoop_62 rfl 1 rfl ?_
          refine g_istore (lv' := [(5, .int (iI (x + (G 258 i)))), (4, .int (iI (y + (G 259 i)))), (3, .int (iI (x + (G 258 i)))), (0, .ref (ad 244)), (1, .int (iI w)), (2, .int (iI h)), (6, .int (iI ly)), (7, .int (iI ux)), (8, .int (iI uy)), (9, .int (iI i))]) ok d_Mo_hoop_63 (by decide) rfl ?_
          refine g_z ?_
          refine g_lv [3, 4, 5, 2, 1, 0, 6, 7, 8, 9] rfl ?_
          exact J_l1 (x + (G 258 i)) (by omega)
  refine g_z ?_
  refine g_lv [7, 8, 9, 6, 5, 4, 3, 2, 1, 0] rfl ?_
  exact L_i ((F 244 20 + 1 - 0 : Int).toNat + 1) 0 0 0 0 0 0 0 (by omega) (by omega) (⟨rfl, rfl, rfl, rfl, rfl, rfl⟩) (by omega)
