/-! the reference's outline and satin -/
theorem sn_ne {E : List Ev} {e : Ev} : ¬ E ++ [e] = [] := by simp
theorem oEv_len (X Y : Int → Int) : ∀ j : Nat, (oEv X Y j).length = j
  | 0 => rfl
  | j + 1 => by
    show (oEv X Y j ++ [_]).length = _
    rw [List.length_append, oEv_len X Y j]
    rfl
def mXr (G : Nat → Int → Int) (sn r : Int) : Int → Int := fun i => G 247 (96 * sn + 24 * r + i)
def mYr (G : Nat → Int → Int) (sn r : Int) : Int → Int := fun i => G 248 (96 * sn + 24 * r + i)
def outM (G : Nat → Int → Int) (sn : Int) (r : Nat) : List Ev := oAll (fun q => mXr G sn (q : Int)) (fun q => mYr G sn (q : Int)) (fun q => G 246 (4 * sn + (q : Int))) r
theorem outM_step {G : Nat → Int → Int} {sn r : Int} (h : 0 ≤ r) : outM G sn (r + 1).toNat = outM G sn r.toNat ++ oRing (mXr G sn r) (mYr G sn r) (G 246 (4 * sn + r)) := by
  unfold outM
  rw [oAll_step h]
  show _ ++ oRing (mXr G sn ((r.toNat : Nat) : Int)) (mYr G sn ((r.toNat : Nat) : Int)) (G 246 (4 * sn + ((r.toNat : Nat) : Int))) = _
  rw [show ((r.toNat : Nat) : Int) = r by omega]
theorem oRing_len {X Y : Int → Int} {n : Int} (h : n ≤ 24) : ((oRing X Y n).length : Int) ≤ 25 := by
  by_cases c : 0 < n
  · rw [oRing_n c, len_snoc, oEv_len]
    omega
  · rw [oRing_0 c]
    decide
theorem sgE_len (X0 Y0 X1 Y1 : Int → Int) (i m : Int) : ∀ j : Nat, (sgE X0 Y0 X1 Y1 i m j).length = 2 * j
  | 0 => rfl
  | j + 1 => by
    show ((sgE X0 Y0 X1 Y1 i m j ++ [_]) ++ [_]).length = _
    rw [List.length_append, List.length_append, sgE_len X0 Y0 X1 Y1 i m j]
    show 2 * j + 1 + 1 = 2 * (j + 1)
    omega
theorem d_Mo_outline_0 : decode b_Mo_outline 0 = .ok (.iconst 0, 1) := by decide +kernel
theorem d_Mo_outline_1 : decode b_Mo_outline 1 = .ok (.istore_n 2, 1) := by decide +kernel
theorem d_Mo_outline_2 : decode b_Mo_outline 2 = .ok (.iload_n 2, 1) := by decide +kernel
theorem d_Mo_outline_3 : decode b_Mo_outline 3 = .ok (.iconst 4, 1) := by decide +kernel
theorem d_Mo_outline_4 : decode b_Mo_outline 4 = .ok (.if_icmp .ge 105, 3) := by decide +kernel
theorem d_Mo_outline_7 : decode b_Mo_outline 7 = .ok (.aload_n 0, 1) := by decide +kernel
theorem d_Mo_outline_8 : decode b_Mo_outline 8 = .ok (.getfield 24, 3) := by decide +kernel
theorem d_Mo_outline_11 : decode b_Mo_outline 11 = .ok (.iconst 4, 1) := by decide +kernel
theorem d_Mo_outline_12 : decode b_Mo_outline 12 = .ok (.iload_n 1, 1) := by decide +kernel
theorem d_Mo_outline_13 : decode b_Mo_outline 13 = .ok (.imul, 1) := by decide +kernel
theorem d_Mo_outline_14 : decode b_Mo_outline 14 = .ok (.iload_n 2, 1) := by decide +kernel
theorem d_Mo_outline_15 : decode b_Mo_outline 15 = .ok (.iadd, 1) := by decide +kernel
theorem d_Mo_outline_16 : decode b_Mo_outline 16 = .ok (.iaload, 1) := by decide +kernel
theorem d_Mo_outline_17 : decode b_Mo_outline 17 = .ok (.istore_n 3, 1) := by decide +kernel
theorem d_Mo_outline_18 : decode b_Mo_outline 18 = .ok (.bipush 96, 2) := by decide +kernel
theorem d_Mo_outline_20 : decode b_Mo_outline 20 = .ok (.iload_n 1, 1) := by decide +kernel
theorem d_Mo_outline_21 : decode b_Mo_outline 21 = .ok (.imul, 1) := by decide +kernel
theorem d_Mo_outline_22 : decode b_Mo_outline 22 = .ok (.bipush 24, 2) := by decide +kernel
theorem d_Mo_outline_24 : decode b_Mo_outline 24 = .ok (.iload_n 2, 1) := by decide +kernel
theorem d_Mo_outline_25 : decode b_Mo_outline 25 = .ok (.imul, 1) := by decide +kernel
theorem d_Mo_outline_26 : decode b_Mo_outline 26 = .ok (.iadd, 1) := by decide +kernel
theorem d_Mo_outline_27 : decode b_Mo_outline 27 = .ok (.istore 4, 2) := by decide +kernel
theorem d_Mo_outline_29 : decode b_Mo_outline 29 = .ok (.iconst 0, 1) := by decide +kernel
theorem d_Mo_outline_30 : decode b_Mo_outline 30 = .ok (.istore 5, 2) := by decide +kernel
theorem d_Mo_outline_32 : decode b_Mo_outline 32 = .ok (.iload 5, 2) := by decide +kernel
theorem d_Mo_outline_34 : decode b_Mo_outline 34 = .ok (.iload_n 3, 1) := by decide +kernel
theorem d_Mo_outline_35 : decode b_Mo_outline 35 = .ok (.if_icmp .ge 44, 3) := by decide +kernel
theorem d_Mo_outline_38 : decode b_Mo_outline 38 = .ok (.aload_n 0, 1) := by decide +kernel
theorem d_Mo_outline_39 : decode b_Mo_outline 39 = .ok (.iload_n 1, 1) := by decide +kernel
theorem d_Mo_outline_40 : decode b_Mo_outline 40 = .ok (.aload_n 0, 1) := by decide +kernel
theorem d_Mo_outline_41 : decode b_Mo_outline 41 = .ok (.getfield 27, 3) := by decide +kernel
theorem d_Mo_outline_44 : decode b_Mo_outline 44 = .ok (.iload 4, 2) := by decide +kernel
theorem d_Mo_outline_46 : decode b_Mo_outline 46 = .ok (.iload 5, 2) := by decide +kernel
theorem d_Mo_outline_48 : decode b_Mo_outline 48 = .ok (.iadd, 1) := by decide +kernel
theorem d_Mo_outline_49 : decode b_Mo_outline 49 = .ok (.iaload, 1) := by decide +kernel
theorem d_Mo_outline_50 : decode b_Mo_outline 50 = .ok (.aload_n 0, 1) := by decide +kernel
theorem d_Mo_outline_51 : decode b_Mo_outline 51 = .ok (.getfield 30, 3) := by decide +kernel
theorem d_Mo_outline_54 : decode b_Mo_outline 54 = .ok (.iload 4, 2) := by decide +kernel
theorem d_Mo_outline_56 : decode b_Mo_outline 56 = .ok (.iload 5, 2) := by decide +kernel
theorem d_Mo_outline_58 : decode b_Mo_outline 58 = .ok (.iadd, 1) := by decide +kernel
theorem d_Mo_outline_59 : decode b_Mo_outline 59 = .ok (.iaload, 1) := by decide +kernel
theorem d_Mo_outline_60 : decode b_Mo_outline 60 = .ok (.iload 5, 2) := by decide +kernel
theorem d_Mo_outline_62 : decode b_Mo_outline 62 = .ok (.ifCond .ne 7, 3) := by decide +kernel
theorem d_Mo_outline_65 : decode b_Mo_outline 65 = .ok (.iconst 1, 1) := by decide +kernel
theorem d_Mo_outline_66 : decode b_Mo_outline 66 = .ok (.goto 4, 3) := by decide +kernel
theorem d_Mo_outline_69 : decode b_Mo_outline 69 = .ok (.iconst 0, 1) := by decide +kernel
theorem d_Mo_outline_70 : decode b_Mo_outline 70 = .ok (.invokevirtual 188, 3) := by decide +kernel
theorem d_Mo_outline_73 : decode b_Mo_outline 73 = .ok (.iinc 5 1, 3) := by decide +kernel
theorem d_Mo_outline_76 : decode b_Mo_outline 76 = .ok (.goto (-44), 3) := by decide +kernel
theorem d_Mo_outline_79 : decode b_Mo_outline 79 = .ok (.iload_n 3, 1) := by decide +kernel
theorem d_Mo_outline_80 : decode b_Mo_outline 80 = .ok (.ifCond .le 23, 3) := by decide +kernel
theorem d_Mo_outline_83 : decode b_Mo_outline 83 = .ok (.aload_n 0, 1) := by decide +kernel
theorem d_Mo_outline_84 : decode b_Mo_outline 84 = .ok (.iload_n 1, 1) := by decide +kernel
theorem d_Mo_outline_85 : decode b_Mo_outline 85 = .ok (.aload_n 0, 1) := by decide +kernel
theorem d_Mo_outline_86 : decode b_Mo_outline 86 = .ok (.getfield 27, 3) := by decide +kernel
theorem d_Mo_outline_89 : decode b_Mo_outline 89 = .ok (.iload 4, 2) := by decide +kernel
theorem d_Mo_outline_91 : decode b_Mo_outline 91 = .ok (.iaload, 1) := by decide +kernel
theorem d_Mo_outline_92 : decode b_Mo_outline 92 = .ok (.aload_n 0, 1) := by decide +kernel
theorem d_Mo_outline_93 : decode b_Mo_outline 93 = .ok (.getfield 30, 3) := by decide +kernel
theorem d_Mo_outline_96 : decode b_Mo_outline 96 = .ok (.iload 4, 2) := by decide +kernel
theorem d_Mo_outline_98 : decode b_Mo_outline 98 = .ok (.iaload, 1) := by decide +kernel
theorem d_Mo_outline_99 : decode b_Mo_outline 99 = .ok (.iconst 0, 1) := by decide +kernel
theorem d_Mo_outline_100 : decode b_Mo_outline 100 = .ok (.invokevirtual 188, 3) := by decide +kernel
theorem d_Mo_outline_103 : decode b_Mo_outline 103 = .ok (.iinc 2 1, 3) := by decide +kernel
theorem d_Mo_outline_106 : decode b_Mo_outline 106 = .ok (.goto (-104), 3) := by decide +kernel
theorem d_Mo_outline_109 : decode b_Mo_outline 109 = .ok (.return_, 1) := by decide +kernel
set_option maxHeartbeats 1000000 in
set_option maxRecDepth 100000 in
theorem c_Mo_outline (F : Nat → Nat → Int) (G : Nat → Int → Int) (sn : Int) (S : PS) (hB : mtB F G sn) (h0 : mtR F G sn S F G []) (hN : ∀ r : Int, 0 ≤ r → r < 4 → 0 ≤ G 246 (4 * sn + r) ∧ G 246 (4 * sn + r) ≤ 24) (hP : ∀ r i : Int, 0 ≤ r → r < 4 → 0 ≤ i → i < G 246 (4 * sn + r) → inR (G 247 (96 * sn + 24 * r + i)) (G 248 (96 * sn + 24 * r + i))) : cV y_Mo_outline b_Mo_outline 6 none 5 119 F G (fun ad => [.ref (ad 244), .int (iI sn)]) (fun F' G' => mtR F G sn S F' G' (outM G sn 4)) := by
  have hsn := hB.1
  intro s0 a0 D t ad
  refine g_startV (by decide +kernel) (Nat.le_of_ble_eq_true rfl) (fun p l e R s m args below meth c A ok => ?_)
  show gW p l e R s m args below meth c _ D A 6 (gZ0 s) 0 0 ad 265 (mem ad t F G) 0 [(0, .ref (ad 244)), (1, .int (iI sn))] []
  refine g_iconst ok d_Mo_outline_0 ?_
  refine g_istore_n (lv' := [(2, .int (iI 0)), (0, .ref (ad 244)), (1, .int (iI sn))]) ok d_Mo_outline_1 rfl (by decide) rfl ?_
  have L_r : ∀ (n_r : Nat) (r : Int) (F1 : Nat → Nat → Int) (G1 : Nat → Int → Int), (0 ≤ r ∧ r ≤ 4) → (((outM G sn r.toNat).length : Int) ≤ 25 * r) → (mtR F G sn S F1 G1 (outM G sn r.toNat)) → (5 - r) < (n_r : Int) → gW p l e R s m args below meth c (MQ below (gQv D A ad 265 (fun ce' => ∃ F' G', ce' = mem ad t F' G' ∧ (fun F' G' => mtR F G sn S F' G' (outM G sn 4)) F' G')) args s 0 0 A) D A 6 (gZ) 0 0 ad 265 (mem ad t F1 G1) 2 [(0, .ref (ad 244)), (1, .int (iI sn)), (2, .int (iI r))] [] := by
    intro n_r
    induction n_r with
    | zero =>
      intro r F1 G1 hr hl1 hR1 hm_r
      exact absurd hm_r (by omega)
    | succ n_r ih_r =>
      intro r F1 G1 hr hl1 hR1 hm_r
      refine g_iload_n ok d_Mo_outline_2 rfl 2 rfl ?_
      refine g_iconst ok d_Mo_outline_3 ?_
      refine g_icmp_ge ok 109 d_Mo_outline_4 (by decide) (by omega) (by omega) (fun h1 => ?_) (fun h1 => ?_)
      · exact g_vret ok d_Mo_outline_109 ⟨_, _, rfl, by rw [show r.toNat = 4 by omega] at hR1; exact hR1⟩
      · have hnr := hN r hr.1 (by omega)
        refine g_aload_n ok d_Mo_outline_7 rfl 0 rfl ?_
        refine gI_Mo_corners ok _ rfl k_993 d_Mo_outline_8 ?_
        refine g_iconst ok d_Mo_outline_11 ?_
        refine g_iload_n ok d_Mo_outline_12 rfl 1 rfl ?_
        refine g_imul ok d_Mo_outline_13 ?_
        refine g_iload_n ok d_Mo_outline_14 rfl 2 rfl ?_
        refine g_iadd ok d_Mo_outline_15 ?_
        refine h_iald ok _ a_246 (by omega) d_Mo_outline_16 ?_
        refine g_top (y := G 246 ((4 * sn) + r)) (by show G1 246 ((4 * sn) + r) = _; rw [hR1.2.2.2.2.2 246 (by decide) (by omega)]) ?_
        refine g_istore_n (lv' := [(3, .int (iI (G 246 ((4 * sn) + r)))), (0, .ref (ad 244)), (1, .int (iI sn)), (2, .int (iI r))]) ok d_Mo_outline_17 rfl (by decide) rfl ?_
        refine g_bipush ok (by decide) d_Mo_outline_18 ?_
        refine g_iload_n ok d_Mo_outline_20 rfl 2 rfl ?_
        refine g_imul ok d_Mo_outline_21 ?_
        refine g_bipush ok (by decide) d_Mo_outline_22 ?_
        refine g_iload_n ok d_Mo_outline_24 rfl 3 rfl ?_
        refine g_imul ok d_Mo_outline_25 ?_
        refine g_iadd ok d_Mo_outline_26 ?_
        refine g_istore (lv' := [(4, .int (iI ((96 * sn) + (24 * r)))), (3, .int (iI (G 246 ((4 * sn) + r)))), (0, .ref (ad 244)), (1, .int (iI sn)), (2, .int (iI r))]) ok d_Mo_outline_27 (by decide) rfl ?_
        refine g_iconst ok d_Mo_outline_29 ?_
        refine g_istore (lv' := [(5, .int (iI 0)), (4, .int (iI ((96 * sn) + (24 * r)))), (3, .int (iI (G 246 ((4 * sn) + r)))), (0, .ref (ad 244)), (1, .int (iI sn)), (2, .int (iI r))]) ok d_Mo_outline_30 (by decide) rfl ?_
        have L_i : ∀ (n_i : Nat) (i : Int) (F2 : Nat → Nat → Int) (G2 : Nat → Int → Int), (0 ≤ i ∧ i ≤ G 246 (4 * sn + r)) → (mtR F G sn S F2 G2 (outM G sn r.toNat ++ oEv (mXr G sn r) (mYr G sn r) i.toNat)) → (G 246 (4 * sn + r) + 1 - i) < (n_i : Int) → gW p l e R s m args below meth c (MQ below (gQv D A ad 265 (fun ce' => ∃ F' G', ce' = mem ad t F' G' ∧ (fun F' G' => mtR F G sn S F' G' (outM G sn 4)) F' G')) args s 0 0 A) D A 6 (gZ) 0 0 ad 265 (mem ad t F2 G2) 32 [(0, .ref (ad 244)), (1, .int (iI sn)), (2, .int (iI r)), (3, .int (iI (G 246 (4 * sn + r)))), (4, .int (iI ((96 * sn) + (24 * r)))), (5, .int (iI i))] [] := by
          intro n_i
          induction n_i with
          | zero =>
            intro i F2 G2 hi hR2 hm_i
            exact absurd hm_i (by omega)
          | succ n_i ih_i =>
            intro i F2 G2 hi hR2 hm_i
            have hln : ((outM G sn r.toNat ++ oEv (mXr G sn r) (mYr G sn r) i.toNat).length : Int) = ((outM G sn r.toNat).length : Int) + i := by rw [List.length_append, oEv_len]; omega
            refine g_iload ok d_Mo_outline_32 5 rfl ?_
            refine g_iload_n ok d_Mo_outline_34 rfl 3 rfl ?_
            refine g_icmp_ge ok 79 d_Mo_outline_35 (by decide) (by omega) (by omega) (fun h2 => ?_) (fun h2 => ?_)
            · refine g_iload_n ok d_Mo_outline_79 rfl 3 rfl ?_
              refine g_if_le ok 103 d_Mo_outline_80 (by decide) (by omega) (fun h3 => ?_) (fun h3 => ?_)
              · have hi0 : i = 0 := by omega
                have hR3 : mtR F G sn S F2 G2 (outM G sn r.toNat) := by rw [hi0] at hR2; have z : outM G sn r.toNat ++ oEv (mXr G sn r) (mYr G sn r) (0 : Int).toNat = outM G sn r.toNat := List.append_nil _; rw [z] at hR2; exact hR2
                refine g_iinc (lv' := [(2, .int (iI (r + 1))), (0, .ref (ad 244)), (1, .int (iI sn)), (3, .int (iI (G 246 (4 * sn + r)))), (4, .int (iI ((96 * sn) + (24 * r)))), (5, .int (iI i))]) ok d_Mo_outline_103 2 rfl (by decide) rfl ?_
                refine g_goto ok 2 d_Mo_outline_106 (by decide) ?_
                refine g_lv [1, 2, 0] rfl ?_
                exact ih_r (r + 1) F2 G2 (by omega) (by rw [outM_step hr.1, List.length_append]; have := oRing_len (X := mXr G sn r) (Y := mYr G sn r) hnr.2; omega) (by rw [outM_step hr.1, oRing_0 (by omega), List.append_nil]; exact hR3) (by omega)
              · refine g_aload_n ok d_Mo_outline_83 rfl 0 rfl ?_
                refine g_iload_n ok d_Mo_outline_84 rfl 1 rfl ?_
                refine g_aload_n ok d_Mo_outline_85 rfl 0 rfl ?_
                refine gI_Mo_cx ok _ rfl k_994 d_Mo_outline_86 ?_
                refine g_iload ok d_Mo_outline_89 4 rfl ?_
                refine h_iald ok _ a_247 (by omega) d_Mo_outline_91 ?_
                refine g_top (y := G 247 ((96 * sn) + (24 * r))) (by show G2 247 ((96 * sn) + (24 * r)) = _; rw [hR2.2.2.2.2.2 247 (by decide) (by omega)]) ?_
                refine g_aload_n ok d_Mo_outline_92 rfl 0 rfl ?_
                refine gI_Mo_cy ok _ rfl k_995 d_Mo_outline_93 ?_
                refine g_iload ok d_Mo_outline_96 4 rfl ?_
                refine h_iald ok _ a_248 (by omega) d_Mo_outline_98 ?_
                refine g_top (y := G 248 ((96 * sn) + (24 * r))) (by show G2 248 ((96 * sn) + (24 * r)) = _; rw [hR2.2.2.2.2.2 248 (by decide) (by omega)]) ?_
                refine g_iconst ok d_Mo_outline_99 ?_
                refine g_top (y := b2 false) rfl ?_
                refine g_callVV (As := [.int (iI sn), .int (iI (G 247 ((96 * sn) + (24 * r)))), .int (iI (G 248 ((96 * sn) + (24 * r)))), .int (iI (b2 false))]) (st := []) ok _ (c_Mo_comes F2 G2 F G sn _ _ false S _ hB hR2 (by have z := hP r 0 hr.1 (by omega) (by omega) (by omega); rw [Int.add_zero] at z; exact z) (fun z => absurd hln (by rw [z]; show ¬ (0 : Int) = (_ : Int) + i; omega)) (by omega) s0 a0 D t ad) k_1209 k_11 k_1206 cl_Mo (m_Mo (ad := ad) (t := t) (F := F2) (G := G2) rfl).1 (m_Mo rfl).2 k_1208 s_Mo_comes q_Mo_comes (by decide) (Nat.le_of_ble_eq_true rfl) (by decide) d_Mo_outline_100 (fun ce1 hc4 => ?_)
                obtain ⟨F101, G101, rfl, hR101⟩ := hc4
                refine g_iinc (lv' := [(2, .int (iI (r + 1))), (0, .ref (ad 244)), (1, .int (iI sn)), (3, .int (iI (G 246 (4 * sn + r)))), (4, .int (iI ((96 * sn) + (24 * r)))), (5, .int (iI i))]) ok d_Mo_outline_103 2 rfl (by decide) rfl ?_
                refine g_goto ok 2 d_Mo_outline_106 (by decide) ?_
                refine g_lv [1, 2, 0] rfl ?_
                exact ih_r (r + 1) F101 G101 (by omega) (by rw [outM_step hr.1, List.length_append]; have := oRing_len (X := mXr G sn r) (Y := mYr G sn r) hnr.2; omega) (by rw [outM_step hr.1, oRing_n (by omega), ← List.append_assoc, show mXr G sn r 0 = G 247 (96 * sn + 24 * r) from congrArg (G 247) (Int.add_zero _), show mYr G sn r 0 = G 248 (96 * sn + 24 * r) from congrArg (G 248) (Int.add_zero _)]; rw [show i = G 246 (4 * sn + r) by omega] at hR101; exact hR101) (by omega)
            · refine g_aload_n ok d_Mo_outline_38 rfl 0 rfl ?_
              refine g_iload_n ok d_Mo_outline_39 rfl 1 rfl ?_
              refine g_aload_n ok d_Mo_outline_40 rfl 0 rfl ?_
              refine gI_Mo_cx ok _ rfl k_994 d_Mo_outline_41 ?_
              refine g_iload ok d_Mo_outline_44 4 rfl ?_
              refine g_iload ok d_Mo_outline_46 5 rfl ?_
              refine g_iadd ok d_Mo_outline_48 ?_
              refine h_iald ok _ a_247 (by omega) d_Mo_outline_49 ?_
              refine g_top (y := G 247 (((96 * sn) + (24 * r)) + i)) (by show G2 247 (((96 * sn) + (24 * r)) + i) = _; rw [hR2.2.2.2.2.2 247 (by decide) (by omega)]) ?_
              refine g_aload_n ok d_Mo_outline_50 rfl 0 rfl ?_
              refine gI_Mo_cy ok _ rfl k_995 d_Mo_outline_51 ?_
              refine g_iload ok d_Mo_outline_54 4 rfl ?_
              refine g_iload ok d_Mo_outline_56 5 rfl ?_
              refine g_iadd ok d_Mo_outline_58 ?_
              refine h_iald ok _ a_248 (by omega) d_Mo_outline_59 ?_
              refine g_top (y := G 248 (((96 * sn) + (24 * r)) + i)) (by show G2 248 (((96 * sn) + (24 * r)) + i) = _; rw [hR2.2.2.2.2.2 248 (by decide) (by omega)]) ?_
              refine g_iload ok d_Mo_outline_60 5 rfl ?_
              refine g_if_ne ok 69 d_Mo_outline_62 (by decide) (by omega) (fun h5 => ?_) (fun h5 => ?_)
              · have hdc : decide (i = 0) = false := decide_eq_false (by omega)
                refine g_iconst ok d_Mo_outline_69 ?_
                refine g_top (y := b2 false) rfl ?_
                refine g_callVV (As := [.int (iI sn), .int (iI (G 247 (((96 * sn) + (24 * r)) + i))), .int (iI (G 248 (((96 * sn) + (24 * r)) + i))), .int (iI (b2 false))]) (st := []) ok _ (c_Mo_comes F2 G2 F G sn _ _ false S _ hB hR2 (hP r _ hr.1 (by omega) (by omega) (by omega)) (fun z => absurd hln (by rw [z]; show ¬ (0 : Int) = (_ : Int) + i; omega)) (by omega) s0 a0 D t ad) k_1209 k_11 k_1206 cl_Mo (m_Mo (ad := ad) (t := t) (F := F2) (G := G2) rfl).1 (m_Mo rfl).2 k_1208 s_Mo_comes q_Mo_comes (by decide) (Nat.le_of_ble_eq_true rfl) (by decide) d_Mo_outline_70 (fun ce1 hc6 => ?_)
                obtain ⟨F102, G102, rfl, hR102⟩ := hc6
                refine g_iinc (lv' := [(5, .int (iI (i + 1))), (0, .ref (ad 244)), (1, .int (iI sn)), (2, .int (iI r)), (3, .int (iI (G 246 (4 * sn + r)))), (4, .int (iI ((96 * sn) + (24 * r))))]) ok d_Mo_outline_73 5 rfl (by decide) rfl ?_
                refine g_goto ok 32 d_Mo_outline_76 (by decide) ?_
                refine g_lv [1, 2, 3, 4, 5, 0] rfl ?_
                exact ih_i (i + 1) F102 G102 (by omega) (by rw [oEv_step hi.1, hdc, ← List.append_assoc]; exact hR102) (by omega)
              · have hdc : decide (i = 0) = true := decide_eq_true (by omega)
                refine g_iconst ok d_Mo_outline_65 ?_
                refine g_goto ok 70 d_Mo_outline_66 (by decide) ?_
                refine g_top (y := b2 true) rfl ?_
                refine g_callVV (As := [.int (iI sn), .int (iI (G 247 (((96 * sn) + (24 * r)) + i))), .int (iI (G 248 (((96 * sn) + (24 * r)) + i))), .int (iI (b2 true))]) (st := []) ok _ (c_Mo_comes F2 G2 F G sn _ _ true S _ hB hR2 (hP r _ hr.1 (by omega) (by omega) (by omega)) (fun _ => rfl) (by omega) s0 a0 D t ad) k_1209 k_11 k_1206 cl_Mo (m_Mo (ad := ad) (t := t) (F := F2) (G := G2) rfl).1 (m_Mo rfl).2 k_1208 s_Mo_comes q_Mo_comes (by decide) (Nat.le_of_ble_eq_true rfl) (by decide) d_Mo_outline_70 (fun ce1 hc7 => ?_)
                obtain ⟨F103, G103, rfl, hR103⟩ := hc7
                refine g_iinc (lv' := [(5, .int (iI (i + 1))), (0, .ref (ad 244)), (1, .int (iI sn)), (2, .int (iI r)), (3, .int (iI (G 246 (4 * sn + r)))), (4, .int (iI ((96 * sn) + (24 * r))))]) ok d_Mo_outline_73 5 rfl (by decide) rfl ?_
                refine g_goto ok 32 d_Mo_outline_76 (by decide) ?_
                refine g_lv [1, 2, 3, 4, 5, 0] rfl ?_
                exact ih_i (i + 1) F103 G103 (by omega) (by rw [oEv_step hi.1, hdc, ← List.append_assoc]; exact hR103) (by omega)
        refine g_z ?_
        refine g_lv [3, 4, 5, 2, 1, 0] rfl ?_
        exact L_i ((G 246 (4 * sn + r) + 1 - 0 : Int).toNat + 1) 0 F1 G1 (by omega) (by show mtR F G sn S _ _ (_ ++ []); rw [List.append_nil]; exact hR1) (by omega)
  refine g_z ?_
  refine g_lv [1, 2, 0] rfl ?_
  exact L_r ((5 - 0 : Int).toNat + 1) 0 F G (by omega) (by show (0 : Int) ≤ 25 * 0; decide) (h0) (by omega)
def mX0 (G : Nat → Int → Int) (c : Nat) (sn : Int) : Int → Int := fun i => G c (96 * sn + i)
def mX1 (G : Nat → Int → Int) (c : Nat) (sn : Int) : Int → Int := fun i => G c (96 * sn + 24 + i)
theorem d_Mo_satin_0 : decode b_Mo_satin 0 = .ok (.aload_n 0, 1) := by decide +kernel
theorem d_Mo_satin_1 : decode b_Mo_satin 1 = .ok (.getfield 24, 3) := by decide +kernel
theorem d_Mo_satin_4 : decode b_Mo_satin 4 = .ok (.iconst 4, 1) := by decide +kernel
theorem d_Mo_satin_5 : decode b_Mo_satin 5 = .ok (.iload_n 1, 1) := by decide +kernel
theorem d_Mo_satin_6 : decode b_Mo_satin 6 = .ok (.imul, 1) := by decide +kernel
theorem d_Mo_satin_7 : decode b_Mo_satin 7 = .ok (.iaload, 1) := by decide +kernel
theorem d_Mo_satin_8 : decode b_Mo_satin 8 = .ok (.istore_n 2, 1) := by decide +kernel
theorem d_Mo_satin_9 : decode b_Mo_satin 9 = .ok (.bipush 96, 2) := by decide +kernel
theorem d_Mo_satin_11 : decode b_Mo_satin 11 = .ok (.iload_n 1, 1) := by decide +kernel
theorem d_Mo_satin_12 : decode b_Mo_satin 12 = .ok (.imul, 1) := by decide +kernel
theorem d_Mo_satin_13 : decode b_Mo_satin 13 = .ok (.istore_n 3, 1) := by decide +kernel
theorem d_Mo_satin_14 : decode b_Mo_satin 14 = .ok (.iload_n 3, 1) := by decide +kernel
theorem d_Mo_satin_15 : decode b_Mo_satin 15 = .ok (.bipush 24, 2) := by decide +kernel
theorem d_Mo_satin_17 : decode b_Mo_satin 17 = .ok (.iadd, 1) := by decide +kernel
theorem d_Mo_satin_18 : decode b_Mo_satin 18 = .ok (.istore 4, 2) := by decide +kernel
theorem d_Mo_satin_20 : decode b_Mo_satin 20 = .ok (.iconst 0, 1) := by decide +kernel
theorem d_Mo_satin_21 : decode b_Mo_satin 21 = .ok (.istore 5, 2) := by decide +kernel
theorem d_Mo_satin_23 : decode b_Mo_satin 23 = .ok (.iload 5, 2) := by decide +kernel
theorem d_Mo_satin_25 : decode b_Mo_satin 25 = .ok (.iconst 1, 1) := by decide +kernel
theorem d_Mo_satin_26 : decode b_Mo_satin 26 = .ok (.iadd, 1) := by decide +kernel
theorem d_Mo_satin_27 : decode b_Mo_satin 27 = .ok (.iload_n 2, 1) := by decide +kernel
theorem d_Mo_satin_28 : decode b_Mo_satin 28 = .ok (.if_icmp .ge 297, 3) := by decide +kernel
theorem d_Mo_satin_31 : decode b_Mo_satin 31 = .ok (.aload_n 0, 1) := by decide +kernel
theorem d_Mo_satin_32 : decode b_Mo_satin 32 = .ok (.getfield 27, 3) := by decide +kernel
theorem d_Mo_satin_35 : decode b_Mo_satin 35 = .ok (.iload_n 3, 1) := by decide +kernel
theorem d_Mo_satin_36 : decode b_Mo_satin 36 = .ok (.iload 5, 2) := by decide +kernel
theorem d_Mo_satin_38 : decode b_Mo_satin 38 = .ok (.iadd, 1) := by decide +kernel
theorem d_Mo_satin_39 : decode b_Mo_satin 39 = .ok (.iconst 1, 1) := by decide +kernel
theorem d_Mo_satin_40 : decode b_Mo_satin 40 = .ok (.iadd, 1) := by decide +kernel
theorem d_Mo_satin_41 : decode b_Mo_satin 41 = .ok (.iaload, 1) := by decide +kernel
theorem d_Mo_satin_42 : decode b_Mo_satin 42 = .ok (.aload_n 0, 1) := by decide +kernel
theorem d_Mo_satin_43 : decode b_Mo_satin 43 = .ok (.getfield 27, 3) := by decide +kernel
theorem d_Mo_satin_46 : decode b_Mo_satin 46 = .ok (.iload_n 3, 1) := by decide +kernel
theorem d_Mo_satin_47 : decode b_Mo_satin 47 = .ok (.iload 5, 2) := by decide +kernel
theorem d_Mo_satin_49 : decode b_Mo_satin 49 = .ok (.iadd, 1) := by decide +kernel
theorem d_Mo_satin_50 : decode b_Mo_satin 50 = .ok (.iaload, 1) := by decide +kernel
theorem d_Mo_satin_51 : decode b_Mo_satin 51 = .ok (.isub, 1) := by decide +kernel
theorem d_Mo_satin_52 : decode b_Mo_satin 52 = .ok (.istore 6, 2) := by decide +kernel
theorem d_Mo_satin_54 : decode b_Mo_satin 54 = .ok (.aload_n 0, 1) := by decide +kernel
theorem d_Mo_satin_55 : decode b_Mo_satin 55 = .ok (.getfield 30, 3) := by decide +kernel
theorem d_Mo_satin_58 : decode b_Mo_satin 58 = .ok (.iload_n 3, 1) := by decide +kernel
theorem d_Mo_satin_59 : decode b_Mo_satin 59 = .ok (.iload 5, 2) := by decide +kernel
theorem d_Mo_satin_61 : decode b_Mo_satin 61 = .ok (.iadd, 1) := by decide +kernel
theorem d_Mo_satin_62 : decode b_Mo_satin 62 = .ok (.iconst 1, 1) := by decide +kernel
theorem d_Mo_satin_63 : decode b_Mo_satin 63 = .ok (.iadd, 1) := by decide +kernel
theorem d_Mo_satin_64 : decode b_Mo_satin 64 = .ok (.iaload, 1) := by decide +kernel
theorem d_Mo_satin_65 : decode b_Mo_satin 65 = .ok (.aload_n 0, 1) := by decide +kernel
theorem d_Mo_satin_66 : decode b_Mo_satin 66 = .ok (.getfield 30, 3) := by decide +kernel
theorem d_Mo_satin_69 : decode b_Mo_satin 69 = .ok (.iload_n 3, 1) := by decide +kernel
theorem d_Mo_satin_70 : decode b_Mo_satin 70 = .ok (.iload 5, 2) := by decide +kernel
theorem d_Mo_satin_72 : decode b_Mo_satin 72 = .ok (.iadd, 1) := by decide +kernel
theorem d_Mo_satin_73 : decode b_Mo_satin 73 = .ok (.iaload, 1) := by decide +kernel
theorem d_Mo_satin_74 : decode b_Mo_satin 74 = .ok (.isub, 1) := by decide +kernel
theorem d_Mo_satin_75 : decode b_Mo_satin 75 = .ok (.istore 7, 2) := by decide +kernel
theorem d_Mo_satin_77 : decode b_Mo_satin 77 = .ok (.aload_n 0, 1) := by decide +kernel
theorem d_Mo_satin_78 : decode b_Mo_satin 78 = .ok (.getfield 27, 3) := by decide +kernel
theorem d_Mo_satin_81 : decode b_Mo_satin 81 = .ok (.iload 4, 2) := by decide +kernel
theorem d_Mo_satin_83 : decode b_Mo_satin 83 = .ok (.iload 5, 2) := by decide +kernel
theorem d_Mo_satin_85 : decode b_Mo_satin 85 = .ok (.iadd, 1) := by decide +kernel
theorem d_Mo_satin_86 : decode b_Mo_satin 86 = .ok (.iconst 1, 1) := by decide +kernel
theorem d_Mo_satin_87 : decode b_Mo_satin 87 = .ok (.iadd, 1) := by decide +kernel
theorem d_Mo_satin_88 : decode b_Mo_satin 88 = .ok (.iaload, 1) := by decide +kernel
theorem d_Mo_satin_89 : decode b_Mo_satin 89 = .ok (.aload_n 0, 1) := by decide +kernel
theorem d_Mo_satin_90 : decode b_Mo_satin 90 = .ok (.getfield 27, 3) := by decide +kernel
theorem d_Mo_satin_93 : decode b_Mo_satin 93 = .ok (.iload 4, 2) := by decide +kernel
theorem d_Mo_satin_95 : decode b_Mo_satin 95 = .ok (.iload 5, 2) := by decide +kernel
theorem d_Mo_satin_97 : decode b_Mo_satin 97 = .ok (.iadd, 1) := by decide +kernel
theorem d_Mo_satin_98 : decode b_Mo_satin 98 = .ok (.iaload, 1) := by decide +kernel
theorem d_Mo_satin_99 : decode b_Mo_satin 99 = .ok (.isub, 1) := by decide +kernel
theorem d_Mo_satin_100 : decode b_Mo_satin 100 = .ok (.istore 8, 2) := by decide +kernel
theorem d_Mo_satin_102 : decode b_Mo_satin 102 = .ok (.aload_n 0, 1) := by decide +kernel
theorem d_Mo_satin_103 : decode b_Mo_satin 103 = .ok (.getfield 30, 3) := by decide +kernel
theorem d_Mo_satin_106 : decode b_Mo_satin 106 = .ok (.iload 4, 2) := by decide +kernel
theorem d_Mo_satin_108 : decode b_Mo_satin 108 = .ok (.iload 5, 2) := by decide +kernel
theorem d_Mo_satin_110 : decode b_Mo_satin 110 = .ok (.iadd, 1) := by decide +kernel
theorem d_Mo_satin_111 : decode b_Mo_satin 111 = .ok (.iconst 1, 1) := by decide +kernel
theorem d_Mo_satin_112 : decode b_Mo_satin 112 = .ok (.iadd, 1) := by decide +kernel
theorem d_Mo_satin_113 : decode b_Mo_satin 113 = .ok (.iaload, 1) := by decide +kernel
theorem d_Mo_satin_114 : decode b_Mo_satin 114 = .ok (.aload_n 0, 1) := by decide +kernel
theorem d_Mo_satin_115 : decode b_Mo_satin 115 = .ok (.getfield 30, 3) := by decide +kernel
theorem d_Mo_satin_118 : decode b_Mo_satin 118 = .ok (.iload 4, 2) := by decide +kernel
theorem d_Mo_satin_120 : decode b_Mo_satin 120 = .ok (.iload 5, 2) := by decide +kernel
theorem d_Mo_satin_122 : decode b_Mo_satin 122 = .ok (.iadd, 1) := by decide +kernel
theorem d_Mo_satin_123 : decode b_Mo_satin 123 = .ok (.iaload, 1) := by decide +kernel
theorem d_Mo_satin_124 : decode b_Mo_satin 124 = .ok (.isub, 1) := by decide +kernel
theorem d_Mo_satin_125 : decode b_Mo_satin 125 = .ok (.istore 9, 2) := by decide +kernel
theorem d_Mo_satin_127 : decode b_Mo_satin 127 = .ok (.iload 6, 2) := by decide +kernel
theorem d_Mo_satin_129 : decode b_Mo_satin 129 = .ok (.invokestatic 127, 3) := by decide +kernel
theorem d_Mo_satin_132 : decode b_Mo_satin 132 = .ok (.iload 7, 2) := by decide +kernel
theorem d_Mo_satin_134 : decode b_Mo_satin 134 = .ok (.invokestatic 127, 3) := by decide +kernel
theorem d_Mo_satin_137 : decode b_Mo_satin 137 = .ok (.invokestatic 162, 3) := by decide +kernel
theorem d_Mo_satin_140 : decode b_Mo_satin 140 = .ok (.iload 8, 2) := by decide +kernel
theorem d_Mo_satin_142 : decode b_Mo_satin 142 = .ok (.invokestatic 127, 3) := by decide +kernel
theorem d_Mo_satin_145 : decode b_Mo_satin 145 = .ok (.iload 9, 2) := by decide +kernel
theorem d_Mo_satin_147 : decode b_Mo_satin 147 = .ok (.invokestatic 127, 3) := by decide +kernel
theorem d_Mo_satin_150 : decode b_Mo_satin 150 = .ok (.invokestatic 162, 3) := by decide +kernel
theorem d_Mo_satin_153 : decode b_Mo_satin 153 = .ok (.invokestatic 162, 3) := by decide +kernel
theorem d_Mo_satin_156 : decode b_Mo_satin 156 = .ok (.istore 10, 2) := by decide +kernel
theorem d_Mo_satin_158 : decode b_Mo_satin 158 = .ok (.iload 10, 2) := by decide +kernel
theorem d_Mo_satin_160 : decode b_Mo_satin 160 = .ok (.aload_n 0, 1) := by decide +kernel
theorem d_Mo_satin_161 : decode b_Mo_satin 161 = .ok (.getfield 20, 3) := by decide +kernel
theorem d_Mo_satin_164 : decode b_Mo_satin 164 = .ok (.iconst 4, 1) := by decide +kernel
theorem d_Mo_satin_165 : decode b_Mo_satin 165 = .ok (.iload_n 1, 1) := by decide +kernel
theorem d_Mo_satin_166 : decode b_Mo_satin 166 = .ok (.imul, 1) := by decide +kernel
theorem d_Mo_satin_167 : decode b_Mo_satin 167 = .ok (.iconst 2, 1) := by decide +kernel
theorem d_Mo_satin_168 : decode b_Mo_satin 168 = .ok (.iadd, 1) := by decide +kernel
theorem d_Mo_satin_169 : decode b_Mo_satin 169 = .ok (.iaload, 1) := by decide +kernel
theorem d_Mo_satin_170 : decode b_Mo_satin 170 = .ok (.iadd, 1) := by decide +kernel
theorem d_Mo_satin_171 : decode b_Mo_satin 171 = .ok (.iconst 1, 1) := by decide +kernel
theorem d_Mo_satin_172 : decode b_Mo_satin 172 = .ok (.isub, 1) := by decide +kernel
theorem d_Mo_satin_173 : decode b_Mo_satin 173 = .ok (.aload_n 0, 1) := by decide +kernel
theorem d_Mo_satin_174 : decode b_Mo_satin 174 = .ok (.getfield 20, 3) := by decide +kernel
theorem d_Mo_satin_177 : decode b_Mo_satin 177 = .ok (.iconst 4, 1) := by decide +kernel
theorem d_Mo_satin_178 : decode b_Mo_satin 178 = .ok (.iload_n 1, 1) := by decide +kernel
theorem d_Mo_satin_179 : decode b_Mo_satin 179 = .ok (.imul, 1) := by decide +kernel
theorem d_Mo_satin_180 : decode b_Mo_satin 180 = .ok (.iconst 2, 1) := by decide +kernel
theorem d_Mo_satin_181 : decode b_Mo_satin 181 = .ok (.iadd, 1) := by decide +kernel
theorem d_Mo_satin_182 : decode b_Mo_satin 182 = .ok (.iaload, 1) := by decide +kernel
theorem d_Mo_satin_183 : decode b_Mo_satin 183 = .ok (.idiv, 1) := by decide +kernel
theorem d_Mo_satin_184 : decode b_Mo_satin 184 = .ok (.istore 11, 2) := by decide +kernel
theorem d_Mo_satin_186 : decode b_Mo_satin 186 = .ok (.iload 11, 2) := by decide +kernel
theorem d_Mo_satin_188 : decode b_Mo_satin 188 = .ok (.iconst 1, 1) := by decide +kernel
theorem d_Mo_satin_189 : decode b_Mo_satin 189 = .ok (.if_icmp .ge 6, 3) := by decide +kernel
theorem d_Mo_satin_192 : decode b_Mo_satin 192 = .ok (.iconst 1, 1) := by decide +kernel
theorem d_Mo_satin_193 : decode b_Mo_satin 193 = .ok (.istore 11, 2) := by decide +kernel
theorem d_Mo_satin_195 : decode b_Mo_satin 195 = .ok (.iconst 0, 1) := by decide +kernel
theorem d_Mo_satin_196 : decode b_Mo_satin 196 = .ok (.istore 12, 2) := by decide +kernel
theorem d_Mo_satin_198 : decode b_Mo_satin 198 = .ok (.iload 12, 2) := by decide +kernel
theorem d_Mo_satin_200 : decode b_Mo_satin 200 = .ok (.iload 11, 2) := by decide +kernel
theorem d_Mo_satin_202 : decode b_Mo_satin 202 = .ok (.if_icmp .ge 117, 3) := by decide +kernel
theorem d_Mo_satin_205 : decode b_Mo_satin 205 = .ok (.aload_n 0, 1) := by decide +kernel
theorem d_Mo_satin_206 : decode b_Mo_satin 206 = .ok (.iload_n 1, 1) := by decide +kernel
theorem d_Mo_satin_207 : decode b_Mo_satin 207 = .ok (.aload_n 0, 1) := by decide +kernel
theorem d_Mo_satin_208 : decode b_Mo_satin 208 = .ok (.getfield 27, 3) := by decide +kernel
theorem d_Mo_satin_211 : decode b_Mo_satin 211 = .ok (.iload_n 3, 1) := by decide +kernel
theorem d_Mo_satin_212 : decode b_Mo_satin 212 = .ok (.iload 5, 2) := by decide +kernel
theorem d_Mo_satin_214 : decode b_Mo_satin 214 = .ok (.iadd, 1) := by decide +kernel
theorem d_Mo_satin_215 : decode b_Mo_satin 215 = .ok (.iaload, 1) := by decide +kernel
theorem d_Mo_satin_216 : decode b_Mo_satin 216 = .ok (.iload 12, 2) := by decide +kernel
theorem d_Mo_satin_218 : decode b_Mo_satin 218 = .ok (.iload 6, 2) := by decide +kernel
theorem d_Mo_satin_220 : decode b_Mo_satin 220 = .ok (.imul, 1) := by decide +kernel
theorem d_Mo_satin_221 : decode b_Mo_satin 221 = .ok (.iload 11, 2) := by decide +kernel
theorem d_Mo_satin_223 : decode b_Mo_satin 223 = .ok (.invokestatic 168, 3) := by decide +kernel
theorem d_Mo_satin_226 : decode b_Mo_satin 226 = .ok (.iadd, 1) := by decide +kernel
theorem d_Mo_satin_227 : decode b_Mo_satin 227 = .ok (.aload_n 0, 1) := by decide +kernel
theorem d_Mo_satin_228 : decode b_Mo_satin 228 = .ok (.getfield 30, 3) := by decide +kernel
theorem d_Mo_satin_231 : decode b_Mo_satin 231 = .ok (.iload_n 3, 1) := by decide +kernel
theorem d_Mo_satin_232 : decode b_Mo_satin 232 = .ok (.iload 5, 2) := by decide +kernel
theorem d_Mo_satin_234 : decode b_Mo_satin 234 = .ok (.iadd, 1) := by decide +kernel
theorem d_Mo_satin_235 : decode b_Mo_satin 235 = .ok (.iaload, 1) := by decide +kernel
theorem d_Mo_satin_236 : decode b_Mo_satin 236 = .ok (.iload 12, 2) := by decide +kernel
theorem d_Mo_satin_238 : decode b_Mo_satin 238 = .ok (.iload 7, 2) := by decide +kernel
theorem d_Mo_satin_240 : decode b_Mo_satin 240 = .ok (.imul, 1) := by decide +kernel
theorem d_Mo_satin_241 : decode b_Mo_satin 241 = .ok (.iload 11, 2) := by decide +kernel
theorem d_Mo_satin_243 : decode b_Mo_satin 243 = .ok (.invokestatic 168, 3) := by decide +kernel
theorem d_Mo_satin_246 : decode b_Mo_satin 246 = .ok (.iadd, 1) := by decide +kernel
theorem d_Mo_satin_247 : decode b_Mo_satin 247 = .ok (.iload 5, 2) := by decide +kernel
theorem d_Mo_satin_249 : decode b_Mo_satin 249 = .ok (.ifCond .ne 12, 3) := by decide +kernel
theorem d_Mo_satin_252 : decode b_Mo_satin 252 = .ok (.iload 12, 2) := by decide +kernel
theorem d_Mo_satin_254 : decode b_Mo_satin 254 = .ok (.ifCond .ne 7, 3) := by decide +kernel
theorem d_Mo_satin_257 : decode b_Mo_satin 257 = .ok (.iconst 1, 1) := by decide +kernel
theorem d_Mo_satin_258 : decode b_Mo_satin 258 = .ok (.goto 4, 3) := by decide +kernel
theorem d_Mo_satin_261 : decode b_Mo_satin 261 = .ok (.iconst 0, 1) := by decide +kernel
theorem d_Mo_satin_262 : decode b_Mo_satin 262 = .ok (.invokevirtual 188, 3) := by decide +kernel
theorem d_Mo_satin_265 : decode b_Mo_satin 265 = .ok (.aload_n 0, 1) := by decide +kernel
theorem d_Mo_satin_266 : decode b_Mo_satin 266 = .ok (.iload_n 1, 1) := by decide +kernel
theorem d_Mo_satin_267 : decode b_Mo_satin 267 = .ok (.aload_n 0, 1) := by decide +kernel
theorem d_Mo_satin_268 : decode b_Mo_satin 268 = .ok (.getfield 27, 3) := by decide +kernel
theorem d_Mo_satin_271 : decode b_Mo_satin 271 = .ok (.iload 4, 2) := by decide +kernel
theorem d_Mo_satin_273 : decode b_Mo_satin 273 = .ok (.iload 5, 2) := by decide +kernel
theorem d_Mo_satin_275 : decode b_Mo_satin 275 = .ok (.iadd, 1) := by decide +kernel
theorem d_Mo_satin_276 : decode b_Mo_satin 276 = .ok (.iaload, 1) := by decide +kernel
theorem d_Mo_satin_277 : decode b_Mo_satin 277 = .ok (.iload 12, 2) := by decide +kernel
theorem d_Mo_satin_279 : decode b_Mo_satin 279 = .ok (.iload 8, 2) := by decide +kernel
theorem d_Mo_satin_281 : decode b_Mo_satin 281 = .ok (.imul, 1) := by decide +kernel
theorem d_Mo_satin_282 : decode b_Mo_satin 282 = .ok (.iload 11, 2) := by decide +kernel
theorem d_Mo_satin_284 : decode b_Mo_satin 284 = .ok (.invokestatic 168, 3) := by decide +kernel
theorem d_Mo_satin_287 : decode b_Mo_satin 287 = .ok (.iadd, 1) := by decide +kernel
theorem d_Mo_satin_288 : decode b_Mo_satin 288 = .ok (.aload_n 0, 1) := by decide +kernel
theorem d_Mo_satin_289 : decode b_Mo_satin 289 = .ok (.getfield 30, 3) := by decide +kernel
theorem d_Mo_satin_292 : decode b_Mo_satin 292 = .ok (.iload 4, 2) := by decide +kernel
theorem d_Mo_satin_294 : decode b_Mo_satin 294 = .ok (.iload 5, 2) := by decide +kernel
theorem d_Mo_satin_296 : decode b_Mo_satin 296 = .ok (.iadd, 1) := by decide +kernel
theorem d_Mo_satin_297 : decode b_Mo_satin 297 = .ok (.iaload, 1) := by decide +kernel
theorem d_Mo_satin_298 : decode b_Mo_satin 298 = .ok (.iload 12, 2) := by decide +kernel
theorem d_Mo_satin_300 : decode b_Mo_satin 300 = .ok (.iload 9, 2) := by decide +kernel
theorem d_Mo_satin_302 : decode b_Mo_satin 302 = .ok (.imul, 1) := by decide +kernel
theorem d_Mo_satin_303 : decode b_Mo_satin 303 = .ok (.iload 11, 2) := by decide +kernel
theorem d_Mo_satin_305 : decode b_Mo_satin 305 = .ok (.invokestatic 168, 3) := by decide +kernel
theorem d_Mo_satin_308 : decode b_Mo_satin 308 = .ok (.iadd, 1) := by decide +kernel
theorem d_Mo_satin_309 : decode b_Mo_satin 309 = .ok (.iconst 0, 1) := by decide +kernel
theorem d_Mo_satin_310 : decode b_Mo_satin 310 = .ok (.invokevirtual 188, 3) := by decide +kernel
theorem d_Mo_satin_313 : decode b_Mo_satin 313 = .ok (.iinc 12 1, 3) := by decide +kernel
theorem d_Mo_satin_316 : decode b_Mo_satin 316 = .ok (.goto (-118), 3) := by decide +kernel
theorem d_Mo_satin_319 : decode b_Mo_satin 319 = .ok (.iinc 5 1, 3) := by decide +kernel
theorem d_Mo_satin_322 : decode b_Mo_satin 322 = .ok (.goto (-299), 3) := by decide +kernel
theorem d_Mo_satin_325 : decode b_Mo_satin 325 = .ok (.aload_n 0, 1) := by decide +kernel
theorem d_Mo_satin_326 : decode b_Mo_satin 326 = .ok (.iload_n 1, 1) := by decide +kernel
theorem d_Mo_satin_327 : decode b_Mo_satin 327 = .ok (.aload_n 0, 1) := by decide +kernel
theorem d_Mo_satin_328 : decode b_Mo_satin 328 = .ok (.getfield 27, 3) := by decide +kernel
theorem d_Mo_satin_331 : decode b_Mo_satin 331 = .ok (.iload_n 3, 1) := by decide +kernel
theorem d_Mo_satin_332 : decode b_Mo_satin 332 = .ok (.iload_n 2, 1) := by decide +kernel
theorem d_Mo_satin_333 : decode b_Mo_satin 333 = .ok (.iadd, 1) := by decide +kernel
theorem d_Mo_satin_334 : decode b_Mo_satin 334 = .ok (.iconst 1, 1) := by decide +kernel
theorem d_Mo_satin_335 : decode b_Mo_satin 335 = .ok (.isub, 1) := by decide +kernel
theorem d_Mo_satin_336 : decode b_Mo_satin 336 = .ok (.iaload, 1) := by decide +kernel
theorem d_Mo_satin_337 : decode b_Mo_satin 337 = .ok (.aload_n 0, 1) := by decide +kernel
theorem d_Mo_satin_338 : decode b_Mo_satin 338 = .ok (.getfield 30, 3) := by decide +kernel
theorem d_Mo_satin_341 : decode b_Mo_satin 341 = .ok (.iload_n 3, 1) := by decide +kernel
theorem d_Mo_satin_342 : decode b_Mo_satin 342 = .ok (.iload_n 2, 1) := by decide +kernel
theorem d_Mo_satin_343 : decode b_Mo_satin 343 = .ok (.iadd, 1) := by decide +kernel
theorem d_Mo_satin_344 : decode b_Mo_satin 344 = .ok (.iconst 1, 1) := by decide +kernel
theorem d_Mo_satin_345 : decode b_Mo_satin 345 = .ok (.isub, 1) := by decide +kernel
theorem d_Mo_satin_346 : decode b_Mo_satin 346 = .ok (.iaload, 1) := by decide +kernel
theorem d_Mo_satin_347 : decode b_Mo_satin 347 = .ok (.iconst 0, 1) := by decide +kernel
theorem d_Mo_satin_348 : decode b_Mo_satin 348 = .ok (.invokevirtual 188, 3) := by decide +kernel
theorem d_Mo_satin_351 : decode b_Mo_satin 351 = .ok (.aload_n 0, 1) := by decide +kernel
theorem d_Mo_satin_352 : decode b_Mo_satin 352 = .ok (.iload_n 1, 1) := by decide +kernel
theorem d_Mo_satin_353 : decode b_Mo_satin 353 = .ok (.aload_n 0, 1) := by decide +kernel
theorem d_Mo_satin_354 : decode b_Mo_satin 354 = .ok (.getfield 27, 3) := by decide +kernel
theorem d_Mo_satin_357 : decode b_Mo_satin 357 = .ok (.iload 4, 2) := by decide +kernel
theorem d_Mo_satin_359 : decode b_Mo_satin 359 = .ok (.iload_n 2, 1) := by decide +kernel
theorem d_Mo_satin_360 : decode b_Mo_satin 360 = .ok (.iadd, 1) := by decide +kernel
theorem d_Mo_satin_361 : decode b_Mo_satin 361 = .ok (.iconst 1, 1) := by decide +kernel
theorem d_Mo_satin_362 : decode b_Mo_satin 362 = .ok (.isub, 1) := by decide +kernel
theorem d_Mo_satin_363 : decode b_Mo_satin 363 = .ok (.iaload, 1) := by decide +kernel
theorem d_Mo_satin_364 : decode b_Mo_satin 364 = .ok (.aload_n 0, 1) := by decide +kernel
theorem d_Mo_satin_365 : decode b_Mo_satin 365 = .ok (.getfield 30, 3) := by decide +kernel
theorem d_Mo_satin_368 : decode b_Mo_satin 368 = .ok (.iload 4, 2) := by decide +kernel
theorem d_Mo_satin_370 : decode b_Mo_satin 370 = .ok (.iload_n 2, 1) := by decide +kernel
theorem d_Mo_satin_371 : decode b_Mo_satin 371 = .ok (.iadd, 1) := by decide +kernel
theorem d_Mo_satin_372 : decode b_Mo_satin 372 = .ok (.iconst 1, 1) := by decide +kernel
theorem d_Mo_satin_373 : decode b_Mo_satin 373 = .ok (.isub, 1) := by decide +kernel
theorem d_Mo_satin_374 : decode b_Mo_satin 374 = .ok (.iaload, 1) := by decide +kernel
theorem d_Mo_satin_375 : decode b_Mo_satin 375 = .ok (.iconst 0, 1) := by decide +kernel
theorem d_Mo_satin_376 : decode b_Mo_satin 376 = .ok (.invokevirtual 188, 3) := by decide +kernel
theorem d_Mo_satin_379 : decode b_Mo_satin 379 = .ok (.return_, 1) := by decide +kernel
set_option maxHeartbeats 1000000 in
set_option maxRecDepth 100000 in
theorem c_Mo_satin (F : Nat → Nat → Int) (G : Nat → Int → Int) (sn : Int) (S : PS) (hB : mtB F G sn) (h0 : mtR F G sn S F G []) (hn : 2 ≤ G 246 (4 * sn) ∧ G 246 (4 * sn) ≤ 16) (hsp : 4 ≤ G 245 (4 * sn + 2) ∧ G 245 (4 * sn + 2) ≤ 20) (hP0 : ∀ i : Int, 0 ≤ i → i < G 246 (4 * sn) → inR ((mX0 G 247 sn) i) ((mX0 G 248 sn) i)) (hP1 : ∀ i : Int, 0 ≤ i → i < G 246 (4 * sn) → inR ((mX1 G 247 sn) i) ((mX1 G 248 sn) i)) : cV y_Mo_satin b_Mo_satin 13 none 5 119 F G (fun ad => [.ref (ad 244), .int (iI sn)]) (fun F' G' => mtR F G sn S F' G' (satE (mX0 G 247 sn) (mX0 G 248 sn) (mX1 G 247 sn) (mX1 G 248 sn) (G 245 (4 * sn + 2)) (G 246 (4 * sn)))) := by
  have hsn := hB.1
  intro s0 a0 D t ad
  refine g_startV (by decide +kernel) (Nat.le_of_ble_eq_true rfl) (fun p l e R s m args below meth c A ok => ?_)
  show gW p l e R s m args below meth c _ D A 13 (gZ0 s) 0 0 ad 265 (mem ad t F G) 0 [(0, .ref (ad 244)), (1, .int (iI sn))] []
  refine g_aload_n ok d_Mo_satin_0 rfl 0 rfl ?_
  refine gI_Mo_corners ok _ rfl k_993 d_Mo_satin_1 ?_
  refine g_iconst ok d_Mo_satin_4 ?_
  refine g_iload_n ok d_Mo_satin_5 rfl 1 rfl ?_
  refine g_imul ok d_Mo_satin_6 ?_
  refine h_iald ok _ a_246 (by omega) d_Mo_satin_7 ?_
  refine g_istore_n (lv' := [(2, .int (iI (G 246 (4 * sn)))), (0, .ref (ad 244)), (1, .int (iI sn))]) ok d_Mo_satin_8 rfl (by decide) rfl ?_
  refine g_bipush ok (by decide) d_Mo_satin_9 ?_
  refine g_iload_n ok d_Mo_satin_11 rfl 2 rfl ?_
  refine g_imul ok d_Mo_satin_12 ?_
  refine g_istore_n (lv' := [(3, .int (iI (96 * sn))), (2, .int (iI (G 246 (4 * sn)))), (0, .ref (ad 244)), (1, .int (iI sn))]) ok d_Mo_satin_13 rfl (by decide) rfl ?_
  refine g_iload_n ok d_Mo_satin_14 rfl 0 rfl ?_
  refine g_bipush ok (by decide) d_Mo_satin_15 ?_
  refine g_iadd ok d_Mo_satin_17 ?_
  refine g_istore (lv' := [(4, .int (iI ((96 * sn) + 24))), (3, .int (iI (96 * sn))), (2, .int (iI (G 246 (4 * sn)))), (0, .ref (ad 244)), (1, .int (iI sn))]) ok d_Mo_satin_18 (by decide) rfl ?_
  refine g_iconst ok d_Mo_satin_20 ?_
  refine g_istore (lv' := [(5, .int (iI 0)), (4, .int (iI ((96 * sn) + 24))), (3, .int (iI (96 * sn))), (2, .int (iI (G 246 (4 * sn)))), (0, .ref (ad 244)), (1, .int (iI sn))]) ok d_Mo_satin_21 (by decide) rfl ?_
  have L_i : ∀ (n_i : Nat) (i : Int) (F1 : Nat → Nat → Int) (G1 : Nat → Int → Int), (0 ≤ i ∧ i ≤ G 246 (4 * sn) - 1) → (2 * i ≤ ((satP (mX0 G 247 sn) (mX0 G 248 sn) (mX1 G 247 sn) (mX1 G 248 sn) (G 245 (4 * sn + 2)) i.toNat).length : Int) ∧ ((satP (mX0 G 247 sn) (mX0 G 248 sn) (mX1 G 247 sn) (mX1 G 248 sn) (G 245 (4 * sn + 2)) i.toNat).length : Int) ≤ 1200 * i) → (mtR F G sn S F1 G1 (satP (mX0 G 247 sn) (mX0 G 248 sn) (mX1 G 247 sn) (mX1 G 248 sn) (G 245 (4 * sn + 2)) i.toNat)) → (G 246 (4 * sn) + 1 - i) < (n_i : Int) → gW p l e R s m args below meth c (MQ below (gQv D A ad 265 (fun ce' => ∃ F' G', ce' = mem ad t F' G' ∧ (fun F' G' => mtR F G sn S F' G' (satE (mX0 G 247 sn) (mX0 G 248 sn) (mX1 G 247 sn) (mX1 G 248 sn) (G 245 (4 * sn + 2)) (G 246 (4 * sn)))) F' G')) args s 0 0 A) D A 13 (gZ) 0 0 ad 265 (mem ad t F1 G1) 23 [(0, .ref (ad 244)), (1, .int (iI sn)), (2, .int (iI (G 246 (4 * sn)))), (3, .int (iI (96 * sn))), (4, .int (iI ((96 * sn) + 24))), (5, .int (iI i))] [] := by
    intro n_i
    induction n_i with
    | zero =>
      intro i F1 G1 hi hls hR1 hm_i
      exact absurd hm_i (by omega)
    | succ n_i ih_i =>
      intro i F1 G1 hi hls hR1 hm_i
      refine g_iload ok d_Mo_satin_23 5 rfl ?_
      refine g_iconst ok d_Mo_satin_25 ?_
      refine g_iadd ok d_Mo_satin_26 ?_
      refine g_iload_n ok d_Mo_satin_27 rfl 2 rfl ?_
      refine g_icmp_ge ok 325 d_Mo_satin_28 (by decide) (by omega) (by omega) (fun h1 => ?_) (fun h1 => ?_)
      · have hie : i = G 246 (4 * sn) - 1 := by omega
        refine g_aload_n ok d_Mo_satin_325 rfl 0 rfl ?_
        refine g_iload_n ok d_Mo_satin_326 rfl 1 rfl ?_
        refine g_aload_n ok d_Mo_satin_327 rfl 0 rfl ?_
        refine gI_Mo_cx ok _ rfl k_994 d_Mo_satin_328 ?_
        refine g_iload_n ok d_Mo_satin_331 rfl 3 rfl ?_
        refine g_iload_n ok d_Mo_satin_332 rfl 2 rfl ?_
        refine g_iadd ok d_Mo_satin_333 ?_
        refine g_iconst ok d_Mo_satin_334 ?_
        refine g_isub ok d_Mo_satin_335 ?_
        refine h_iald ok _ a_247 (by omega) d_Mo_satin_336 ?_
        refine g_top (y := G 247 (((96 * sn) + (G 246 (4 * sn))) - 1)) (by show G1 247 (((96 * sn) + (G 246 (4 * sn))) - 1) = _; rw [hR1.2.2.2.2.2 247 (by decide) (by omega)]) ?_
        refine g_top (y := mX0 G 247 sn (G 246 (4 * sn) - 1)) (by show G 247 (((96 * sn) + (G 246 (4 * sn))) - 1) = G 247 _; first | rfl | (congr 1; omega)) ?_
        refine g_aload_n ok d_Mo_satin_337 rfl 0 rfl ?_
        refine gI_Mo_cy ok _ rfl k_995 d_Mo_satin_338 ?_
        refine g_iload_n ok d_Mo_satin_341 rfl 3 rfl ?_
        refine g_iload_n ok d_Mo_satin_342 rfl 2 rfl ?_
        refine g_iadd ok d_Mo_satin_343 ?_
        refine g_iconst ok d_Mo_satin_344 ?_
        refine g_isub ok d_Mo_satin_345 ?_
        refine h_iald ok _ a_248 (by omega) d_Mo_satin_346 ?_
        refine g_top (y := G 248 (((96 * sn) + (G 246 (4 * sn))) - 1)) (by show G1 248 (((96 * sn) + (G 246 (4 * sn))) - 1) = _; rw [hR1.2.2.2.2.2 248 (by decide) (by omega)]) ?_
        refine g_top (y := mX0 G 248 sn (G 246 (4 * sn) - 1)) (by show G 248 (((96 * sn) + (G 246 (4 * sn))) - 1) = G 248 _; first | rfl | (congr 1; omega)) ?_
        refine g_iconst ok d_Mo_satin_347 ?_
        refine g_top (y := b2 false) rfl ?_
        refine g_callVV (As := [.int (iI sn), .int (iI (mX0 G 247 sn (G 246 (4 * sn) - 1))), .int (iI (mX0 G 248 sn (G 246 (4 * sn) - 1))), .int (iI (b2 false))]) (st := []) ok _ (c_Mo_comes F1 G1 F G sn _ _ false S _ hB hR1 (hP0 _ (by omega) (by omega)) (fun z => absurd hls.1 (by rw [z]; show ¬ 2 * i ≤ (0 : Int); omega)) (by omega) s0 a0 D t ad) k_1209 k_11 k_1206 cl_Mo (m_Mo (ad := ad) (t := t) (F := F1) (G := G1) rfl).1 (m_Mo rfl).2 k_1208 s_Mo_comes q_Mo_comes (by decide) (Nat.le_of_ble_eq_true rfl) (by decide) d_Mo_satin_348 (fun ce1 hc2 => ?_)
        obtain ⟨F104, G104, rfl, hR104⟩ := hc2
        refine g_aload_n ok d_Mo_satin_351 rfl 0 rfl ?_
        refine g_iload_n ok d_Mo_satin_352 rfl 1 rfl ?_
        refine g_aload_n ok d_Mo_satin_353 rfl 0 rfl ?_
        refine gI_Mo_cx ok _ rfl k_994 d_Mo_satin_354 ?_
        refine g_iload ok d_Mo_satin_357 4 rfl ?_
        refine g_iload_n ok d_Mo_satin_359 rfl 2 rfl ?_
        refine g_iadd ok d_Mo_satin_360 ?_
        refine g_iconst ok d_Mo_satin_361 ?_
        refine g_isub ok d_Mo_satin_362 ?_
        refine h_iald ok _ a_247 (by omega) d_Mo_satin_363 ?_
        refine g_top (y := G 247 ((((96 * sn) + 24) + (G 246 (4 * sn))) - 1)) (by show G104 247 ((((96 * sn) + 24) + (G 246 (4 * sn))) - 1) = _; rw [hR104.2.2.2.2.2 247 (by decide) (by omega)]) ?_
        refine g_top (y := mX1 G 247 sn (G 246 (4 * sn) - 1)) (by show G 247 ((((96 * sn) + 24) + (G 246 (4 * sn))) - 1) = G 247 _; first | rfl | (congr 1; omega)) ?_
        refine g_aload_n ok d_Mo_satin_364 rfl 0 rfl ?_
        refine gI_Mo_cy ok _ rfl k_995 d_Mo_satin_365 ?_
        refine g_iload ok d_Mo_satin_368 4 rfl ?_
        refine g_iload_n ok d_Mo_satin_370 rfl 2 rfl ?_
        refine g_iadd ok d_Mo_satin_371 ?_
        refine g_iconst ok d_Mo_satin_372 ?_
        refine g_isub ok d_Mo_satin_373 ?_
        refine h_iald ok _ a_248 (by omega) d_Mo_satin_374 ?_
        refine g_top (y := G 248 ((((96 * sn) + 24) + (G 246 (4 * sn))) - 1)) (by show G104 248 ((((96 * sn) + 24) + (G 246 (4 * sn))) - 1) = _; rw [hR104.2.2.2.2.2 248 (by decide) (by omega)]) ?_
        refine g_top (y := mX1 G 248 sn (G 246 (4 * sn) - 1)) (by show G 248 ((((96 * sn) + 24) + (G 246 (4 * sn))) - 1) = G 248 _; first | rfl | (congr 1; omega)) ?_
        refine g_iconst ok d_Mo_satin_375 ?_
        refine g_top (y := b2 false) rfl ?_
        refine g_callVV (As := [.int (iI sn), .int (iI (mX1 G 247 sn (G 246 (4 * sn) - 1))), .int (iI (mX1 G 248 sn (G 246 (4 * sn) - 1))), .int (iI (b2 false))]) (st := []) ok _ (c_Mo_comes F104 G104 F G sn _ _ false S _ hB hR104 (hP1 _ (by omega) (by omega)) (fun z => absurd z sn_ne) (by rw [len_snoc]; omega) s0 a0 D t ad) k_1209 k_11 k_1206 cl_Mo (m_Mo (ad := ad) (t := t) (F := F104) (G := G104) rfl).1 (m_Mo rfl).2 k_1208 s_Mo_comes q_Mo_comes (by decide) (Nat.le_of_ble_eq_true rfl) (by decide) d_Mo_satin_376 (fun ce1 hc3 => ?_)
        obtain ⟨F105, G105, rfl, hR105⟩ := hc3
        exact g_vret ok d_Mo_satin_379 ⟨_, _, rfl, by unfold satE; rw [← hie]; rw [← hie] at hR105; exact hR105⟩
      · have b0 := hP0 i hi.1 (by omega)
        have b1 := hP0 (i + 1) (by omega) (by omega)
        have b2x := hP1 i hi.1 (by omega)
        have b3 := hP1 (i + 1) (by omega) (by omega)
        have f0 := sgF_rng (X := (mX0 G 247 sn)) (Y := (mX0 G 248 sn)) (i := i) b0 b1
        have f1 := sgF_rng (X := (mX1 G 247 sn)) (Y := (mX1 G 248 sn)) (i := i) b2x b3
        have hmr := sgM_rng (X0 := (mX0 G 247 sn)) (Y0 := (mX0 G 248 sn)) (X1 := (mX1 G 247 sn)) (Y1 := (mX1 G 248 sn)) (sp := G 245 (4 * sn + 2)) (i := i) hsp f0 f1
        have hqd : 0 ≤ (max (sgF (mX0 G 247 sn) (mX0 G 248 sn) i) (sgF (mX1 G 247 sn) (mX1 G 248 sn) i) + G 245 (4 * sn + 2) - 1) / G 245 (4 * sn + 2) ∧ (max (sgF (mX0 G 247 sn) (mX0 G 248 sn) i) (sgF (mX1 G 247 sn) (mX1 G 248 sn) i) + G 245 (4 * sn + 2) - 1) / G 245 (4 * sn + 2) ≤ 600 := ⟨Int.ediv_nonneg (by omega) (by omega), Int.ediv_le_of_le_mul (by omega) (by omega)⟩
        unfold inR at b0 b1 b2x b3
        refine g_aload_n ok d_Mo_satin_31 rfl 0 rfl ?_
        refine gI_Mo_cx ok _ rfl k_994 d_Mo_satin_32 ?_
        refine g_iload_n ok d_Mo_satin_35 rfl 3 rfl ?_
        refine g_iload ok d_Mo_satin_36 5 rfl ?_
        refine g_iadd ok d_Mo_satin_38 ?_
        refine g_iconst ok d_Mo_satin_39 ?_
        refine g_iadd ok d_Mo_satin_40 ?_
        refine h_iald ok _ a_247 (by omega) d_Mo_satin_41 ?_
        refine g_top (y := G 247 (((96 * sn) + i) + 1)) (by show G1 247 (((96 * sn) + i) + 1) = _; rw [hR1.2.2.2.2.2 247 (by decide) (by omega)]) ?_
        refine g_top (y := mX0 G 247 sn (i + 1)) (by show G 247 (((96 * sn) + i) + 1) = G 247 _; first | rfl | (congr 1; omega)) ?_
        refine g_aload_n ok d_Mo_satin_42 rfl 0 rfl ?_
        refine gI_Mo_cx ok _ rfl k_994 d_Mo_satin_43 ?_
        refine g_iload_n ok d_Mo_satin_46 rfl 3 rfl ?_
        refine g_iload ok d_Mo_satin_47 5 rfl ?_
        refine g_iadd ok d_Mo_satin_49 ?_
        refine h_iald ok _ a_247 (by omega) d_Mo_satin_50 ?_
        refine g_top (y := G 247 ((96 * sn) + i)) (by show G1 247 ((96 * sn) + i) = _; rw [hR1.2.2.2.2.2 247 (by decide) (by omega)]) ?_
        refine g_top (y := mX0 G 247 sn i) (by show G 247 ((96 * sn) + i) = G 247 _; first | rfl | (congr 1; omega)) ?_
        refine g_isub ok d_Mo_satin_51 ?_
        refine g_istore (lv' := [(6, .int (iI ((mX0 G 247 sn (i + 1)) - (mX0 G 247 sn i)))), (0, .ref (ad 244)), (1, .int (iI sn)), (2, .int (iI (G 246 (4 * sn)))), (3, .int (iI (96 * sn))), (4, .int (iI ((96 * sn) + 24))), (5, .int (iI i))]) ok d_Mo_satin_52 (by decide) rfl ?_
        refine g_aload_n ok d_Mo_satin_54 rfl 1 rfl ?_
        refine gI_Mo_cy ok _ rfl k_995 d_Mo_satin_55 ?_
        refine g_iload_n ok d_Mo_satin_58 rfl 4 rfl ?_
        refine g_iload ok d_Mo_satin_59 6 rfl ?_
        refine g_iadd ok d_Mo_satin_61 ?_
        refine g_iconst ok d_Mo_satin_62 ?_
        refine g_iadd ok d_Mo_satin_63 ?_
        refine h_iald ok _ a_248 (by omega) d_Mo_satin_64 ?_
        refine g_top (y := G 248 (((96 * sn) + i) + 1)) (by show G1 248 (((96 * sn) + i) + 1) = _; rw [hR1.2.2.2.2.2 248 (by decide) (by omega)]) ?_
        refine g_top (y := mX0 G 248 sn (i + 1)) (by show G 248 (((96 * sn) + i) + 1) = G 248 _; first | rfl | (congr 1; omega)) ?_
        refine g_aload_n ok d_Mo_satin_65 rfl 1 rfl ?_
        refine gI_Mo_cy ok _ rfl k_995 d_Mo_satin_66 ?_
        refine g_iload_n ok d_Mo_satin_69 rfl 4 rfl ?_
        refine g_iload ok d_Mo_satin_70 6 rfl ?_
        refine g_iadd ok d_Mo_satin_72 ?_
        refine h_iald ok _ a_248 (by omega) d_Mo_satin_73 ?_
        refine g_top (y := G 248 ((96 * sn) + i)) (by show G1 248 ((96 * sn) + i) = _; rw [hR1.2.2.2.2.2 248 (by decide) (by omega)]) ?_
        refine g_top (y := mX0 G 248 sn i) (by show G 248 ((96 * sn) + i) = G 248 _; first | rfl | (congr 1; omega)) ?_
        refine g_isub ok d_Mo_satin_74 ?_
        refine g_istore (lv' := [(7, .int (iI ((mX0 G 248 sn (i + 1)) - (mX0 G 248 sn i)))), (6, .int (iI ((mX0 G 247 sn (i + 1)) - (mX0 G 247 sn i)))), (0, .ref (ad 244)), (1, .int (iI sn)), (2, .int (iI (G 246 (4 * sn)))), (3, .int (iI (96 * sn))), (4, .int (iI ((96 * sn) + 24))), (5, .int (iI i))]) ok d_Mo_satin_75 (by decide) rfl ?_
        refine g_aload_n ok d_Mo_satin_77 rfl 2 rfl ?_
        refine gI_Mo_cx ok _ rfl k_994 d_Mo_satin_78 ?_
        refine g_iload ok d_Mo_satin_81 6 rfl ?_
        refine g_iload ok d_Mo_satin_83 7 rfl ?_
        refine g_iadd ok d_Mo_satin_85 ?_
        refine g_iconst ok d_Mo_satin_86 ?_
        refine g_iadd ok d_Mo_satin_87 ?_
        refine h_iald ok _ a_247 (by omega) d_Mo_satin_88 ?_
        refine g_top (y := G 247 ((((96 * sn) + 24) + i) + 1)) (by show G1 247 ((((96 * sn) + 24) + i) + 1) = _; rw [hR1.2.2.2.2.2 247 (by decide) (by omega)]) ?_
        refine g_top (y := mX1 G 247 sn (i + 1)) (by show G 247 ((((96 * sn) + 24) + i) + 1) = G 247 _; first | rfl | (congr 1; omega)) ?_
        refine g_aload_n ok d_Mo_satin_89 rfl 2 rfl ?_
        refine gI_Mo_cx ok _ rfl k_994 d_Mo_satin_90 ?_
        refine g_iload ok d_Mo_satin_93 6 rfl ?_
        refine g_iload ok d_Mo_satin_95 7 rfl ?_
        refine g_iadd ok d_Mo_satin_97 ?_
        refine h_iald ok _ a_247 (by omega) d_Mo_satin_98 ?_
        refine g_top (y := G 247 (((96 * sn) + 24) + i)) (by show G1 247 (((96 * sn) + 24) + i) = _; rw [hR1.2.2.2.2.2 247 (by decide) (by omega)]) ?_
        refine g_top (y := mX1 G 247 sn i) (by show G 247 (((96 * sn) + 24) + i) = G 247 _; first | rfl | (congr 1; omega)) ?_
        refine g_isub ok d_Mo_satin_99 ?_
        refine g_istore (lv' := [(8, .int (iI ((mX1 G 247 sn (i + 1)) - (mX1 G 247 sn i)))), (7, .int (iI ((mX0 G 248 sn (i + 1)) - (mX0 G 248 sn i)))), (6, .int (iI ((mX0 G 247 sn (i + 1)) - (mX0 G 247 sn i)))), (0, .ref (ad 244)), (1, .int (iI sn)), (2, .int (iI (G 246 (4 * sn)))), (3, .int (iI (96 * sn))), (4, .int (iI ((96 * sn) + 24))), (5, .int (iI i))]) ok d_Mo_satin_100 (by decide) rfl ?_
        refine g_aload_n ok d_Mo_satin_102 rfl 3 rfl ?_
        refine gI_Mo_cy ok _ rfl k_995 d_Mo_satin_103 ?_
        refine g_iload ok d_Mo_satin_106 7 rfl ?_
        refine g_iload ok d_Mo_satin_108 8 rfl ?_
        refine g_iadd ok d_Mo_satin_110 ?_
        refine g_iconst ok d_Mo_satin_111 ?_
        refine g_iadd ok d_Mo_satin_112 ?_
        refine h_iald ok _ a_248 (by omega) d_Mo_satin_113 ?_
        refine g_top (y := G 248 ((((96 * sn) + 24) + i) + 1)) (by show G1 248 ((((96 * sn) + 24) + i) + 1) = _; rw [hR1.2.2.2.2.2 248 (by decide) (by omega)]) ?_
        refine g_top (y := mX1 G 248 sn (i + 1)) (by show G 248 ((((96 * sn) + 24) + i) + 1) = G 248 _; first | rfl | (congr 1; omega)) ?_
        refine g_aload_n ok d_Mo_satin_114 rfl 3 rfl ?_
        refine gI_Mo_cy ok _ rfl k_995 d_Mo_satin_115 ?_
        refine g_iload ok d_Mo_satin_118 7 rfl ?_
        refine g_iload ok d_Mo_satin_120 8 rfl ?_
        refine g_iadd ok d_Mo_satin_122 ?_
        refine h_iald ok _ a_248 (by omega) d_Mo_satin_123 ?_
        refine g_top (y := G 248 (((96 * sn) + 24) + i)) (by show G1 248 (((96 * sn) + 24) + i) = _; rw [hR1.2.2.2.2.2 248 (by decide) (by omega)]) ?_
        refine g_top (y := mX1 G 248 sn i) (by show G 248 (((96 * sn) + 24) + i) = G 248 _; first | rfl | (congr 1; omega)) ?_
        refine g_isub ok d_Mo_satin_124 ?_
        refine g_istore (lv' := [(9, .int (iI ((mX1 G 248 sn (i + 1)) - (mX1 G 248 sn i)))), (8, .int (iI ((mX1 G 247 sn (i + 1)) - (mX1 G 247 sn i)))), (7, .int (iI ((mX0 G 248 sn (i + 1)) - (mX0 G 248 sn i)))), (6, .int (iI ((mX0 G 247 sn (i + 1)) - (mX0 G 247 sn i)))), (0, .ref (ad 244)), (1, .int (iI sn)), (2, .int (iI (G 246 (4 * sn)))), (3, .int (iI (96 * sn))), (4, .int (iI ((96 * sn) + 24))), (5, .int (iI i))]) ok d_Mo_satin_125 (by decide) rfl ?_
        refine g_iload ok d_Mo_satin_127 3 rfl ?_
        refine g_callPS (As := [.int (iI ((mX0 G 247 sn (i + 1)) - (mX0 G 247 sn i)))]) (st := []) ok (c_Mo_size F1 G1 _ (by omega) s0 a0 D t ad) k_1157 k_11 k_1155 k_1156 q_Mo_size (by decide) (Nat.le_of_ble_eq_true rfl) (by decide) d_Mo_satin_129 (fun z4 hc4 => ?_)
        subst hc4
        refine g_top (y := iab ((mX0 G 247 sn (i + 1)) - (mX0 G 247 sn i))) rfl ?_
        have hab4 := iab_rng (a := (mX0 G 247 sn (i + 1)) - (mX0 G 247 sn i)) (by omega)
        refine g_iload ok d_Mo_satin_132 2 rfl ?_
        refine g_callPS (As := [.int (iI ((mX0 G 248 sn (i + 1)) - (mX0 G 248 sn i)))]) (st := [.int (iI (iab ((mX0 G 247 sn (i + 1)) - (mX0 G 247 sn i))))]) ok (c_Mo_size F1 G1 _ (by omega) s0 a0 D t ad) k_1157 k_11 k_1155 k_1156 q_Mo_size (by decide) (Nat.le_of_ble_eq_true rfl) (by decide) d_Mo_satin_134 (fun z5 hc5 => ?_)
        subst hc5
        refine g_top (y := iab ((mX0 G 248 sn (i + 1)) - (mX0 G 248 sn i))) rfl ?_
        have hab5 := iab_rng (a := (mX0 G 248 sn (i + 1)) - (mX0 G 248 sn i)) (by omega)
        refine g_callPS (As := [.int (iI (iab ((mX0 G 247 sn (i + 1)) - (mX0 G 247 sn i)))), .int (iI (iab ((mX0 G 248 sn (i + 1)) - (mX0 G 248 sn i))))]) (st := []) ok (c_Mo_greater F1 G1 _ _ (by omega) (by omega) s0 a0 D t ad) k_1220 k_11 k_1218 k_1219 q_Mo_greater (by decide) (Nat.le_of_ble_eq_true rfl) (by decide) d_Mo_satin_137 (fun z6 hc6 => ?_)
        subst hc6
        refine g_top (y := sgF (mX0 G 247 sn) (mX0 G 248 sn) i) rfl ?_
        refine g_iload ok d_Mo_satin_140 1 rfl ?_
        refine g_callPS (As := [.int (iI ((mX1 G 247 sn (i + 1)) - (mX1 G 247 sn i)))]) (st := [.int (iI (sgF (mX0 G 247 sn) (mX0 G 248 sn) i))]) ok (c_Mo_size F1 G1 _ (by omega) s0 a0 D t ad) k_1157 k_11 k_1155 k_1156 q_Mo_size (by decide) (Nat.le_of_ble_eq_true rfl) (by decide) d_Mo_satin_142 (fun z7 hc7 => ?_)
        subst hc7
        refine g_top (y := iab ((mX1 G 247 sn (i + 1)) - (mX1 G 247 sn i))) rfl ?_
        have hab7 := iab_rng (a := (mX1 G 247 sn (i + 1)) - (mX1 G 247 sn i)) (by omega)
        refine g_iload ok d_Mo_satin_145 0 rfl ?_
        refine g_callPS (As := [.int (iI ((mX1 G 248 sn (i + 1)) - (mX1 G 248 sn i)))]) (st := [.int (iI (iab ((mX1 G 247 sn (i + 1)) - (mX1 G 247 sn i)))), .int (iI (sgF (mX0 G 247 sn) (mX0 G 248 sn) i))]) ok (c_Mo_size F1 G1 _ (by omega) s0 a0 D t ad) k_1157 k_11 k_1155 k_1156 q_Mo_size (by decide) (Nat.le_of_ble_eq_true rfl) (by decide) d_Mo_satin_147 (fun z8 hc8 => ?_)
        subst hc8
        refine g_top (y := iab ((mX1 G 248 sn (i + 1)) - (mX1 G 248 sn i))) rfl ?_
        have hab8 := iab_rng (a := (mX1 G 248 sn (i + 1)) - (mX1 G 248 sn i)) (by omega)
        refine g_callPS (As := [.int (iI (iab ((mX1 G 247 sn (i + 1)) - (mX1 G 247 sn i)))), .int (iI (iab ((mX1 G 248 sn (i + 1)) - (mX1 G 248 sn i))))]) (st := [.int (iI (sgF (mX0 G 247 sn) (mX0 G 248 sn) i))]) ok (c_Mo_greater F1 G1 _ _ (by omega) (by omega) s0 a0 D t ad) k_1220 k_11 k_1218 k_1219 q_Mo_greater (by decide) (Nat.le_of_ble_eq_true rfl) (by decide) d_Mo_satin_150 (fun z9 hc9 => ?_)
        subst hc9
        refine g_top (y := sgF (mX1 G 247 sn) (mX1 G 248 sn) i) rfl ?_
        refine g_callPS (As := [.int (iI (sgF (mX0 G 247 sn) (mX0 G 248 sn) i)), .int (iI (sgF (mX1 G 247 sn) (mX1 G 248 sn) i))]) (st := []) ok (c_Mo_greater F1 G1 _ _ (by omega) (by omega) s0 a0 D t ad) k_1220 k_11 k_1218 k_1219 q_Mo_greater (by decide) (Nat.le_of_ble_eq_true rfl) (by decide) d_Mo_satin_153 (fun z10 hc10 => ?_)
        subst hc10
        refine g_istore (lv' := [(10, .int (iI (max (sgF (mX0 G 247 sn) (mX0 G 248 sn) i) (sgF (mX1 G 247 sn) (mX1 G 248 sn) i)))), (9, .int (iI ((mX1 G 248 sn (i + 1)) - (mX1 G 248 sn i)))), (8, .int (iI ((mX1 G 247 sn (i + 1)) - (mX1 G 247 sn i)))), (7, .int (iI ((mX0 G 248 sn (i + 1)) - (mX0 G 248 sn i)))), (6, .int (iI ((mX0 G 247 sn (i + 1)) - (mX0 G 247 sn i)))), (0, .ref (ad 244)), (1, .int (iI sn)), (2, .int (iI (G 246 (4 * sn)))), (3, .int (iI (96 * sn))), (4, .int (iI ((96 * sn) + 24))), (5, .int (iI i))]) ok d_Mo_satin_156 (by decide) rfl ?_
        refine g_iload ok d_Mo_satin_158 0 rfl ?_
        refine g_aload_n ok d_Mo_satin_160 rfl 5 rfl ?_
        refine gI_Mo_told ok _ rfl k_992 d_Mo_satin_161 ?_
        refine g_iconst ok d_Mo_satin_164 ?_
        refine g_iload_n ok d_Mo_satin_165 rfl 6 rfl ?_
        refine g_imul ok d_Mo_satin_166 ?_
        refine g_iconst ok d_Mo_satin_167 ?_
        refine g_iadd ok d_Mo_satin_168 ?_
        refine h_iald ok _ a_245 (by omega) d_Mo_satin_169 ?_
        refine g_top (y := G 245 ((4 * sn) + 2)) (by show G1 245 ((4 * sn) + 2) = _; rw [hR1.2.2.2.2.2 245 (by decide) (by omega)]) ?_
        refine g_iadd ok d_Mo_satin_170 ?_
        refine g_iconst ok d_Mo_satin_171 ?_
        refine g_isub ok d_Mo_satin_172 ?_
        refine g_aload_n ok d_Mo_satin_173 rfl 5 rfl ?_
        refine gI_Mo_told ok _ rfl k_992 d_Mo_satin_174 ?_
        refine g_iconst ok d_Mo_satin_177 ?_
        refine g_iload_n ok d_Mo_satin_178 rfl 6 rfl ?_
        refine g_imul ok d_Mo_satin_179 ?_
        refine g_iconst ok d_Mo_satin_180 ?_
        refine g_iadd ok d_Mo_satin_181 ?_
        refine h_iald ok _ a_245 (by omega) d_Mo_satin_182 ?_
        refine g_top (y := G 245 ((4 * sn) + 2)) (by show G1 245 ((4 * sn) + 2) = _; rw [hR1.2.2.2.2.2 245 (by decide) (by omega)]) ?_
        refine g_idiv (z := (((max (sgF (mX0 G 247 sn) (mX0 G 248 sn) i) (sgF (mX1 G 247 sn) (mX1 G 248 sn) i)) + (G 245 ((4 * sn) + 2))) - 1) / (G 245 ((4 * sn) + 2))) ok (iI_ne0 (by omega)) (iI_divN (by omega) (by omega)) d_Mo_satin_183 ?_
        refine g_istore (lv' := [(11, .int (iI ((((max (sgF (mX0 G 247 sn) (mX0 G 248 sn) i) (sgF (mX1 G 247 sn) (mX1 G 248 sn) i)) + (G 245 ((4 * sn) + 2))) - 1) / (G 245 ((4 * sn) + 2))))), (10, .int (iI (max (sgF (mX0 G 247 sn) (mX0 G 248 sn) i) (sgF (mX1 G 247 sn) (mX1 G 248 sn) i)))), (9, .int (iI ((mX1 G 248 sn (i + 1)) - (mX1 G 248 sn i)))), (8, .int (iI ((mX1 G 247 sn (i + 1)) - (mX1 G 247 sn i)))), (7, .int (iI ((mX0 G 248 sn (i + 1)) - (mX0 G 248 sn i)))), (6, .int (iI ((mX0 G 247 sn (i + 1)) - (mX0 G 247 sn i)))), (0, .ref (ad 244)), (1, .int (iI sn)), (2, .int (iI (G 246 (4 * sn)))), (3, .int (iI (96 * sn))), (4, .int (iI ((96 * sn) + 24))), (5, .int (iI i))]) ok d_Mo_satin_184 (by decide) rfl ?_
        refine g_iload ok d_Mo_satin_186 0 rfl ?_
        refine g_iconst ok d_Mo_satin_188 ?_
        refine g_icmp_ge ok 195 d_Mo_satin_189 (by decide) (by omega) (by omega) (fun h11 => ?_) (fun h11 => ?_)
        · have hqm : (((max (sgF (mX0 G 247 sn) (mX0 G 248 sn) i) (sgF (mX1 G 247 sn) (mX1 G 248 sn) i)) + (G 245 ((4 * sn) + 2))) - 1) / (G 245 ((4 * sn) + 2)) = sgM (mX0 G 247 sn) (mX0 G 248 sn) (mX1 G 247 sn) (mX1 G 248 sn) (G 245 (4 * sn + 2)) i := by unfold sgM; omega
          rw [hqm]
          refine g_iconst ok d_Mo_satin_195 ?_
          refine g_istore (lv' := [(12, .int (iI 0)), (11, .int (iI (sgM (mX0 G 247 sn) (mX0 G 248 sn) (mX1 G 247 sn) (mX1 G 248 sn) (G 245 (4 * sn + 2)) i))), (10, .int (iI (max (sgF (mX0 G 247 sn) (mX0 G 248 sn) i) (sgF (mX1 G 247 sn) (mX1 G 248 sn) i)))), (9, .int (iI ((mX1 G 248 sn (i + 1)) - (mX1 G 248 sn i)))), (8, .int (iI ((mX1 G 247 sn (i + 1)) - (mX1 G 247 sn i)))), (7, .int (iI ((mX0 G 248 sn (i + 1)) - (mX0 G 248 sn i)))), (6, .int (iI ((mX0 G 247 sn (i + 1)) - (mX0 G 247 sn i)))), (0, .ref (ad 244)), (1, .int (iI sn)), (2, .int (iI (G 246 (4 * sn)))), (3, .int (iI (96 * sn))), (4, .int (iI ((96 * sn) + 24))), (5, .int (iI i))]) ok d_Mo_satin_196 (by decide) rfl ?_
          have L_j : ∀ (n_j : Nat) (j : Int) (F2 : Nat → Nat → Int) (G2 : Nat → Int → Int), (0 ≤ j ∧ j ≤ sgM (mX0 G 247 sn) (mX0 G 248 sn) (mX1 G 247 sn) (mX1 G 248 sn) (G 245 (4 * sn + 2)) i) → (mtR F G sn S F2 G2 (satP (mX0 G 247 sn) (mX0 G 248 sn) (mX1 G 247 sn) (mX1 G 248 sn) (G 245 (4 * sn + 2)) i.toNat ++ sgE (mX0 G 247 sn) (mX0 G 248 sn) (mX1 G 247 sn) (mX1 G 248 sn) i (sgM (mX0 G 247 sn) (mX0 G 248 sn) (mX1 G 247 sn) (mX1 G 248 sn) (G 245 (4 * sn + 2)) i) j.toNat)) → (sgM (mX0 G 247 sn) (mX0 G 248 sn) (mX1 G 247 sn) (mX1 G 248 sn) (G 245 (4 * sn + 2)) i + 1 - j) < (n_j : Int) → gW p l e R s m args below meth c (MQ below (gQv D A ad 265 (fun ce' => ∃ F' G', ce' = mem ad t F' G' ∧ (fun F' G' => mtR F G sn S F' G' (satE (mX0 G 247 sn) (mX0 G 248 sn) (mX1 G 247 sn) (mX1 G 248 sn) (G 245 (4 * sn + 2)) (G 246 (4 * sn)))) F' G')) args s 0 0 A) D A 13 (gZ) 0 0 ad 265 (mem ad t F2 G2) 198 [(0, .ref (ad 244)), (1, .int (iI sn)), (2, .int (iI (G 246 (4 * sn)))), (3, .int (iI (96 * sn))), (4, .int (iI ((96 * sn) + 24))), (5, .int (iI i)), (6, .int (iI (mX0 G 247 sn (i + 1) - mX0 G 247 sn i))), (7, .int (iI (mX0 G 248 sn (i + 1) - mX0 G 248 sn i))), (8, .int (iI (mX1 G 247 sn (i + 1) - mX1 G 247 sn i))), (9, .int (iI (mX1 G 248 sn (i + 1) - mX1 G 248 sn i))), (10, .int (iI (max (sgF (mX0 G 247 sn) (mX0 G 248 sn) i) (sgF (mX1 G 247 sn) (mX1 G 248 sn) i)))), (11, .int (iI (sgM (mX0 G 247 sn) (mX0 G 248 sn) (mX1 G 247 sn) (mX1 G 248 sn) (G 245 (4 * sn + 2)) i))), (12, .int (iI j))] [] := by
            intro n_j
            induction n_j with
            | zero =>
              intro j F2 G2 hj hR2 hm_j
              exact absurd hm_j (by omega)
            | succ n_j ih_j =>
              intro j F2 G2 hj hR2 hm_j
              have hln : ((satP (mX0 G 247 sn) (mX0 G 248 sn) (mX1 G 247 sn) (mX1 G 248 sn) (G 245 (4 * sn + 2)) i.toNat ++ sgE (mX0 G 247 sn) (mX0 G 248 sn) (mX1 G 247 sn) (mX1 G 248 sn) i (sgM (mX0 G 247 sn) (mX0 G 248 sn) (mX1 G 247 sn) (mX1 G 248 sn) (G 245 (4 * sn + 2)) i) j.toNat).length : Int) = ((satP (mX0 G 247 sn) (mX0 G 248 sn) (mX1 G 247 sn) (mX1 G 248 sn) (G 245 (4 * sn + 2)) i.toNat).length : Int) + 2 * j := by rw [List.length_append, sgE_len]; omega
              refine g_iload ok d_Mo_satin_198 12 rfl ?_
              refine g_iload ok d_Mo_satin_200 11 rfl ?_
              refine g_icmp_ge ok 319 d_Mo_satin_202 (by decide) (by omega) (by omega) (fun h12 => ?_) (fun h12 => ?_)
              · refine g_iinc (lv' := [(5, .int (iI (i + 1))), (0, .ref (ad 244)), (1, .int (iI sn)), (2, .int (iI (G 246 (4 * sn)))), (3, .int (iI (96 * sn))), (4, .int (iI ((96 * sn) + 24))), (6, .int (iI (mX0 G 247 sn (i + 1) - mX0 G 247 sn i))), (7, .int (iI (mX0 G 248 sn (i + 1) - mX0 G 248 sn i))), (8, .int (iI (mX1 G 247 sn (i + 1) - mX1 G 247 sn i))), (9, .int (iI (mX1 G 248 sn (i + 1) - mX1 G 248 sn i))), (10, .int (iI (max (sgF (mX0 G 247 sn) (mX0 G 248 sn) i) (sgF (mX1 G 247 sn) (mX1 G 248 sn) i)))), (11, .int (iI (sgM (mX0 G 247 sn) (mX0 G 248 sn) (mX1 G 247 sn) (mX1 G 248 sn) (G 245 (4 * sn + 2)) i))), (12, .int (iI j))]) ok d_Mo_satin_319 5 rfl (by decide) rfl ?_
                refine g_goto ok 23 d_Mo_satin_322 (by decide) ?_
                refine g_lv [1, 2, 3, 4, 5, 0] rfl ?_
                exact ih_i (i + 1) F2 G2 (by omega) (by rw [satP_step hi.1, List.length_append, sgE_len]; omega) (by rw [satP_step hi.1]; rw [show j = sgM (mX0 G 247 sn) (mX0 G 248 sn) (mX1 G 247 sn) (mX1 G 248 sn) (G 245 (4 * sn + 2)) i by omega] at hR2; exact hR2) (by omega)
              · refine g_aload_n ok d_Mo_satin_205 rfl 0 rfl ?_
                refine g_iload_n ok d_Mo_satin_206 rfl 1 rfl ?_
                refine g_aload_n ok d_Mo_satin_207 rfl 0 rfl ?_
                refine gI_Mo_cx ok _ rfl k_994 d_Mo_satin_208 ?_
                refine g_iload_n ok d_Mo_satin_211 rfl 3 rfl ?_
                refine g_iload ok d_Mo_satin_212 5 rfl ?_
                refine g_iadd ok d_Mo_satin_214 ?_
                refine h_iald ok _ a_247 (by omega) d_Mo_satin_215 ?_
                refine g_top (y := G 247 ((96 * sn) + i)) (by show G2 247 ((96 * sn) + i) = _; rw [hR2.2.2.2.2.2 247 (by decide) (by omega)]) ?_
                refine g_top (y := mX0 G 247 sn i) (by show G 247 ((96 * sn) + i) = G 247 _; first | rfl | (congr 1; omega)) ?_
                refine g_iload ok d_Mo_satin_216 12 rfl ?_
                refine g_iload ok d_Mo_satin_218 6 rfl ?_
                refine g_imul ok d_Mo_satin_220 ?_
                refine g_iload ok d_Mo_satin_221 11 rfl ?_
                have hpr12 : -2147483648 ≤ j * (mX0 G 247 sn (i + 1) - mX0 G 247 sn i) ∧ j * (mX0 G 247 sn (i + 1) - mX0 G 247 sn i) < 2147483648 := by have h := mul_rng (a := j) (b := mX0 G 247 sn (i + 1) - mX0 G 247 sn i) (by omega) (by omega); omega
                refine g_callPS (As := [.int (iI (j * (mX0 G 247 sn (i + 1) - mX0 G 247 sn i))), .int (iI (sgM (mX0 G 247 sn) (mX0 G 248 sn) (mX1 G 247 sn) (mX1 G 248 sn) (G 245 (4 * sn + 2)) i))]) (st := [.int (iI (mX0 G 247 sn i)), .int (iI sn), .ref (ad 244)]) ok (c_Mo_down F2 G2 _ _ hpr12 (by omega) s0 a0 D t ad) k_1191 k_11 k_1189 k_1190 q_Mo_down (by decide) (Nat.le_of_ble_eq_true rfl) (by decide) d_Mo_satin_223 (fun z13 hc13 => ?_)
                subst hc13
                refine g_iadd ok d_Mo_satin_226 ?_
                refine g_top (y := al (mX0 G 247 sn i) (mX0 G 247 sn (i + 1)) j (sgM (mX0 G 247 sn) (mX0 G 248 sn) (mX1 G 247 sn) (mX1 G 248 sn) (G 245 (4 * sn + 2)) i)) (by unfold al; rw [if_neg (by omega)]) ?_
                refine g_aload_n ok d_Mo_satin_227 rfl 0 rfl ?_
                refine gI_Mo_cy ok _ rfl k_995 d_Mo_satin_228 ?_
                refine g_iload_n ok d_Mo_satin_231 rfl 3 rfl ?_
                refine g_iload ok d_Mo_satin_232 5 rfl ?_
                refine g_iadd ok d_Mo_satin_234 ?_
                refine h_iald ok _ a_248 (by omega) d_Mo_satin_235 ?_
                refine g_top (y := G 248 ((96 * sn) + i)) (by show G2 248 ((96 * sn) + i) = _; rw [hR2.2.2.2.2.2 248 (by decide) (by omega)]) ?_
                refine g_top (y := mX0 G 248 sn i) (by show G 248 ((96 * sn) + i) = G 248 _; first | rfl | (congr 1; omega)) ?_
                refine g_iload ok d_Mo_satin_236 12 rfl ?_
                refine g_iload ok d_Mo_satin_238 7 rfl ?_
                refine g_imul ok d_Mo_satin_240 ?_
                refine g_iload ok d_Mo_satin_241 11 rfl ?_
                have hpr13 : -2147483648 ≤ j * (mX0 G 248 sn (i + 1) - mX0 G 248 sn i) ∧ j * (mX0 G 248 sn (i + 1) - mX0 G 248 sn i) < 2147483648 := by have h := mul_rng (a := j) (b := mX0 G 248 sn (i + 1) - mX0 G 248 sn i) (by omega) (by omega); omega
                refine g_callPS (As := [.int (iI (j * (mX0 G 248 sn (i + 1) - mX0 G 248 sn i))), .int (iI (sgM (mX0 G 247 sn) (mX0 G 248 sn) (mX1 G 247 sn) (mX1 G 248 sn) (G 245 (4 * sn + 2)) i))]) (st := [.int (iI (mX0 G 248 sn i)), .int (iI (al (mX0 G 247 sn i) (mX0 G 247 sn (i + 1)) j (sgM (mX0 G 247 sn) (mX0 G 248 sn) (mX1 G 247 sn) (mX1 G 248 sn) (G 245 (4 * sn + 2)) i))), .int (iI sn), .ref (ad 244)]) ok (c_Mo_down F2 G2 _ _ hpr13 (by omega) s0 a0 D t ad) k_1191 k_11 k_1189 k_1190 q_Mo_down (by decide) (Nat.le_of_ble_eq_true rfl) (by decide) d_Mo_satin_243 (fun z14 hc14 => ?_)
                subst hc14
                refine g_iadd ok d_Mo_satin_246 ?_
                refine g_top (y := al (mX0 G 248 sn i) (mX0 G 248 sn (i + 1)) j (sgM (mX0 G 247 sn) (mX0 G 248 sn) (mX1 G 247 sn) (mX1 G 248 sn) (G 245 (4 * sn + 2)) i)) (by unfold al; rw [if_neg (by omega)]) ?_
                refine g_iload ok d_Mo_satin_247 5 rfl ?_
                refine g_if_ne ok 261 d_Mo_satin_249 (by decide) (by omega) (fun h15 => ?_) (fun h15 => ?_)
                · have hdc : decide (i = 0 ∧ j = 0) = false := decide_eq_false (by omega)
                  refine g_iconst ok d_Mo_satin_261 ?_
                  refine g_top (y := b2 false) rfl ?_
                  refine g_callVV (As := [.int (iI sn), .int (iI (al (mX0 G 247 sn i) (mX0 G 247 sn (i + 1)) j (sgM (mX0 G 247 sn) (mX0 G 248 sn) (mX1 G 247 sn) (mX1 G 248 sn) (G 245 (4 * sn + 2)) i))), .int (iI (al (mX0 G 248 sn i) (mX0 G 248 sn (i + 1)) j (sgM (mX0 G 247 sn) (mX0 G 248 sn) (mX1 G 247 sn) (mX1 G 248 sn) (G 245 (4 * sn + 2)) i))), .int (iI (b2 false))]) (st := []) ok _ (c_Mo_comes F2 G2 F G sn _ _ false S _ hB hR2 (⟨al_rng (by omega) (by omega) (by omega), al_rng (by omega) (by omega) (by omega)⟩) (fun z => absurd hln (by rw [z]; show ¬ (0 : Int) = (_ : Int) + 2 * j; omega)) (by omega) s0 a0 D t ad) k_1209 k_11 k_1206 cl_Mo (m_Mo (ad := ad) (t := t) (F := F2) (G := G2) rfl).1 (m_Mo rfl).2 k_1208 s_Mo_comes q_Mo_comes (by decide) (Nat.le_of_ble_eq_true rfl) (by decide) d_Mo_satin_262 (fun ce1 hc16 => ?_)
                  obtain ⟨F106, G106, rfl, hR106⟩ := hc16
                  refine g_aload_n ok d_Mo_satin_265 rfl 0 rfl ?_
                  refine g_iload_n ok d_Mo_satin_266 rfl 1 rfl ?_
                  refine g_aload_n ok d_Mo_satin_267 rfl 0 rfl ?_
                  refine gI_Mo_cx ok _ rfl k_994 d_Mo_satin_268 ?_
                  refine g_iload ok d_Mo_satin_271 4 rfl ?_
                  refine g_iload ok d_Mo_satin_273 5 rfl ?_
                  refine g_iadd ok d_Mo_satin_275 ?_
                  refine h_iald ok _ a_247 (by omega) d_Mo_satin_276 ?_
                  refine g_top (y := G 247 (((96 * sn) + 24) + i)) (by show G106 247 (((96 * sn) + 24) + i) = _; rw [hR106.2.2.2.2.2 247 (by decide) (by omega)]) ?_
                  refine g_top (y := mX1 G 247 sn i) (by show G 247 (((96 * sn) + 24) + i) = G 247 _; first | rfl | (congr 1; omega)) ?_
                  refine g_iload ok d_Mo_satin_277 12 rfl ?_
                  refine g_iload ok d_Mo_satin_279 8 rfl ?_
                  refine g_imul ok d_Mo_satin_281 ?_
                  refine g_iload ok d_Mo_satin_282 11 rfl ?_
                  have hpr16 : -2147483648 ≤ j * (mX1 G 247 sn (i + 1) - mX1 G 247 sn i) ∧ j * (mX1 G 247 sn (i + 1) - mX1 G 247 sn i) < 2147483648 := by have h := mul_rng (a := j) (b := mX1 G 247 sn (i + 1) - mX1 G 247 sn i) (by omega) (by omega); omega
                  refine g_callPS (As := [.int (iI (j * (mX1 G 247 sn (i + 1) - mX1 G 247 sn i))), .int (iI (sgM (mX0 G 247 sn) (mX0 G 248 sn) (mX1 G 247 sn) (mX1 G 248 sn) (G 245 (4 * sn + 2)) i))]) (st := [.int (iI (mX1 G 247 sn i)), .int (iI sn), .ref (ad 244)]) ok (c_Mo_down F106 G106 _ _ hpr16 (by omega) s0 a0 D t ad) k_1191 k_11 k_1189 k_1190 q_Mo_down (by decide) (Nat.le_of_ble_eq_true rfl) (by decide) d_Mo_satin_284 (fun z17 hc17 => ?_)
                  subst hc17
                  refine g_iadd ok d_Mo_satin_287 ?_
                  refine g_top (y := al (mX1 G 247 sn i) (mX1 G 247 sn (i + 1)) j (sgM (mX0 G 247 sn) (mX0 G 248 sn) (mX1 G 247 sn) (mX1 G 248 sn) (G 245 (4 * sn + 2)) i)) (by unfold al; rw [if_neg (by omega)]) ?_
                  refine g_aload_n ok d_Mo_satin_288 rfl 0 rfl ?_
                  refine gI_Mo_cy ok _ rfl k_995 d_Mo_satin_289 ?_
                  refine g_iload ok d_Mo_satin_292 4 rfl ?_
                  refine g_iload ok d_Mo_satin_294 5 rfl ?_
                  refine g_iadd ok d_Mo_satin_296 ?_
                  refine h_iald ok _ a_248 (by omega) d_Mo_satin_297 ?_
                  refine g_top (y := G 248 (((96 * sn) + 24) + i)) (by show G106 248 (((96 * sn) + 24) + i) = _; rw [hR106.2.2.2.2.2 248 (by decide) (by omega)]) ?_
                  refine g_top (y := mX1 G 248 sn i) (by show G 248 (((96 * sn) + 24) + i) = G 248 _; first | rfl | (congr 1; omega)) ?_
                  refine g_iload ok d_Mo_satin_298 12 rfl ?_
                  refine g_iload ok d_Mo_satin_300 9 rfl ?_
                  refine g_imul ok d_Mo_satin_302 ?_
                  refine g_iload ok d_Mo_satin_303 11 rfl ?_
                  have hpr17 : -2147483648 ≤ j * (mX1 G 248 sn (i + 1) - mX1 G 248 sn i) ∧ j * (mX1 G 248 sn (i + 1) - mX1 G 248 sn i) < 2147483648 := by have h := mul_rng (a := j) (b := mX1 G 248 sn (i + 1) - mX1 G 248 sn i) (by omega) (by omega); omega
                  refine g_callPS (As := [.int (iI (j * (mX1 G 248 sn (i + 1) - mX1 G 248 sn i))), .int (iI (sgM (mX0 G 247 sn) (mX0 G 248 sn) (mX1 G 247 sn) (mX1 G 248 sn) (G 245 (4 * sn + 2)) i))]) (st := [.int (iI (mX1 G 248 sn i)), .int (iI (al (mX1 G 247 sn i) (mX1 G 247 sn (i + 1)) j (sgM (mX0 G 247 sn) (mX0 G 248 sn) (mX1 G 247 sn) (mX1 G 248 sn) (G 245 (4 * sn + 2)) i))), .int (iI sn), .ref (ad 244)]) ok (c_Mo_down F106 G106 _ _ hpr17 (by omega) s0 a0 D t ad) k_1191 k_11 k_1189 k_1190 q_Mo_down (by decide) (Nat.le_of_ble_eq_true rfl) (by decide) d_Mo_satin_305 (fun z18 hc18 => ?_)
                  subst hc18
                  refine g_iadd ok d_Mo_satin_308 ?_
                  refine g_top (y := al (mX1 G 248 sn i) (mX1 G 248 sn (i + 1)) j (sgM (mX0 G 247 sn) (mX0 G 248 sn) (mX1 G 247 sn) (mX1 G 248 sn) (G 245 (4 * sn + 2)) i)) (by unfold al; rw [if_neg (by omega)]) ?_
                  refine g_iconst ok d_Mo_satin_309 ?_
                  refine g_top (y := b2 false) rfl ?_
                  refine g_callVV (As := [.int (iI sn), .int (iI (al (mX1 G 247 sn i) (mX1 G 247 sn (i + 1)) j (sgM (mX0 G 247 sn) (mX0 G 248 sn) (mX1 G 247 sn) (mX1 G 248 sn) (G 245 (4 * sn + 2)) i))), .int (iI (al (mX1 G 248 sn i) (mX1 G 248 sn (i + 1)) j (sgM (mX0 G 247 sn) (mX0 G 248 sn) (mX1 G 247 sn) (mX1 G 248 sn) (G 245 (4 * sn + 2)) i))), .int (iI (b2 false))]) (st := []) ok _ (c_Mo_comes F106 G106 F G sn _ _ false S _ hB hR106 (⟨al_rng (by omega) (by omega) (by omega), al_rng (by omega) (by omega) (by omega)⟩) (fun z => absurd z sn_ne) (by rw [len_snoc]; omega) s0 a0 D t ad) k_1209 k_11 k_1206 cl_Mo (m_Mo (ad := ad) (t := t) (F := F106) (G := G106) rfl).1 (m_Mo rfl).2 k_1208 s_Mo_comes q_Mo_comes (by decide) (Nat.le_of_ble_eq_true rfl) (by decide) d_Mo_satin_310 (fun ce1 hc19 => ?_)
                  obtain ⟨F107, G107, rfl, hR107⟩ := hc19
                  refine g_iinc (lv' := [(12, .int (iI (j + 1))), (0, .ref (ad 244)), (1, .int (iI sn)), (2, .int (iI (G 246 (4 * sn)))), (3, .int (iI (96 * sn))), (4, .int (iI ((96 * sn) + 24))), (5, .int (iI i)), (6, .int (iI (mX0 G 247 sn (i + 1) - mX0 G 247 sn i))), (7, .int (iI (mX0 G 248 sn (i + 1) - mX0 G 248 sn i))), (8, .int (iI (mX1 G 247 sn (i + 1) - mX1 G 247 sn i))), (9, .int (iI (mX1 G 248 sn (i + 1) - mX1 G 248 sn i))), (10, .int (iI (max (sgF (mX0 G 247 sn) (mX0 G 248 sn) i) (sgF (mX1 G 247 sn) (mX1 G 248 sn) i)))), (11, .int (iI (sgM (mX0 G 247 sn) (mX0 G 248 sn) (mX1 G 247 sn) (mX1 G 248 sn) (G 245 (4 * sn + 2)) i)))]) ok d_Mo_satin_313 12 rfl (by decide) rfl ?_
                  refine g_goto ok 198 d_Mo_satin_316 (by decide) ?_
                  refine g_lv [1, 2, 3, 4, 5, 6, 7, 8, 9, 10, 11, 12, 0] rfl ?_
                  exact ih_j (j + 1) F107 G107 (by omega) (by rw [sgE_step hj.1, hdc, ← List.append_assoc, ← List.append_assoc]; exact hR107) (by omega)
                · refine g_iload ok d_Mo_satin_252 12 rfl ?_
                  refine g_if_ne ok 261 d_Mo_satin_254 (by decide) (by omega) (fun h20 => ?_) (fun h20 => ?_)
                  · have hdc : decide (i = 0 ∧ j = 0) = false := decide_eq_false (by omega)
                    refine g_iconst ok d_Mo_satin_261 ?_
                    refine g_top (y := b2 false) rfl ?_
                    refine g_callVV (As := [.int (iI sn), .int (iI (al (mX0 G 247 sn i) (mX0 G 247 sn (i + 1)) j (sgM (mX0 G 247 sn) (mX0 G 248 sn) (mX1 G 247 sn) (mX1 G 248 sn) (G 245 (4 * sn + 2)) i))), .int (iI (al (mX0 G 248 sn i) (mX0 G 248 sn (i + 1)) j (sgM (mX0 G 247 sn) (mX0 G 248 sn) (mX1 G 247 sn) (mX1 G 248 sn) (G 245 (4 * sn + 2)) i))), .int (iI (b2 false))]) (st := []) ok _ (c_Mo_comes F2 G2 F G sn _ _ false S _ hB hR2 (⟨al_rng (by omega) (by omega) (by omega), al_rng (by omega) (by omega) (by omega)⟩) (fun z => absurd hln (by rw [z]; show ¬ (0 : Int) = (_ : Int) + 2 * j; omega)) (by omega) s0 a0 D t ad) k_1209 k_11 k_1206 cl_Mo (m_Mo (ad := ad) (t := t) (F := F2) (G := G2) rfl).1 (m_Mo rfl).2 k_1208 s_Mo_comes q_Mo_comes (by decide) (Nat.le_of_ble_eq_true rfl) (by decide) d_Mo_satin_262 (fun ce1 hc21 => ?_)
                    obtain ⟨F108, G108, rfl, hR108⟩ := hc21
                    refine g_aload_n ok d_Mo_satin_265 rfl 0 rfl ?_
                    refine g_iload_n ok d_Mo_satin_266 rfl 1 rfl ?_
                    refine g_aload_n ok d_Mo_satin_267 rfl 0 rfl ?_
                    refine gI_Mo_cx ok _ rfl k_994 d_Mo_satin_268 ?_
                    refine g_iload ok d_Mo_satin_271 4 rfl ?_
                    refine g_iload ok d_Mo_satin_273 5 rfl ?_
                    refine g_iadd ok d_Mo_satin_275 ?_
                    refine h_iald ok _ a_247 (by omega) d_Mo_satin_276 ?_
                    refine g_top (y := G 247 (((96 * sn) + 24) + i)) (by show G108 247 (((96 * sn) + 24) + i) = _; rw [hR108.2.2.2.2.2 247 (by decide) (by omega)]) ?_
                    refine g_top (y := mX1 G 247 sn i) (by show G 247 (((96 * sn) + 24) + i) = G 247 _; first | rfl | (congr 1; omega)) ?_
                    refine g_iload ok d_Mo_satin_277 12 rfl ?_
                    refine g_iload ok d_Mo_satin_279 8 rfl ?_
                    refine g_imul ok d_Mo_satin_281 ?_
                    refine g_iload ok d_Mo_satin_282 11 rfl ?_
                    have hpr21 : -2147483648 ≤ j * (mX1 G 247 sn (i + 1) - mX1 G 247 sn i) ∧ j * (mX1 G 247 sn (i + 1) - mX1 G 247 sn i) < 2147483648 := by have h := mul_rng (a := j) (b := mX1 G 247 sn (i + 1) - mX1 G 247 sn i) (by omega) (by omega); omega
                    refine g_callPS (As := [.int (iI (j * (mX1 G 247 sn (i + 1) - mX1 G 247 sn i))), .int (iI (sgM (mX0 G 247 sn) (mX0 G 248 sn) (mX1 G 247 sn) (mX1 G 248 sn) (G 245 (4 * sn + 2)) i))]) (st := [.int (iI (mX1 G 247 sn i)), .int (iI sn), .ref (ad 244)]) ok (c_Mo_down F108 G108 _ _ hpr21 (by omega) s0 a0 D t ad) k_1191 k_11 k_1189 k_1190 q_Mo_down (by decide) (Nat.le_of_ble_eq_true rfl) (by decide) d_Mo_satin_284 (fun z22 hc22 => ?_)
                    subst hc22
                    refine g_iadd ok d_Mo_satin_287 ?_
                    refine g_top (y := al (mX1 G 247 sn i) (mX1 G 247 sn (i + 1)) j (sgM (mX0 G 247 sn) (mX0 G 248 sn) (mX1 G 247 sn) (mX1 G 248 sn) (G 245 (4 * sn + 2)) i)) (by unfold al; rw [if_neg (by omega)]) ?_
                    refine g_aload_n ok d_Mo_satin_288 rfl 0 rfl ?_
                    refine gI_Mo_cy ok _ rfl k_995 d_Mo_satin_289 ?_
                    refine g_iload ok d_Mo_satin_292 4 rfl ?_
                    refine g_iload ok d_Mo_satin_294 5 rfl ?_
                    refine g_iadd ok d_Mo_satin_296 ?_
                    refine h_iald ok _ a_248 (by omega) d_Mo_satin_297 ?_
                    refine g_top (y := G 248 (((96 * sn) + 24) + i)) (by show G108 248 (((96 * sn) + 24) + i) = _; rw [hR108.2.2.2.2.2 248 (by decide) (by omega)]) ?_
                    refine g_top (y := mX1 G 248 sn i) (by show G 248 (((96 * sn) + 24) + i) = G 248 _; first | rfl | (congr 1; omega)) ?_
                    refine g_iload ok d_Mo_satin_298 12 rfl ?_
                    refine g_iload ok d_Mo_satin_300 9 rfl ?_
                    refine g_imul ok d_Mo_satin_302 ?_
                    refine g_iload ok d_Mo_satin_303 11 rfl ?_
                    have hpr22 : -2147483648 ≤ j * (mX1 G 248 sn (i + 1) - mX1 G 248 sn i) ∧ j * (mX1 G 248 sn (i + 1) - mX1 G 248 sn i) < 2147483648 := by have h := mul_rng (a := j) (b := mX1 G 248 sn (i + 1) - mX1 G 248 sn i) (by omega) (by omega); omega
                    refine g_callPS (As := [.int (iI (j * (mX1 G 248 sn (i + 1) - mX1 G 248 sn i))), .int (iI (sgM (mX0 G 247 sn) (mX0 G 248 sn) (mX1 G 247 sn) (mX1 G 248 sn) (G 245 (4 * sn + 2)) i))]) (st := [.int (iI (mX1 G 248 sn i)), .int (iI (al (mX1 G 247 sn i) (mX1 G 247 sn (i + 1)) j (sgM (mX0 G 247 sn) (mX0 G 248 sn) (mX1 G 247 sn) (mX1 G 248 sn) (G 245 (4 * sn + 2)) i))), .int (iI sn), .ref (ad 244)]) ok (c_Mo_down F108 G108 _ _ hpr22 (by omega) s0 a0 D t ad) k_1191 k_11 k_1189 k_1190 q_Mo_down (by decide) (Nat.le_of_ble_eq_true rfl) (by decide) d_Mo_satin_305 (fun z23 hc23 => ?_)
                    subst hc23
                    refine g_iadd ok d_Mo_satin_308 ?_
                    refine g_top (y := al (mX1 G 248 sn i) (mX1 G 248 sn (i + 1)) j (sgM (mX0 G 247 sn) (mX0 G 248 sn) (mX1 G 247 sn) (mX1 G 248 sn) (G 245 (4 * sn + 2)) i)) (by unfold al; rw [if_neg (by omega)]) ?_
                    refine g_iconst ok d_Mo_satin_309 ?_
                    refine g_top (y := b2 false) rfl ?_
                    refine g_callVV (As := [.int (iI sn), .int (iI (al (mX1 G 247 sn i) (mX1 G 247 sn (i + 1)) j (sgM (mX0 G 247 sn) (mX0 G 248 sn) (mX1 G 247 sn) (mX1 G 248 sn) (G 245 (4 * sn + 2)) i))), .int (iI (al (mX1 G 248 sn i) (mX1 G 248 sn (i + 1)) j (sgM (mX0 G 247 sn) (mX0 G 248 sn) (mX1 G 247 sn) (mX1 G 248 sn) (G 245 (4 * sn + 2)) i))), .int (iI (b2 false))]) (st := []) ok _ (c_Mo_comes F108 G108 F G sn _ _ false S _ hB hR108 (⟨al_rng (by omega) (by omega) (by omega), al_rng (by omega) (by omega) (by omega)⟩) (fun z => absurd z sn_ne) (by rw [len_snoc]; omega) s0 a0 D t ad) k_1209 k_11 k_1206 cl_Mo (m_Mo (ad := ad) (t := t) (F := F108) (G := G108) rfl).1 (m_Mo rfl).2 k_1208 s_Mo_comes q_Mo_comes (by decide) (Nat.le_of_ble_eq_true rfl) (by decide) d_Mo_satin_310 (fun ce1 hc24 => ?_)
                    obtain ⟨F109, G109, rfl, hR109⟩ := hc24
                    refine g_iinc (lv' := [(12, .int (iI (j + 1))), (0, .ref (ad 244)), (1, .int (iI sn)), (2, .int (iI (G 246 (4 * sn)))), (3, .int (iI (96 * sn))), (4, .int (iI ((96 * sn) + 24))), (5, .int (iI i)), (6, .int (iI (mX0 G 247 sn (i + 1) - mX0 G 247 sn i))), (7, .int (iI (mX0 G 248 sn (i + 1) - mX0 G 248 sn i))), (8, .int (iI (mX1 G 247 sn (i + 1) - mX1 G 247 sn i))), (9, .int (iI (mX1 G 248 sn (i + 1) - mX1 G 248 sn i))), (10, .int (iI (max (sgF (mX0 G 247 sn) (mX0 G 248 sn) i) (sgF (mX1 G 247 sn) (mX1 G 248 sn) i)))), (11, .int (iI (sgM (mX0 G 247 sn) (mX0 G 248 sn) (mX1 G 247 sn) (mX1 G 248 sn) (G 245 (4 * sn + 2)) i)))]) ok d_Mo_satin_313 12 rfl (by decide) rfl ?_
                    refine g_goto ok 198 d_Mo_satin_316 (by decide) ?_
                    refine g_lv [1, 2, 3, 4, 5, 6, 7, 8, 9, 10, 11, 12, 0] rfl ?_
                    exact ih_j (j + 1) F109 G109 (by omega) (by rw [sgE_step hj.1, hdc, ← List.append_assoc, ← List.append_assoc]; exact hR109) (by omega)
                  · have hdc : decide (i = 0 ∧ j = 0) = true := decide_eq_true (by omega)
                    refine g_iconst ok d_Mo_satin_257 ?_
                    refine g_goto ok 262 d_Mo_satin_258 (by decide) ?_
                    refine g_top (y := b2 true) rfl ?_
                    refine g_callVV (As := [.int (iI sn), .int (iI (al (mX0 G 247 sn i) (mX0 G 247 sn (i + 1)) j (sgM (mX0 G 247 sn) (mX0 G 248 sn) (mX1 G 247 sn) (mX1 G 248 sn) (G 245 (4 * sn + 2)) i))), .int (iI (al (mX0 G 248 sn i) (mX0 G 248 sn (i + 1)) j (sgM (mX0 G 247 sn) (mX0 G 248 sn) (mX1 G 247 sn) (mX1 G 248 sn) (G 245 (4 * sn + 2)) i))), .int (iI (b2 true))]) (st := []) ok _ (c_Mo_comes F2 G2 F G sn _ _ true S _ hB hR2 (⟨al_rng (by omega) (by omega) (by omega), al_rng (by omega) (by omega) (by omega)⟩) (fun _ => rfl) (by omega) s0 a0 D t ad) k_1209 k_11 k_1206 cl_Mo (m_Mo (ad := ad) (t := t) (F := F2) (G := G2) rfl).1 (m_Mo rfl).2 k_1208 s_Mo_comes q_Mo_comes (by decide) (Nat.le_of_ble_eq_true rfl) (by decide) d_Mo_satin_262 (fun ce1 hc25 => ?_)
                    obtain ⟨F110, G110, rfl, hR110⟩ := hc25
                    refine g_aload_n ok d_Mo_satin_265 rfl 0 rfl ?_
                    refine g_iload_n ok d_Mo_satin_266 rfl 1 rfl ?_
                    refine g_aload_n ok d_Mo_satin_267 rfl 0 rfl ?_
                    refine gI_Mo_cx ok _ rfl k_994 d_Mo_satin_268 ?_
                    refine g_iload ok d_Mo_satin_271 4 rfl ?_
                    refine g_iload ok d_Mo_satin_273 5 rfl ?_
                    refine g_iadd ok d_Mo_satin_275 ?_
                    refine h_iald ok _ a_247 (by omega) d_Mo_satin_276 ?_
                    refine g_top (y := G 247 (((96 * sn) + 24) + i)) (by show G110 247 (((96 * sn) + 24) + i) = _; rw [hR110.2.2.2.2.2 247 (by decide) (by omega)]) ?_
                    refine g_top (y := mX1 G 247 sn i) (by show G 247 (((96 * sn) + 24) + i) = G 247 _; first | rfl | (congr 1; omega)) ?_
                    refine g_iload ok d_Mo_satin_277 12 rfl ?_
                    refine g_iload ok d_Mo_satin_279 8 rfl ?_
                    refine g_imul ok d_Mo_satin_281 ?_
                    refine g_iload ok d_Mo_satin_282 11 rfl ?_
                    have hpr25 : -2147483648 ≤ j * (mX1 G 247 sn (i + 1) - mX1 G 247 sn i) ∧ j * (mX1 G 247 sn (i + 1) - mX1 G 247 sn i) < 2147483648 := by have h := mul_rng (a := j) (b := mX1 G 247 sn (i + 1) - mX1 G 247 sn i) (by omega) (by omega); omega
                    refine g_callPS (As := [.int (iI (j * (mX1 G 247 sn (i + 1) - mX1 G 247 sn i))), .int (iI (sgM (mX0 G 247 sn) (mX0 G 248 sn) (mX1 G 247 sn) (mX1 G 248 sn) (G 245 (4 * sn + 2)) i))]) (st := [.int (iI (mX1 G 247 sn i)), .int (iI sn), .ref (ad 244)]) ok (c_Mo_down F110 G110 _ _ hpr25 (by omega) s0 a0 D t ad) k_1191 k_11 k_1189 k_1190 q_Mo_down (by decide) (Nat.le_of_ble_eq_true rfl) (by decide) d_Mo_satin_284 (fun z26 hc26 => ?_)
                    subst hc26
                    refine g_iadd ok d_Mo_satin_287 ?_
                    refine g_top (y := al (mX1 G 247 sn i) (mX1 G 247 sn (i + 1)) j (sgM (mX0 G 247 sn) (mX0 G 248 sn) (mX1 G 247 sn) (mX1 G 248 sn) (G 245 (4 * sn + 2)) i)) (by unfold al; rw [if_neg (by omega)]) ?_
                    refine g_aload_n ok d_Mo_satin_288 rfl 0 rfl ?_
                    refine gI_Mo_cy ok _ rfl k_995 d_Mo_satin_289 ?_
                    refine g_iload ok d_Mo_satin_292 4 rfl ?_
                    refine g_iload ok d_Mo_satin_294 5 rfl ?_
                    refine g_iadd ok d_Mo_satin_296 ?_
                    refine h_iald ok _ a_248 (by omega) d_Mo_satin_297 ?_
                    refine g_top (y := G 248 (((96 * sn) + 24) + i)) (by show G110 248 (((96 * sn) + 24) + i) = _; rw [hR110.2.2.2.2.2 248 (by decide) (by omega)]) ?_
                    refine g_top (y := mX1 G 248 sn i) (by show G 248 (((96 * sn) + 24) + i) = G 248 _; first | rfl | (congr 1; omega)) ?_
                    refine g_iload ok d_Mo_satin_298 12 rfl ?_
                    refine g_iload ok d_Mo_satin_300 9 rfl ?_
                    refine g_imul ok d_Mo_satin_302 ?_
                    refine g_iload ok d_Mo_satin_303 11 rfl ?_
                    have hpr26 : -2147483648 ≤ j * (mX1 G 248 sn (i + 1) - mX1 G 248 sn i) ∧ j * (mX1 G 248 sn (i + 1) - mX1 G 248 sn i) < 2147483648 := by have h := mul_rng (a := j) (b := mX1 G 248 sn (i + 1) - mX1 G 248 sn i) (by omega) (by omega); omega
                    refine g_callPS (As := [.int (iI (j * (mX1 G 248 sn (i + 1) - mX1 G 248 sn i))), .int (iI (sgM (mX0 G 247 sn) (mX0 G 248 sn) (mX1 G 247 sn) (mX1 G 248 sn) (G 245 (4 * sn + 2)) i))]) (st := [.int (iI (mX1 G 248 sn i)), .int (iI (al (mX1 G 247 sn i) (mX1 G 247 sn (i + 1)) j (sgM (mX0 G 247 sn) (mX0 G 248 sn) (mX1 G 247 sn) (mX1 G 248 sn) (G 245 (4 * sn + 2)) i))), .int (iI sn), .ref (ad 244)]) ok (c_Mo_down F110 G110 _ _ hpr26 (by omega) s0 a0 D t ad) k_1191 k_11 k_1189 k_1190 q_Mo_down (by decide) (Nat.le_of_ble_eq_true rfl) (by decide) d_Mo_satin_305 (fun z27 hc27 => ?_)
                    subst hc27
                    refine g_iadd ok d_Mo_satin_308 ?_
                    refine g_top (y := al (mX1 G 248 sn i) (mX1 G 248 sn (i + 1)) j (sgM (mX0 G 247 sn) (mX0 G 248 sn) (mX1 G 247 sn) (mX1 G 248 sn) (G 245 (4 * sn + 2)) i)) (by unfold al; rw [if_neg (by omega)]) ?_
                    refine g_iconst ok d_Mo_satin_309 ?_
                    refine g_top (y := b2 false) rfl ?_
                    refine g_callVV (As := [.int (iI sn), .int (iI (al (mX1 G 247 sn i) (mX1 G 247 sn (i + 1)) j (sgM (mX0 G 247 sn) (mX0 G 248 sn) (mX1 G 247 sn) (mX1 G 248 sn) (G 245 (4 * sn + 2)) i))), .int (iI (al (mX1 G 248 sn i) (mX1 G 248 sn (i + 1)) j (sgM (mX0 G 247 sn) (mX0 G 248 sn) (mX1 G 247 sn) (mX1 G 248 sn) (G 245 (4 * sn + 2)) i))), .int (iI (b2 false))]) (st := []) ok _ (c_Mo_comes F110 G110 F G sn _ _ false S _ hB hR110 (⟨al_rng (by omega) (by omega) (by omega), al_rng (by omega) (by omega) (by omega)⟩) (fun z => absurd z sn_ne) (by rw [len_snoc]; omega) s0 a0 D t ad) k_1209 k_11 k_1206 cl_Mo (m_Mo (ad := ad) (t := t) (F := F110) (G := G110) rfl).1 (m_Mo rfl).2 k_1208 s_Mo_comes q_Mo_comes (by decide) (Nat.le_of_ble_eq_true rfl) (by decide) d_Mo_satin_310 (fun ce1 hc28 => ?_)
                    obtain ⟨F111, G111, rfl, hR111⟩ := hc28
                    refine g_iinc (lv' := [(12, .int (iI (j + 1))), (0, .ref (ad 244)), (1, .int (iI sn)), (2, .int (iI (G 246 (4 * sn)))), (3, .int (iI (96 * sn))), (4, .int (iI ((96 * sn) + 24))), (5, .int (iI i)), (6, .int (iI (mX0 G 247 sn (i + 1) - mX0 G 247 sn i))), (7, .int (iI (mX0 G 248 sn (i + 1) - mX0 G 248 sn i))), (8, .int (iI (mX1 G 247 sn (i + 1) - mX1 G 247 sn i))), (9, .int (iI (mX1 G 248 sn (i + 1) - mX1 G 248 sn i))), (10, .int (iI (max (sgF (mX0 G 247 sn) (mX0 G 248 sn) i) (sgF (mX1 G 247 sn) (mX1 G 248 sn) i)))), (11, .int (iI (sgM (mX0 G 247 sn) (mX0 G 248 sn) (mX1 G 247 sn) (mX1 G 248 sn) (G 245 (4 * sn + 2)) i)))]) ok d_Mo_satin_313 12 rfl (by decide) rfl ?_
                    refine g_goto ok 198 d_Mo_satin_316 (by decide) ?_
                    refine g_lv [1, 2, 3, 4, 5, 6, 7, 8, 9, 10, 11, 12, 0] rfl ?_
                    exact ih_j (j + 1) F111 G111 (by omega) (by rw [sgE_step hj.1, hdc, ← List.append_assoc, ← List.append_assoc]; exact hR111) (by omega)
          refine g_z ?_
          refine g_lv [7, 8, 9, 10, 11, 12, 6, 5, 4, 3, 2, 1, 0] rfl ?_
          exact L_j ((sgM (mX0 G 247 sn) (mX0 G 248 sn) (mX1 G 247 sn) (mX1 G 248 sn) (G 245 (4 * sn + 2)) i + 1 - 0 : Int).toNat + 1) 0 F1 G1 (by omega) (by show mtR F G sn S _ _ (_ ++ []); rw [List.append_nil]; exact hR1) (by omega)
        · refine g_iconst ok d_Mo_satin_192 ?_
          refine g_top (y := sgM (mX0 G 247 sn) (mX0 G 248 sn) (mX1 G 247 sn) (mX1 G 248 sn) (G 245 (4 * sn + 2)) i) (by unfold sgM; omega) ?_
          refine g_istore (lv' := [(11, .int (iI (sgM (mX0 G 247 sn) (mX0 G 248 sn) (mX1 G 247 sn) (mX1 G 248 sn) (G 245 (4 * sn + 2)) i))), (10, .int (iI (max (sgF (mX0 G 247 sn) (mX0 G 248 sn) i) (sgF (mX1 G 247 sn) (mX1 G 248 sn) i)))), (9, .int (iI ((mX1 G 248 sn (i + 1)) - (mX1 G 248 sn i)))), (8, .int (iI ((mX1 G 247 sn (i + 1)) - (mX1 G 247 sn i)))), (7, .int (iI ((mX0 G 248 sn (i + 1)) - (mX0 G 248 sn i)))), (6, .int (iI ((mX0 G 247 sn (i + 1)) - (mX0 G 247 sn i)))), (0, .ref (ad 244)), (1, .int (iI sn)), (2, .int (iI (G 246 (4 * sn)))), (3, .int (iI (96 * sn))), (4, .int (iI ((96 * sn) + 24))), (5, .int (iI i))]) ok d_Mo_satin_193 (by decide) rfl ?_
          refine g_iconst ok d_Mo_satin_195 ?_
          refine g_istore (lv' := [(12, .int (iI 0)), (11, .int (iI (sgM (mX0 G 247 sn) (mX0 G 248 sn) (mX1 G 247 sn) (mX1 G 248 sn) (G 245 (4 * sn + 2)) i))), (10, .int (iI (max (sgF (mX0 G 247 sn) (mX0 G 248 sn) i) (sgF (mX1 G 247 sn) (mX1 G 248 sn) i)))), (9, .int (iI ((mX1 G 248 sn (i + 1)) - (mX1 G 248 sn i)))), (8, .int (iI ((mX1 G 247 sn (i + 1)) - (mX1 G 247 sn i)))), (7, .int (iI ((mX0 G 248 sn (i + 1)) - (mX0 G 248 sn i)))), (6, .int (iI ((mX0 G 247 sn (i + 1)) - (mX0 G 247 sn i)))), (0, .ref (ad 244)), (1, .int (iI sn)), (2, .int (iI (G 246 (4 * sn)))), (3, .int (iI (96 * sn))), (4, .int (iI ((96 * sn) + 24))), (5, .int (iI i))]) ok d_Mo_satin_196 (by decide) rfl ?_
          have L_j : ∀ (n_j : Nat) (j : Int) (F2 : Nat → Nat → Int) (G2 : Nat → Int → Int), (0 ≤ j ∧ j ≤ sgM (mX0 G 247 sn) (mX0 G 248 sn) (mX1 G 247 sn) (mX1 G 248 sn) (G 245 (4 * sn + 2)) i) → (mtR F G sn S F2 G2 (satP (mX0 G 247 sn) (mX0 G 248 sn) (mX1 G 247 sn) (mX1 G 248 sn) (G 245 (4 * sn + 2)) i.toNat ++ sgE (mX0 G 247 sn) (mX0 G 248 sn) (mX1 G 247 sn) (mX1 G 248 sn) i (sgM (mX0 G 247 sn) (mX0 G 248 sn) (mX1 G 247 sn) (mX1 G 248 sn) (G 245 (4 * sn + 2)) i) j.toNat)) → (sgM (mX0 G 247 sn) (mX0 G 248 sn) (mX1 G 247 sn) (mX1 G 248 sn) (G 245 (4 * sn + 2)) i + 1 - j) < (n_j : Int) → gW p l e R s m args below meth c (MQ below (gQv D A ad 265 (fun ce' => ∃ F' G', ce' = mem ad t F' G' ∧ (fun F' G' => mtR F G sn S F' G' (satE (mX0 G 247 sn) (mX0 G 248 sn) (mX1 G 247 sn) (mX1 G 248 sn) (G 245 (4 * sn + 2)) (G 246 (4 * sn)))) F' G')) args s 0 0 A) D A 13 (gZ) 0 0 ad 265 (mem ad t F2 G2) 198 [(0, .ref (ad 244)), (1, .int (iI sn)), (2, .int (iI (G 246 (4 * sn)))), (3, .int (iI (96 * sn))), (4, .int (iI ((96 * sn) + 24))), (5, .int (iI i)), (6, .int (iI (mX0 G 247 sn (i + 1) - mX0 G 247 sn i))), (7, .int (iI (mX0 G 248 sn (i + 1) - mX0 G 248 sn i))), (8, .int (iI (mX1 G 247 sn (i + 1) - mX1 G 247 sn i))), (9, .int (iI (mX1 G 248 sn (i + 1) - mX1 G 248 sn i))), (10, .int (iI (max (sgF (mX0 G 247 sn) (mX0 G 248 sn) i) (sgF (mX1 G 247 sn) (mX1 G 248 sn) i)))), (11, .int (iI (sgM (mX0 G 247 sn) (mX0 G 248 sn) (mX1 G 247 sn) (mX1 G 248 sn) (G 245 (4 * sn + 2)) i))), (12, .int (iI j))] [] := by
            intro n_j
            induction n_j with
            | zero =>
              intro j F2 G2 hj hR2 hm_j
              exact absurd hm_j (by omega)
            | succ n_j ih_j =>
              intro j F2 G2 hj hR2 hm_j
              have hln : ((satP (mX0 G 247 sn) (mX0 G 248 sn) (mX1 G 247 sn) (mX1 G 248 sn) (G 245 (4 * sn + 2)) i.toNat ++ sgE (mX0 G 247 sn) (mX0 G 248 sn) (mX1 G 247 sn) (mX1 G 248 sn) i (sgM (mX0 G 247 sn) (mX0 G 248 sn) (mX1 G 247 sn) (mX1 G 248 sn) (G 245 (4 * sn + 2)) i) j.toNat).length : Int) = ((satP (mX0 G 247 sn) (mX0 G 248 sn) (mX1 G 247 sn) (mX1 G 248 sn) (G 245 (4 * sn + 2)) i.toNat).length : Int) + 2 * j := by rw [List.length_append, sgE_len]; omega
              refine g_iload ok d_Mo_satin_198 12 rfl ?_
              refine g_iload ok d_Mo_satin_200 11 rfl ?_
              refine g_icmp_ge ok 319 d_Mo_satin_202 (by decide) (by omega) (by omega) (fun h29 => ?_) (fun h29 => ?_)
              · refine g_iinc (lv' := [(5, .int (iI (i + 1))), (0, .ref (ad 244)), (1, .int (iI sn)), (2, .int (iI (G 246 (4 * sn)))), (3, .int (iI (96 * sn))), (4, .int (iI ((96 * sn) + 24))), (6, .int (iI (mX0 G 247 sn (i + 1) - mX0 G 247 sn i))), (7, .int (iI (mX0 G 248 sn (i + 1) - mX0 G 248 sn i))), (8, .int (iI (mX1 G 247 sn (i + 1) - mX1 G 247 sn i))), (9, .int (iI (mX1 G 248 sn (i + 1) - mX1 G 248 sn i))), (10, .int (iI (max (sgF (mX0 G 247 sn) (mX0 G 248 sn) i) (sgF (mX1 G 247 sn) (mX1 G 248 sn) i)))), (11, .int (iI (sgM (mX0 G 247 sn) (mX0 G 248 sn) (mX1 G 247 sn) (mX1 G 248 sn) (G 245 (4 * sn + 2)) i))), (12, .int (iI j))]) ok d_Mo_satin_319 5 rfl (by decide) rfl ?_
                refine g_goto ok 23 d_Mo_satin_322 (by decide) ?_
                refine g_lv [1, 2, 3, 4, 5, 0] rfl ?_
                exact ih_i (i + 1) F2 G2 (by omega) (by rw [satP_step hi.1, List.length_append, sgE_len]; omega) (by rw [satP_step hi.1]; rw [show j = sgM (mX0 G 247 sn) (mX0 G 248 sn) (mX1 G 247 sn) (mX1 G 248 sn) (G 245 (4 * sn + 2)) i by omega] at hR2; exact hR2) (by omega)
              · refine g_aload_n ok d_Mo_satin_205 rfl 0 rfl ?_
                refine g_iload_n ok d_Mo_satin_206 rfl 1 rfl ?_
                refine g_aload_n ok d_Mo_satin_207 rfl 0 rfl ?_
                refine gI_Mo_cx ok _ rfl k_994 d_Mo_satin_208 ?_
                refine g_iload_n ok d_Mo_satin_211 rfl 3 rfl ?_
                refine g_iload ok d_Mo_satin_212 5 rfl ?_
                refine g_iadd ok d_Mo_satin_214 ?_
                refine h_iald ok _ a_247 (by omega) d_Mo_satin_215 ?_
                refine g_top (y := G 247 ((96 * sn) + i)) (by show G2 247 ((96 * sn) + i) = _; rw [hR2.2.2.2.2.2 247 (by decide) (by omega)]) ?_
                refine g_top (y := mX0 G 247 sn i) (by show G 247 ((96 * sn) + i) = G 247 _; first | rfl | (congr 1; omega)) ?_
                refine g_iload ok d_Mo_satin_216 12 rfl ?_
                refine g_iload ok d_Mo_satin_218 6 rfl ?_
                refine g_imul ok d_Mo_satin_220 ?_
                refine g_iload ok d_Mo_satin_221 11 rfl ?_
                have hpr29 : -2147483648 ≤ j * (mX0 G 247 sn (i + 1) - mX0 G 247 sn i) ∧ j * (mX0 G 247 sn (i + 1) - mX0 G 247 sn i) < 2147483648 := by have h := mul_rng (a := j) (b := mX0 G 247 sn (i + 1) - mX0 G 247 sn i) (by omega) (by omega); omega
                refine g_callPS (As := [.int (iI (j * (mX0 G 247 sn (i + 1) - mX0 G 247 sn i))), .int (iI (sgM (mX0 G 247 sn) (mX0 G 248 sn) (mX1 G 247 sn) (mX1 G 248 sn) (G 245 (4 * sn + 2)) i))]) (st := [.int (iI (mX0 G 247 sn i)), .int (iI sn), .ref (ad 244)]) ok (c_Mo_down F2 G2 _ _ hpr29 (by omega) s0 a0 D t ad) k_1191 k_11 k_1189 k_1190 q_Mo_down (by decide) (Nat.le_of_ble_eq_true rfl) (by decide) d_Mo_satin_223 (fun z30 hc30 => ?_)
                subst hc30
                refine g_iadd ok d_Mo_satin_226 ?_
                refine g_top (y := al (mX0 G 247 sn i) (mX0 G 247 sn (i + 1)) j (sgM (mX0 G 247 sn) (mX0 G 248 sn) (mX1 G 247 sn) (mX1 G 248 sn) (G 245 (4 * sn + 2)) i)) (by unfold al; rw [if_neg (by omega)]) ?_
                refine g_aload_n ok d_Mo_satin_227 rfl 0 rfl ?_
                refine gI_Mo_cy ok _ rfl k_995 d_Mo_satin_228 ?_
                refine g_iload_n ok d_Mo_satin_231 rfl 3 rfl ?_
                refine g_iload ok d_Mo_satin_232 5 rfl ?_
                refine g_iadd ok d_Mo_satin_234 ?_
                refine h_iald ok _ a_248 (by omega) d_Mo_satin_235 ?_
                refine g_top (y := G 248 ((96 * sn) + i)) (by show G2 248 ((96 * sn) + i) = _; rw [hR2.2.2.2.2.2 248 (by decide) (by omega)]) ?_
                refine g_top (y := mX0 G 248 sn i) (by show G 248 ((96 * sn) + i) = G 248 _; first | rfl | (congr 1; omega)) ?_
                refine g_iload ok d_Mo_satin_236 12 rfl ?_
                refine g_iload ok d_Mo_satin_238 7 rfl ?_
                refine g_imul ok d_Mo_satin_240 ?_
                refine g_iload ok d_Mo_satin_241 11 rfl ?_
                have hpr30 : -2147483648 ≤ j * (mX0 G 248 sn (i + 1) - mX0 G 248 sn i) ∧ j * (mX0 G 248 sn (i + 1) - mX0 G 248 sn i) < 2147483648 := by have h := mul_rng (a := j) (b := mX0 G 248 sn (i + 1) - mX0 G 248 sn i) (by omega) (by omega); omega
                refine g_callPS (As := [.int (iI (j * (mX0 G 248 sn (i + 1) - mX0 G 248 sn i))), .int (iI (sgM (mX0 G 247 sn) (mX0 G 248 sn) (mX1 G 247 sn) (mX1 G 248 sn) (G 245 (4 * sn + 2)) i))]) (st := [.int (iI (mX0 G 248 sn i)), .int (iI (al (mX0 G 247 sn i) (mX0 G 247 sn (i + 1)) j (sgM (mX0 G 247 sn) (mX0 G 248 sn) (mX1 G 247 sn) (mX1 G 248 sn) (G 245 (4 * sn + 2)) i))), .int (iI sn), .ref (ad 244)]) ok (c_Mo_down F2 G2 _ _ hpr30 (by omega) s0 a0 D t ad) k_1191 k_11 k_1189 k_1190 q_Mo_down (by decide) (Nat.le_of_ble_eq_true rfl) (by decide) d_Mo_satin_243 (fun z31 hc31 => ?_)
                subst hc31
                refine g_iadd ok d_Mo_satin_246 ?_
                refine g_top (y := al (mX0 G 248 sn i) (mX0 G 248 sn (i + 1)) j (sgM (mX0 G 247 sn) (mX0 G 248 sn) (mX1 G 247 sn) (mX1 G 248 sn) (G 245 (4 * sn + 2)) i)) (by unfold al; rw [if_neg (by omega)]) ?_
                refine g_iload ok d_Mo_satin_247 5 rfl ?_
                refine g_if_ne ok 261 d_Mo_satin_249 (by decide) (by omega) (fun h32 => ?_) (fun h32 => ?_)
                · have hdc : decide (i = 0 ∧ j = 0) = false := decide_eq_false (by omega)
                  refine g_iconst ok d_Mo_satin_261 ?_
                  refine g_top (y := b2 false) rfl ?_
                  refine g_callVV (As := [.int (iI sn), .int (iI (al (mX0 G 247 sn i) (mX0 G 247 sn (i + 1)) j (sgM (mX0 G 247 sn) (mX0 G 248 sn) (mX1 G 247 sn) (mX1 G 248 sn) (G 245 (4 * sn + 2)) i))), .int (iI (al (mX0 G 248 sn i) (mX0 G 248 sn (i + 1)) j (sgM (mX0 G 247 sn) (mX0 G 248 sn) (mX1 G 247 sn) (mX1 G 248 sn) (G 245 (4 * sn + 2)) i))), .int (iI (b2 false))]) (st := []) ok _ (c_Mo_comes F2 G2 F G sn _ _ false S _ hB hR2 (⟨al_rng (by omega) (by omega) (by omega), al_rng (by omega) (by omega) (by omega)⟩) (fun z => absurd hln (by rw [z]; show ¬ (0 : Int) = (_ : Int) + 2 * j; omega)) (by omega) s0 a0 D t ad) k_1209 k_11 k_1206 cl_Mo (m_Mo (ad := ad) (t := t) (F := F2) (G := G2) rfl).1 (m_Mo rfl).2 k_1208 s_Mo_comes q_Mo_comes (by decide) (Nat.le_of_ble_eq_true rfl) (by decide) d_Mo_satin_262 (fun ce1 hc33 => ?_)
                  obtain ⟨F112, G112, rfl, hR112⟩ := hc33
                  refine g_aload_n ok d_Mo_satin_265 rfl 0 rfl ?_
                  refine g_iload_n ok d_Mo_satin_266 rfl 1 rfl ?_
                  refine g_aload_n ok d_Mo_satin_267 rfl 0 rfl ?_
                  refine gI_Mo_cx ok _ rfl k_994 d_Mo_satin_268 ?_
                  refine g_iload ok d_Mo_satin_271 4 rfl ?_
                  refine g_iload ok d_Mo_satin_273 5 rfl ?_
                  refine g_iadd ok d_Mo_satin_275 ?_
                  refine h_iald ok _ a_247 (by omega) d_Mo_satin_276 ?_
                  refine g_top (y := G 247 (((96 * sn) + 24) + i)) (by show G112 247 (((96 * sn) + 24) + i) = _; rw [hR112.2.2.2.2.2 247 (by decide) (by omega)]) ?_
                  refine g_top (y := mX1 G 247 sn i) (by show G 247 (((96 * sn) + 24) + i) = G 247 _; first | rfl | (congr 1; omega)) ?_
                  refine g_iload ok d_Mo_satin_277 12 rfl ?_
                  refine g_iload ok d_Mo_satin_279 8 rfl ?_
                  refine g_imul ok d_Mo_satin_281 ?_
                  refine g_iload ok d_Mo_satin_282 11 rfl ?_
                  have hpr33 : -2147483648 ≤ j * (mX1 G 247 sn (i + 1) - mX1 G 247 sn i) ∧ j * (mX1 G 247 sn (i + 1) - mX1 G 247 sn i) < 2147483648 := by have h := mul_rng (a := j) (b := mX1 G 247 sn (i + 1) - mX1 G 247 sn i) (by omega) (by omega); omega
                  refine g_callPS (As := [.int (iI (j * (mX1 G 247 sn (i + 1) - mX1 G 247 sn i))), .int (iI (sgM (mX0 G 247 sn) (mX0 G 248 sn) (mX1 G 247 sn) (mX1 G 248 sn) (G 245 (4 * sn + 2)) i))]) (st := [.int (iI (mX1 G 247 sn i)), .int (iI sn), .ref (ad 244)]) ok (c_Mo_down F112 G112 _ _ hpr33 (by omega) s0 a0 D t ad) k_1191 k_11 k_1189 k_1190 q_Mo_down (by decide) (Nat.le_of_ble_eq_true rfl) (by decide) d_Mo_satin_284 (fun z34 hc34 => ?_)
                  subst hc34
                  refine g_iadd ok d_Mo_satin_287 ?_
                  refine g_top (y := al (mX1 G 247 sn i) (mX1 G 247 sn (i + 1)) j (sgM (mX0 G 247 sn) (mX0 G 248 sn) (mX1 G 247 sn) (mX1 G 248 sn) (G 245 (4 * sn + 2)) i)) (by unfold al; rw [if_neg (by omega)]) ?_
                  refine g_aload_n ok d_Mo_satin_288 rfl 0 rfl ?_
                  refine gI_Mo_cy ok _ rfl k_995 d_Mo_satin_289 ?_
                  refine g_iload ok d_Mo_satin_292 4 rfl ?_
                  refine g_iload ok d_Mo_satin_294 5 rfl ?_
                  refine g_iadd ok d_Mo_satin_296 ?_
                  refine h_iald ok _ a_248 (by omega) d_Mo_satin_297 ?_
                  refine g_top (y := G 248 (((96 * sn) + 24) + i)) (by show G112 248 (((96 * sn) + 24) + i) = _; rw [hR112.2.2.2.2.2 248 (by decide) (by omega)]) ?_
                  refine g_top (y := mX1 G 248 sn i) (by show G 248 (((96 * sn) + 24) + i) = G 248 _; first | rfl | (congr 1; omega)) ?_
                  refine g_iload ok d_Mo_satin_298 12 rfl ?_
                  refine g_iload ok d_Mo_satin_300 9 rfl ?_
                  refine g_imul ok d_Mo_satin_302 ?_
                  refine g_iload ok d_Mo_satin_303 11 rfl ?_
                  have hpr34 : -2147483648 ≤ j * (mX1 G 248 sn (i + 1) - mX1 G 248 sn i) ∧ j * (mX1 G 248 sn (i + 1) - mX1 G 248 sn i) < 2147483648 := by have h := mul_rng (a := j) (b := mX1 G 248 sn (i + 1) - mX1 G 248 sn i) (by omega) (by omega); omega
                  refine g_callPS (As := [.int (iI (j * (mX1 G 248 sn (i + 1) - mX1 G 248 sn i))), .int (iI (sgM (mX0 G 247 sn) (mX0 G 248 sn) (mX1 G 247 sn) (mX1 G 248 sn) (G 245 (4 * sn + 2)) i))]) (st := [.int (iI (mX1 G 248 sn i)), .int (iI (al (mX1 G 247 sn i) (mX1 G 247 sn (i + 1)) j (sgM (mX0 G 247 sn) (mX0 G 248 sn) (mX1 G 247 sn) (mX1 G 248 sn) (G 245 (4 * sn + 2)) i))), .int (iI sn), .ref (ad 244)]) ok (c_Mo_down F112 G112 _ _ hpr34 (by omega) s0 a0 D t ad) k_1191 k_11 k_1189 k_1190 q_Mo_down (by decide) (Nat.le_of_ble_eq_true rfl) (by decide) d_Mo_satin_305 (fun z35 hc35 => ?_)
                  subst hc35
                  refine g_iadd ok d_Mo_satin_308 ?_
                  refine g_top (y := al (mX1 G 248 sn i) (mX1 G 248 sn (i + 1)) j (sgM (mX0 G 247 sn) (mX0 G 248 sn) (mX1 G 247 sn) (mX1 G 248 sn) (G 245 (4 * sn + 2)) i)) (by unfold al; rw [if_neg (by omega)]) ?_
                  refine g_iconst ok d_Mo_satin_309 ?_
                  refine g_top (y := b2 false) rfl ?_
                  refine g_callVV (As := [.int (iI sn), .int (iI (al (mX1 G 247 sn i) (mX1 G 247 sn (i + 1)) j (sgM (mX0 G 247 sn) (mX0 G 248 sn) (mX1 G 247 sn) (mX1 G 248 sn) (G 245 (4 * sn + 2)) i))), .int (iI (al (mX1 G 248 sn i) (mX1 G 248 sn (i + 1)) j (sgM (mX0 G 247 sn) (mX0 G 248 sn) (mX1 G 247 sn) (mX1 G 248 sn) (G 245 (4 * sn + 2)) i))), .int (iI (b2 false))]) (st := []) ok _ (c_Mo_comes F112 G112 F G sn _ _ false S _ hB hR112 (⟨al_rng (by omega) (by omega) (by omega), al_rng (by omega) (by omega) (by omega)⟩) (fun z => absurd z sn_ne) (by rw [len_snoc]; omega) s0 a0 D t ad) k_1209 k_11 k_1206 cl_Mo (m_Mo (ad := ad) (t := t) (F := F112) (G := G112) rfl).1 (m_Mo rfl).2 k_1208 s_Mo_comes q_Mo_comes (by decide) (Nat.le_of_ble_eq_true rfl) (by decide) d_Mo_satin_310 (fun ce1 hc36 => ?_)
                  obtain ⟨F113, G113, rfl, hR113⟩ := hc36
                  refine g_iinc (lv' := [(12, .int (iI (j + 1))), (0, .ref (ad 244)), (1, .int (iI sn)), (2, .int (iI (G 246 (4 * sn)))), (3, .int (iI (96 * sn))), (4, .int (iI ((96 * sn) + 24))), (5, .int (iI i)), (6, .int (iI (mX0 G 247 sn (i + 1) - mX0 G 247 sn i))), (7, .int (iI (mX0 G 248 sn (i + 1) - mX0 G 248 sn i))), (8, .int (iI (mX1 G 247 sn (i + 1) - mX1 G 247 sn i))), (9, .int (iI (mX1 G 248 sn (i + 1) - mX1 G 248 sn i))), (10, .int (iI (max (sgF (mX0 G 247 sn) (mX0 G 248 sn) i) (sgF (mX1 G 247 sn) (mX1 G 248 sn) i)))), (11, .int (iI (sgM (mX0 G 247 sn) (mX0 G 248 sn) (mX1 G 247 sn) (mX1 G 248 sn) (G 245 (4 * sn + 2)) i)))]) ok d_Mo_satin_313 12 rfl (by decide) rfl ?_
                  refine g_goto ok 198 d_Mo_satin_316 (by decide) ?_
                  refine g_lv [1, 2, 3, 4, 5, 6, 7, 8, 9, 10, 11, 12, 0] rfl ?_
                  exact ih_j (j + 1) F113 G113 (by omega) (by rw [sgE_step hj.1, hdc, ← List.append_assoc, ← List.append_assoc]; exact hR113) (by omega)
                · refine g_iload ok d_Mo_satin_252 12 rfl ?_
                  refine g_if_ne ok 261 d_Mo_satin_254 (by decide) (by omega) (fun h37 => ?_) (fun h37 => ?_)
                  · have hdc : decide (i = 0 ∧ j = 0) = false := decide_eq_false (by omega)
                    refine g_iconst ok d_Mo_satin_261 ?_
                    refine g_top (y := b2 false) rfl ?_
                    refine g_callVV (As := [.int (iI sn), .int (iI (al (mX0 G 247 sn i) (mX0 G 247 sn (i + 1)) j (sgM (mX0 G 247 sn) (mX0 G 248 sn) (mX1 G 247 sn) (mX1 G 248 sn) (G 245 (4 * sn + 2)) i))), .int (iI (al (mX0 G 248 sn i) (mX0 G 248 sn (i + 1)) j (sgM (mX0 G 247 sn) (mX0 G 248 sn) (mX1 G 247 sn) (mX1 G 248 sn) (G 245 (4 * sn + 2)) i))), .int (iI (b2 false))]) (st := []) ok _ (c_Mo_comes F2 G2 F G sn _ _ false S _ hB hR2 (⟨al_rng (by omega) (by omega) (by omega), al_rng (by omega) (by omega) (by omega)⟩) (fun z => absurd hln (by rw [z]; show ¬ (0 : Int) = (_ : Int) + 2 * j; omega)) (by omega) s0 a0 D t ad) k_1209 k_11 k_1206 cl_Mo (m_Mo (ad := ad) (t := t) (F := F2) (G := G2) rfl).1 (m_Mo rfl).2 k_1208 s_Mo_comes q_Mo_comes (by decide) (Nat.le_of_ble_eq_true rfl) (by decide) d_Mo_satin_262 (fun ce1 hc38 => ?_)
                    obtain ⟨F114, G114, rfl, hR114⟩ := hc38
                    refine g_aload_n ok d_Mo_satin_265 rfl 0 rfl ?_
                    refine g_iload_n ok d_Mo_satin_266 rfl 1 rfl ?_
                    refine g_aload_n ok d_Mo_satin_267 rfl 0 rfl ?_
                    refine gI_Mo_cx ok _ rfl k_994 d_Mo_satin_268 ?_
                    refine g_iload ok d_Mo_satin_271 4 rfl ?_
                    refine g_iload ok d_Mo_satin_273 5 rfl ?_
                    refine g_iadd ok d_Mo_satin_275 ?_
                    refine h_iald ok _ a_247 (by omega) d_Mo_satin_276 ?_
                    refine g_top (y := G 247 (((96 * sn) + 24) + i)) (by show G114 247 (((96 * sn) + 24) + i) = _; rw [hR114.2.2.2.2.2 247 (by decide) (by omega)]) ?_
                    refine g_top (y := mX1 G 247 sn i) (by show G 247 (((96 * sn) + 24) + i) = G 247 _; first | rfl | (congr 1; omega)) ?_
                    refine g_iload ok d_Mo_satin_277 12 rfl ?_
                    refine g_iload ok d_Mo_satin_279 8 rfl ?_
                    refine g_imul ok d_Mo_satin_281 ?_
                    refine g_iload ok d_Mo_satin_282 11 rfl ?_
                    have hpr38 : -2147483648 ≤ j * (mX1 G 247 sn (i + 1) - mX1 G 247 sn i) ∧ j * (mX1 G 247 sn (i + 1) - mX1 G 247 sn i) < 2147483648 := by have h := mul_rng (a := j) (b := mX1 G 247 sn (i + 1) - mX1 G 247 sn i) (by omega) (by omega); omega
                    refine g_callPS (As := [.int (iI (j * (mX1 G 247 sn (i + 1) - mX1 G 247 sn i))), .int (iI (sgM (mX0 G 247 sn) (mX0 G 248 sn) (mX1 G 247 sn) (mX1 G 248 sn) (G 245 (4 * sn + 2)) i))]) (st := [.int (iI (mX1 G 247 sn i)), .int (iI sn), .ref (ad 244)]) ok (c_Mo_down F114 G114 _ _ hpr38 (by omega) s0 a0 D t ad) k_1191 k_11 k_1189 k_1190 q_Mo_down (by decide) (Nat.le_of_ble_eq_true rfl) (by decide) d_Mo_satin_284 (fun z39 hc39 => ?_)
                    subst hc39
                    refine g_iadd ok d_Mo_satin_287 ?_
                    refine g_top (y := al (mX1 G 247 sn i) (mX1 G 247 sn (i + 1)) j (sgM (mX0 G 247 sn) (mX0 G 248 sn) (mX1 G 247 sn) (mX1 G 248 sn) (G 245 (4 * sn + 2)) i)) (by unfold al; rw [if_neg (by omega)]) ?_
                    refine g_aload_n ok d_Mo_satin_288 rfl 0 rfl ?_
                    refine gI_Mo_cy ok _ rfl k_995 d_Mo_satin_289 ?_
                    refine g_iload ok d_Mo_satin_292 4 rfl ?_
                    refine g_iload ok d_Mo_satin_294 5 rfl ?_
                    refine g_iadd ok d_Mo_satin_296 ?_
                    refine h_iald ok _ a_248 (by omega) d_Mo_satin_297 ?_
                    refine g_top (y := G 248 (((96 * sn) + 24) + i)) (by show G114 248 (((96 * sn) + 24) + i) = _; rw [hR114.2.2.2.2.2 248 (by decide) (by omega)]) ?_
                    refine g_top (y := mX1 G 248 sn i) (by show G 248 (((96 * sn) + 24) + i) = G 248 _; first | rfl | (congr 1; omega)) ?_
                    refine g_iload ok d_Mo_satin_298 12 rfl ?_
                    refine g_iload ok d_Mo_satin_300 9 rfl ?_
                    refine g_imul ok d_Mo_satin_302 ?_
                    refine g_iload ok d_Mo_satin_303 11 rfl ?_
                    have hpr39 : -2147483648 ≤ j * (mX1 G 248 sn (i + 1) - mX1 G 248 sn i) ∧ j * (mX1 G 248 sn (i + 1) - mX1 G 248 sn i) < 2147483648 := by have h := mul_rng (a := j) (b := mX1 G 248 sn (i + 1) - mX1 G 248 sn i) (by omega) (by omega); omega
                    refine g_callPS (As := [.int (iI (j * (mX1 G 248 sn (i + 1) - mX1 G 248 sn i))), .int (iI (sgM (mX0 G 247 sn) (mX0 G 248 sn) (mX1 G 247 sn) (mX1 G 248 sn) (G 245 (4 * sn + 2)) i))]) (st := [.int (iI (mX1 G 248 sn i)), .int (iI (al (mX1 G 247 sn i) (mX1 G 247 sn (i + 1)) j (sgM (mX0 G 247 sn) (mX0 G 248 sn) (mX1 G 247 sn) (mX1 G 248 sn) (G 245 (4 * sn + 2)) i))), .int (iI sn), .ref (ad 244)]) ok (c_Mo_down F114 G114 _ _ hpr39 (by omega) s0 a0 D t ad) k_1191 k_11 k_1189 k_1190 q_Mo_down (by decide) (Nat.le_of_ble_eq_true rfl) (by decide) d_Mo_satin_305 (fun z40 hc40 => ?_)
                    subst hc40
                    refine g_iadd ok d_Mo_satin_308 ?_
                    refine g_top (y := al (mX1 G 248 sn i) (mX1 G 248 sn (i + 1)) j (sgM (mX0 G 247 sn) (mX0 G 248 sn) (mX1 G 247 sn) (mX1 G 248 sn) (G 245 (4 * sn + 2)) i)) (by unfold al; rw [if_neg (by omega)]) ?_
                    refine g_iconst ok d_Mo_satin_309 ?_
                    refine g_top (y := b2 false) rfl ?_
                    refine g_callVV (As := [.int (iI sn), .int (iI (al (mX1 G 247 sn i) (mX1 G 247 sn (i + 1)) j (sgM (mX0 G 247 sn) (mX0 G 248 sn) (mX1 G 247 sn) (mX1 G 248 sn) (G 245 (4 * sn + 2)) i))), .int (iI (al (mX1 G 248 sn i) (mX1 G 248 sn (i + 1)) j (sgM (mX0 G 247 sn) (mX0 G 248 sn) (mX1 G 247 sn) (mX1 G 248 sn) (G 245 (4 * sn + 2)) i))), .int (iI (b2 false))]) (st := []) ok _ (c_Mo_comes F114 G114 F G sn _ _ false S _ hB hR114 (⟨al_rng (by omega) (by omega) (by omega), al_rng (by omega) (by omega) (by omega)⟩) (fun z => absurd z sn_ne) (by rw [len_snoc]; omega) s0 a0 D t ad) k_1209 k_11 k_1206 cl_Mo (m_Mo (ad := ad) (t := t) (F := F114) (G := G114) rfl).1 (m_Mo rfl).2 k_1208 s_Mo_comes q_Mo_comes (by decide) (Nat.le_of_ble_eq_true rfl) (by decide) d_Mo_satin_310 (fun ce1 hc41 => ?_)
                    obtain ⟨F115, G115, rfl, hR115⟩ := hc41
                    refine g_iinc (lv' := [(12, .int (iI (j + 1))), (0, .ref (ad 244)), (1, .int (iI sn)), (2, .int (iI (G 246 (4 * sn)))), (3, .int (iI (96 * sn))), (4, .int (iI ((96 * sn) + 24))), (5, .int (iI i)), (6, .int (iI (mX0 G 247 sn (i + 1) - mX0 G 247 sn i))), (7, .int (iI (mX0 G 248 sn (i + 1) - mX0 G 248 sn i))), (8, .int (iI (mX1 G 247 sn (i + 1) - mX1 G 247 sn i))), (9, .int (iI (mX1 G 248 sn (i + 1) - mX1 G 248 sn i))), (10, .int (iI (max (sgF (mX0 G 247 sn) (mX0 G 248 sn) i) (sgF (mX1 G 247 sn) (mX1 G 248 sn) i)))), (11, .int (iI (sgM (mX0 G 247 sn) (mX0 G 248 sn) (mX1 G 247 sn) (mX1 G 248 sn) (G 245 (4 * sn + 2)) i)))]) ok d_Mo_satin_313 12 rfl (by decide) rfl ?_
                    refine g_goto ok 198 d_Mo_satin_316 (by decide) ?_
                    refine g_lv [1, 2, 3, 4, 5, 6, 7, 8, 9, 10, 11, 12, 0] rfl ?_
                    exact ih_j (j + 1) F115 G115 (by omega) (by rw [sgE_step hj.1, hdc, ← List.append_assoc, ← List.append_assoc]; exact hR115) (by omega)
                  · have hdc : decide (i = 0 ∧ j = 0) = true := decide_eq_true (by omega)
                    refine g_iconst ok d_Mo_satin_257 ?_
                    refine g_goto ok 262 d_Mo_satin_258 (by decide) ?_
                    refine g_top (y := b2 true) rfl ?_
                    refine g_callVV (As := [.int (iI sn), .int (iI (al (mX0 G 247 sn i) (mX0 G 247 sn (i + 1)) j (sgM (mX0 G 247 sn) (mX0 G 248 sn) (mX1 G 247 sn) (mX1 G 248 sn) (G 245 (4 * sn + 2)) i))), .int (iI (al (mX0 G 248 sn i) (mX0 G 248 sn (i + 1)) j (sgM (mX0 G 247 sn) (mX0 G 248 sn) (mX1 G 247 sn) (mX1 G 248 sn) (G 245 (4 * sn + 2)) i))), .int (iI (b2 true))]) (st := []) ok _ (c_Mo_comes F2 G2 F G sn _ _ true S _ hB hR2 (⟨al_rng (by omega) (by omega) (by omega), al_rng (by omega) (by omega) (by omega)⟩) (fun _ => rfl) (by omega) s0 a0 D t ad) k_1209 k_11 k_1206 cl_Mo (m_Mo (ad := ad) (t := t) (F := F2) (G := G2) rfl).1 (m_Mo rfl).2 k_1208 s_Mo_comes q_Mo_comes (by decide) (Nat.le_of_ble_eq_true rfl) (by decide) d_Mo_satin_262 (fun ce1 hc42 => ?_)
                    obtain ⟨F116, G116, rfl, hR116⟩ := hc42
                    refine g_aload_n ok d_Mo_satin_265 rfl 0 rfl ?_
                    refine g_iload_n ok d_Mo_satin_266 rfl 1 rfl ?_
                    refine g_aload_n ok d_Mo_satin_267 rfl 0 rfl ?_
                    refine gI_Mo_cx ok _ rfl k_994 d_Mo_satin_268 ?_
                    refine g_iload ok d_Mo_satin_271 4 rfl ?_
                    refine g_iload ok d_Mo_satin_273 5 rfl ?_
                    refine g_iadd ok d_Mo_satin_275 ?_
                    refine h_iald ok _ a_247 (by omega) d_Mo_satin_276 ?_
                    refine g_top (y := G 247 (((96 * sn) + 24) + i)) (by show G116 247 (((96 * sn) + 24) + i) = _; rw [hR116.2.2.2.2.2 247 (by decide) (by omega)]) ?_
                    refine g_top (y := mX1 G 247 sn i) (by show G 247 (((96 * sn) + 24) + i) = G 247 _; first | rfl | (congr 1; omega)) ?_
                    refine g_iload ok d_Mo_satin_277 12 rfl ?_
                    refine g_iload ok d_Mo_satin_279 8 rfl ?_
                    refine g_imul ok d_Mo_satin_281 ?_
                    refine g_iload ok d_Mo_satin_282 11 rfl ?_
                    have hpr42 : -2147483648 ≤ j * (mX1 G 247 sn (i + 1) - mX1 G 247 sn i) ∧ j * (mX1 G 247 sn (i + 1) - mX1 G 247 sn i) < 2147483648 := by have h := mul_rng (a := j) (b := mX1 G 247 sn (i + 1) - mX1 G 247 sn i) (by omega) (by omega); omega
                    refine g_callPS (As := [.int (iI (j * (mX1 G 247 sn (i + 1) - mX1 G 247 sn i))), .int (iI (sgM (mX0 G 247 sn) (mX0 G 248 sn) (mX1 G 247 sn) (mX1 G 248 sn) (G 245 (4 * sn + 2)) i))]) (st := [.int (iI (mX1 G 247 sn i)), .int (iI sn), .ref (ad 244)]) ok (c_Mo_down F116 G116 _ _ hpr42 (by omega) s0 a0 D t ad) k_1191 k_11 k_1189 k_1190 q_Mo_down (by decide) (Nat.le_of_ble_eq_true rfl) (by decide) d_Mo_satin_284 (fun z43 hc43 => ?_)
                    subst hc43
                    refine g_iadd ok d_Mo_satin_287 ?_
                    refine g_top (y := al (mX1 G 247 sn i) (mX1 G 247 sn (i + 1)) j (sgM (mX0 G 247 sn) (mX0 G 248 sn) (mX1 G 247 sn) (mX1 G 248 sn) (G 245 (4 * sn + 2)) i)) (by unfold al; rw [if_neg (by omega)]) ?_
                    refine g_aload_n ok d_Mo_satin_288 rfl 0 rfl ?_
                    refine gI_Mo_cy ok _ rfl k_995 d_Mo_satin_289 ?_
                    refine g_iload ok d_Mo_satin_292 4 rfl ?_
                    refine g_iload ok d_Mo_satin_294 5 rfl ?_
                    refine g_iadd ok d_Mo_satin_296 ?_
                    refine h_iald ok _ a_248 (by omega) d_Mo_satin_297 ?_
                    refine g_top (y := G 248 (((96 * sn) + 24) + i)) (by show G116 248 (((96 * sn) + 24) + i) = _; rw [hR116.2.2.2.2.2 248 (by decide) (by omega)]) ?_
                    refine g_top (y := mX1 G 248 sn i) (by show G 248 (((96 * sn) + 24) + i) = G 248 _; first | rfl | (congr 1; omega)) ?_
                    refine g_iload ok d_Mo_satin_298 12 rfl ?_
                    refine g_iload ok d_Mo_satin_300 9 rfl ?_
                    refine g_imul ok d_Mo_satin_302 ?_
                    refine g_iload ok d_Mo_satin_303 11 rfl ?_
                    have hpr43 : -2147483648 ≤ j * (mX1 G 248 sn (i + 1) - mX1 G 248 sn i) ∧ j * (mX1 G 248 sn (i + 1) - mX1 G 248 sn i) < 2147483648 := by have h := mul_rng (a := j) (b := mX1 G 248 sn (i + 1) - mX1 G 248 sn i) (by omega) (by omega); omega
                    refine g_callPS (As := [.int (iI (j * (mX1 G 248 sn (i + 1) - mX1 G 248 sn i))), .int (iI (sgM (mX0 G 247 sn) (mX0 G 248 sn) (mX1 G 247 sn) (mX1 G 248 sn) (G 245 (4 * sn + 2)) i))]) (st := [.int (iI (mX1 G 248 sn i)), .int (iI (al (mX1 G 247 sn i) (mX1 G 247 sn (i + 1)) j (sgM (mX0 G 247 sn) (mX0 G 248 sn) (mX1 G 247 sn) (mX1 G 248 sn) (G 245 (4 * sn + 2)) i))), .int (iI sn), .ref (ad 244)]) ok (c_Mo_down F116 G116 _ _ hpr43 (by omega) s0 a0 D t ad) k_1191 k_11 k_1189 k_1190 q_Mo_down (by decide) (Nat.le_of_ble_eq_true rfl) (by decide) d_Mo_satin_305 (fun z44 hc44 => ?_)
                    subst hc44
                    refine g_iadd ok d_Mo_satin_308 ?_
                    refine g_top (y := al (mX1 G 248 sn i) (mX1 G 248 sn (i + 1)) j (sgM (mX0 G 247 sn) (mX0 G 248 sn) (mX1 G 247 sn) (mX1 G 248 sn) (G 245 (4 * sn + 2)) i)) (by unfold al; rw [if_neg (by omega)]) ?_
                    refine g_iconst ok d_Mo_satin_309 ?_
                    refine g_top (y := b2 false) rfl ?_
                    refine g_callVV (As := [.int (iI sn), .int (iI (al (mX1 G 247 sn i) (mX1 G 247 sn (i + 1)) j (sgM (mX0 G 247 sn) (mX0 G 248 sn) (mX1 G 247 sn) (mX1 G 248 sn) (G 245 (4 * sn + 2)) i))), .int (iI (al (mX1 G 248 sn i) (mX1 G 248 sn (i + 1)) j (sgM (mX0 G 247 sn) (mX0 G 248 sn) (mX1 G 247 sn) (mX1 G 248 sn) (G 245 (4 * sn + 2)) i))), .int (iI (b2 false))]) (st := []) ok _ (c_Mo_comes F116 G116 F G sn _ _ false S _ hB hR116 (⟨al_rng (by omega) (by omega) (by omega), al_rng (by omega) (by omega) (by omega)⟩) (fun z => absurd z sn_ne) (by rw [len_snoc]; omega) s0 a0 D t ad) k_1209 k_11 k_1206 cl_Mo (m_Mo (ad := ad) (t := t) (F := F116) (G := G116) rfl).1 (m_Mo rfl).2 k_1208 s_Mo_comes q_Mo_comes (by decide) (Nat.le_of_ble_eq_true rfl) (by decide) d_Mo_satin_310 (fun ce1 hc45 => ?_)
                    obtain ⟨F117, G117, rfl, hR117⟩ := hc45
                    refine g_iinc (lv' := [(12, .int (iI (j + 1))), (0, .ref (ad 244)), (1, .int (iI sn)), (2, .int (iI (G 246 (4 * sn)))), (3, .int (iI (96 * sn))), (4, .int (iI ((96 * sn) + 24))), (5, .int (iI i)), (6, .int (iI (mX0 G 247 sn (i + 1) - mX0 G 247 sn i))), (7, .int (iI (mX0 G 248 sn (i + 1) - mX0 G 248 sn i))), (8, .int (iI (mX1 G 247 sn (i + 1) - mX1 G 247 sn i))), (9, .int (iI (mX1 G 248 sn (i + 1) - mX1 G 248 sn i))), (10, .int (iI (max (sgF (mX0 G 247 sn) (mX0 G 248 sn) i) (sgF (mX1 G 247 sn) (mX1 G 248 sn) i)))), (11, .int (iI (sgM (mX0 G 247 sn) (mX0 G 248 sn) (mX1 G 247 sn) (mX1 G 248 sn) (G 245 (4 * sn + 2)) i)))]) ok d_Mo_satin_313 12 rfl (by decide) rfl ?_
                    refine g_goto ok 198 d_Mo_satin_316 (by decide) ?_
                    refine g_lv [1, 2, 3, 4, 5, 6, 7, 8, 9, 10, 11, 12, 0] rfl ?_
                    exact ih_j (j + 1) F117 G117 (by omega) (by rw [sgE_step hj.1, hdc, ← List.append_assoc, ← List.append_assoc]; exact hR117) (by omega)
          refine g_z ?_
          refine g_lv [7, 8, 9, 10, 11, 12, 6, 5, 4, 3, 2, 1, 0] rfl ?_
          exact L_j ((sgM (mX0 G 247 sn) (mX0 G 248 sn) (mX1 G 247 sn) (mX1 G 248 sn) (G 245 (4 * sn + 2)) i + 1 - 0 : Int).toNat + 1) 0 F1 G1 (by omega) (by show mtR F G sn S _ _ (_ ++ []); rw [List.append_nil]; exact hR1) (by omega)
  refine g_z ?_
  refine g_lv [4, 5, 3, 2, 1, 0] rfl ?_
  exact L_i ((G 246 (4 * sn) + 1 - 0 : Int).toNat + 1) 0 F G (by omega) (by show 2 * (0 : Int) ≤ 0 ∧ (0 : Int) ≤ 1200 * 0; decide) (h0) (by omega)
