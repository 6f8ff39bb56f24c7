theorem d_Pm_leap_0 : decode b_Pm_leap 0 = .ok (.iload_n 1, 1) := by decide +kernel
theorem d_Pm_leap_1 : decode b_Pm_leap 1 = .ok (.aload_n 0, 1) := by decide +kernel
theorem d_Pm_leap_2 : decode b_Pm_leap 2 = .ok (.getfield 21, 3) := by decide +kernel
theorem d_Pm_leap_5 : decode b_Pm_leap 5 = .ok (.isub, 1) := by decide +kernel
theorem d_Pm_leap_6 : decode b_Pm_leap 6 = .ok (.invokestatic 68, 3) := by decide +kernel
theorem d_Pm_leap_9 : decode b_Pm_leap 9 = .ok (.iload_n 2, 1) := by decide +kernel
theorem d_Pm_leap_10 : decode b_Pm_leap 10 = .ok (.aload_n 0, 1) := by decide +kernel
theorem d_Pm_leap_11 : decode b_Pm_leap 11 = .ok (.getfield 25, 3) := by decide +kernel
theorem d_Pm_leap_14 : decode b_Pm_leap 14 = .ok (.isub, 1) := by decide +kernel
theorem d_Pm_leap_15 : decode b_Pm_leap 15 = .ok (.invokestatic 68, 3) := by decide +kernel
theorem d_Pm_leap_18 : decode b_Pm_leap 18 = .ok (.invokestatic 74, 3) := by decide +kernel
theorem d_Pm_leap_21 : decode b_Pm_leap 21 = .ok (.sipush 300, 3) := by decide +kernel
theorem d_Pm_leap_24 : decode b_Pm_leap 24 = .ok (.if_icmp .le 13, 3) := by decide +kernel
theorem d_Pm_leap_27 : decode b_Pm_leap 27 = .ok (.aload_n 0, 1) := by decide +kernel
theorem d_Pm_leap_28 : decode b_Pm_leap 28 = .ok (.getfield 12, 3) := by decide +kernel
theorem d_Pm_leap_31 : decode b_Pm_leap 31 = .ok (.iconst 0, 1) := by decide +kernel
theorem d_Pm_leap_32 : decode b_Pm_leap 32 = .ok (.iconst 0, 1) := by decide +kernel
theorem d_Pm_leap_33 : decode b_Pm_leap 33 = .ok (.iconst 2, 1) := by decide +kernel
theorem d_Pm_leap_34 : decode b_Pm_leap 34 = .ok (.invokevirtual 65, 3) := by decide +kernel
theorem d_Pm_leap_37 : decode b_Pm_leap 37 = .ok (.aload_n 0, 1) := by decide +kernel
theorem d_Pm_leap_38 : decode b_Pm_leap 38 = .ok (.iload_n 1, 1) := by decide +kernel
theorem d_Pm_leap_39 : decode b_Pm_leap 39 = .ok (.iload_n 2, 1) := by decide +kernel
theorem d_Pm_leap_40 : decode b_Pm_leap 40 = .ok (.iconst 1, 1) := by decide +kernel
theorem d_Pm_leap_41 : decode b_Pm_leap 41 = .ok (.invokevirtual 45, 3) := by decide +kernel
theorem d_Pm_leap_44 : decode b_Pm_leap 44 = .ok (.return_, 1) := by decide +kernel
set_option maxHeartbeats 1000000 in
set_option maxRecDepth 100000 in
theorem c_Pm_leap (F : Nat → Nat → Int) (G : Nat → Int → Int) (u v : Int) (L : List Rc) (hR : pmR F G (F 235 2, F 235 3, F 235 4, L)) (hU : inR u v) : cV y_Pm_leap b_Pm_leap 3 none 3 74 F G (fun ad => [.ref (ad 235), .int (iI u), .int (iI v)]) (fun F' G' => pmR F' G' (lpS u v (F 235 2, F 235 3, F 235 4, L)) ∧ pFr F F' ∧ qFr G G') := by
  obtain ⟨-, -, -, hp0, hX, ht⟩ := id hR
  simp only at hp0 hX ht
  have hxy := hX
  have huv := hU
  unfold inR at hxy huv
  have hfa := far_rng hX hU
  intro s0 a0 D t ad
  refine g_startV (by decide +kernel) (Nat.le_of_ble_eq_true rfl) (fun p l e R s m args below meth c A ok => ?_)
  show gW p l e R s m args below meth c _ D A 3 (gZ0 s) 0 0 ad 265 (mem ad t F G) 0 [(0, .ref (ad 235)), (1, .int (iI u)), (2, .int (iI v))] []
  refine g_iload_n ok d_Pm_leap_0 rfl 1 rfl ?_
  refine g_aload_n ok d_Pm_leap_1 rfl 0 rfl ?_
  refine gI_Pm_x ok _ rfl k_272 d_Pm_leap_2 ?_
  refine g_isub ok d_Pm_leap_5 ?_
  refine g_callPS (As := [.int (iI (u - (F 235 2)))]) (st := []) ok (c_Ma_abs F G _ (by omega) s0 a0 D t ad) k_494 k_18 k_492 k_493 q_Ma_abs (by decide) (Nat.le_of_ble_eq_true rfl) (by decide) d_Pm_leap_6 (fun z1 hc1 => ?_)
  subst hc1
  refine g_top (y := iab (u - (F 235 2))) rfl ?_
  have hab1 := iab_rng (a := u - (F 235 2)) (by omega)
  refine g_iload_n ok d_Pm_leap_9 rfl 2 rfl ?_
  refine g_aload_n ok d_Pm_leap_10 rfl 0 rfl ?_
  refine gI_Pm_y ok _ rfl k_273 d_Pm_leap_11 ?_
  refine g_isub ok d_Pm_leap_14 ?_
  refine g_callPS (As := [.int (iI (v - (F 235 3)))]) (st := [.int (iI (iab (u - (F 235 2))))]) ok (c_Ma_abs F G _ (by omega) s0 a0 D t ad) k_494 k_18 k_492 k_493 q_Ma_abs (by decide) (Nat.le_of_ble_eq_true rfl) (by decide) d_Pm_leap_15 (fun z2 hc2 => ?_)
  subst hc2
  refine g_top (y := iab (v - (F 235 3))) rfl ?_
  have hab2 := iab_rng (a := v - (F 235 3)) (by omega)
  refine g_callPS (As := [.int (iI (iab (u - (F 235 2)))), .int (iI (iab (v - (F 235 3))))]) (st := []) ok (c_Ma_max F G _ _ (by omega) (by omega) s0 a0 D t ad) k_414 k_18 k_495 k_413 q_Ma_max (by decide) (Nat.le_of_ble_eq_true rfl) (by decide) d_Pm_leap_18 (fun z3 hc3 => ?_)
  subst hc3
  refine g_top (y := far (F 235 2) (F 235 3) u v) rfl ?_
  refine g_sipush ok (by decide) d_Pm_leap_21 ?_
  refine g_icmp_le ok 37 d_Pm_leap_24 (by decide) (by omega) (by omega) (fun h4 => ?_) (fun h4 => ?_)
  · refine g_aload_n ok d_Pm_leap_37 rfl 0 rfl ?_
    refine g_iload_n ok d_Pm_leap_38 rfl 1 rfl ?_
    refine g_iload_n ok d_Pm_leap_39 rfl 2 rfl ?_
    refine g_iconst ok d_Pm_leap_40 ?_
    refine g_callVV (As := [.int (iI u), .int (iI v), .int (iI 1)]) (st := []) ok _ (c_Pm_move F G _ _ _ L hR hU (by decide) s0 a0 D t ad) k_487 k_8 k_484 cl_Pm (m_Pm (ad := ad) (t := t) (F := F) (G := G) rfl).1 (m_Pm rfl).2 k_486 s_Pm_move q_Pm_move (by decide) (Nat.le_of_ble_eq_true rfl) (by decide) d_Pm_leap_41 (fun ce1 hc5 => ?_)
    obtain ⟨F2, G2, rfl, hR2, hf2, hg2⟩ := hc5
    exact g_vret ok d_Pm_leap_44 ⟨_, _, rfl, by unfold lpS; rw [if_neg (show ¬ 300 < far (F 235 2) (F 235 3) u v by omega)]; exact hR2, hf2, hg2⟩
  · refine g_aload_n ok d_Pm_leap_27 rfl 0 rfl ?_
    refine gI_Pm_path ok _ rfl k_269 d_Pm_leap_28 ?_
    refine g_iconst ok d_Pm_leap_31 ?_
    refine g_iconst ok d_Pm_leap_32 ?_
    refine g_iconst ok d_Pm_leap_33 ?_
    refine g_callVVN (As := [.int (iI 0), .int (iI 0), .int (iI 2)]) (st := []) ok _ (c_Pa_add F G _ _ _ (pathR_rng hp0).1 (by decide) (by decide) (by decide) s0 a0 D t ad) k_503 k_9 k_500 cl_Pa (m_Pa (ad := ad) (t := t) (F := F) (G := G) rfl).1 (m_Pa rfl).2 k_502 s_Pa_add q_Pa_add (by decide) (Nat.le_of_ble_eq_true rfl) (by decide) d_Pm_leap_34 (fun ce1 hc6 => ?_)
    obtain ⟨F1, G1, rfl, hF1, hG1⟩ := hc6
    have hp1 := pathR_add hp0 (rcOk_mk (x := 0) (y := 0) (z := 2) (by decide) (by decide) (by decide)) hF1 hG1
    refine g_aload_n ok d_Pm_leap_37 rfl 0 rfl ?_
    refine g_iload_n ok d_Pm_leap_38 rfl 1 rfl ?_
    refine g_iload_n ok d_Pm_leap_39 rfl 2 rfl ?_
    refine g_iconst ok d_Pm_leap_40 ?_
    have a2 := add_fr hF1 235 2 (by decide)
    have a3 := add_fr hF1 235 3 (by decide)
    have a4 := add_fr hF1 235 4 (by decide)
    refine g_callVV (As := [.int (iI u), .int (iI v), .int (iI 1)]) (st := []) ok _ (c_Pm_move F1 G1 _ _ _ (L ++ [(0, 0, 2)]) (by rw [a2, a3, a4]; exact ⟨a2, a3, a4, hp1, hX, ht⟩) hU (by decide) s0 a0 D t ad) k_487 k_8 k_484 cl_Pm (m_Pm (ad := ad) (t := t) (F := F1) (G := G1) rfl).1 (m_Pm rfl).2 k_486 s_Pm_move q_Pm_move (by decide) (Nat.le_of_ble_eq_true rfl) (by decide) d_Pm_leap_41 (fun ce1 hc7 => ?_)
    obtain ⟨F2, G2, rfl, hR2, hf2, hg2⟩ := hc7
    rw [a2, a3, a4] at hR2
    exact g_vret ok d_Pm_leap_44 ⟨_, _, rfl, by unfold lpS; rw [if_pos (show 300 < far (F 235 2) (F 235 3) u v by omega)]; exact hR2, pFr_tr (fun a b _ q => add_fr hF1 a b q) hf2, qFr_tr (fun a q => add_gr hG1 a q) hg2⟩
theorem chS_y {c x y z : Int} {L : List Rc} (h : ¬ z = -1) (h2 : ¬ z = c) : chS c (x, y, z, L) = (x, y, c, L ++ [(0, 0, 3)]) := by
  unfold chS
  simp only
  rw [if_pos ⟨h, h2⟩]
theorem chS_n {c x y z : Int} {L : List Rc} (h : z = -1 ∨ z = c) : chS c (x, y, z, L) = (x, y, c, L) := by
  unfold chS
  simp only
  rw [if_neg (by omega)]
theorem d_Pm_changeThread_0 : decode b_Pm_changeThread 0 = .ok (.aload_n 0, 1) := by decide +kernel
theorem d_Pm_changeThread_1 : decode b_Pm_changeThread 1 = .ok (.getfield 28, 3) := by decide +kernel
theorem d_Pm_changeThread_4 : decode b_Pm_changeThread 4 = .ok (.iconst (-1), 1) := by decide +kernel
theorem d_Pm_changeThread_5 : decode b_Pm_changeThread 5 = .ok (.if_icmp .eq 27, 3) := by decide +kernel
theorem d_Pm_changeThread_8 : decode b_Pm_changeThread 8 = .ok (.aload_n 0, 1) := by decide +kernel
theorem d_Pm_changeThread_9 : decode b_Pm_changeThread 9 = .ok (.getfield 28, 3) := by decide +kernel
theorem d_Pm_changeThread_12 : decode b_Pm_changeThread 12 = .ok (.aload_n 0, 1) := by decide +kernel
theorem d_Pm_changeThread_13 : decode b_Pm_changeThread 13 = .ok (.getfield 31, 3) := by decide +kernel
theorem d_Pm_changeThread_16 : decode b_Pm_changeThread 16 = .ok (.getfield 60, 3) := by decide +kernel
theorem d_Pm_changeThread_19 : decode b_Pm_changeThread 19 = .ok (.if_icmp .eq 13, 3) := by decide +kernel
theorem d_Pm_changeThread_22 : decode b_Pm_changeThread 22 = .ok (.aload_n 0, 1) := by decide +kernel
theorem d_Pm_changeThread_23 : decode b_Pm_changeThread 23 = .ok (.getfield 12, 3) := by decide +kernel
theorem d_Pm_changeThread_26 : decode b_Pm_changeThread 26 = .ok (.iconst 0, 1) := by decide +kernel
theorem d_Pm_changeThread_27 : decode b_Pm_changeThread 27 = .ok (.iconst 0, 1) := by decide +kernel
theorem d_Pm_changeThread_28 : decode b_Pm_changeThread 28 = .ok (.iconst 3, 1) := by decide +kernel
theorem d_Pm_changeThread_29 : decode b_Pm_changeThread 29 = .ok (.invokevirtual 65, 3) := by decide +kernel
theorem d_Pm_changeThread_32 : decode b_Pm_changeThread 32 = .ok (.aload_n 0, 1) := by decide +kernel
theorem d_Pm_changeThread_33 : decode b_Pm_changeThread 33 = .ok (.aload_n 0, 1) := by decide +kernel
theorem d_Pm_changeThread_34 : decode b_Pm_changeThread 34 = .ok (.getfield 31, 3) := by decide +kernel
theorem d_Pm_changeThread_37 : decode b_Pm_changeThread 37 = .ok (.getfield 60, 3) := by decide +kernel
theorem d_Pm_changeThread_40 : decode b_Pm_changeThread 40 = .ok (.putfield 28, 3) := by decide +kernel
theorem d_Pm_changeThread_43 : decode b_Pm_changeThread 43 = .ok (.return_, 1) := by decide +kernel
set_option maxHeartbeats 1000000 in
set_option maxRecDepth 100000 in
theorem c_Pm_changeThread (F : Nat → Nat → Int) (G : Nat → Int → Int) (k : Nat) (hsh : 0 ≤ F 235 1) (hk : k = 2 + 22 * (F 235 1).toNat) (hO : shOk F G k) (L : List Rc) (hR : pmR F G (F 235 2, F 235 3, F 235 4, L)) : cV y_Pm_changeThread b_Pm_changeThread 1 none 1 23 F G (fun ad => [.ref (ad 235)]) (fun F' G' => pmR F' G' (chS (F k 3) (F 235 2, F 235 3, F 235 4, L)) ∧ pFr F F' ∧ qFr G G') := by
  obtain ⟨-, -, -, hp0, hX, ht⟩ := id hR
  simp only at hp0 hX ht
  have hK := hO.1
  have hkk := hK
  unfold isSh at hkk
  have hco := hO.2.2.2.1.1
  intro s0 a0 D t ad
  refine g_startV (by decide +kernel) (Nat.le_of_ble_eq_true rfl) (fun p l e R s m args below meth c A ok => ?_)
  show gW p l e R s m args below meth c _ D A 1 (gZ0 s) 0 0 ad 265 (mem ad t F G) 0 [(0, .ref (ad 235))] []
  refine g_aload_n ok d_Pm_changeThread_0 rfl 0 rfl ?_
  refine gI_Pm_threaded ok _ rfl k_274 d_Pm_changeThread_1 ?_
  refine g_iconst ok d_Pm_changeThread_4 ?_
  refine g_icmp_eq ok 32 d_Pm_changeThread_5 (by decide) (by omega) (by omega) (fun h1 => ?_) (fun h1 => ?_)
  · refine g_aload_n ok d_Pm_changeThread_32 rfl 0 rfl ?_
    refine g_aload_n ok d_Pm_changeThread_33 rfl 0 rfl ?_
    refine gI_Pm_shape ok _ rfl k_271 d_Pm_changeThread_34 ?_
    refine g_tv (y := .ref (ad k)) (by show pmS ad (F 235 1) = _; rw [pm_ref hsh hk]) ?_
    refine gN_Sh_colour ok _ hK k_96 d_Pm_changeThread_37 ?_
    refine pI_Pm_threaded ok _ rfl k_274 d_Pm_changeThread_40 ?_
    exact g_vret ok d_Pm_changeThread_43 ⟨_, _, rfl, by rw [chS_n (by omega)]; exact ⟨by rw [fU_ja (by decide)], by rw [fU_ja (by decide)], fU_hit, pathR_cong hp0 (fun b => fU_ka (by decide)) rfl, hX, show -1 ≤ F k 3 ∧ F k 3 ≤ 7 by omega⟩, fun a b q1 q2 => by unfold fU; rw [if_neg (by omega)], fun _ _ => rfl⟩
  · refine g_aload_n ok d_Pm_changeThread_8 rfl 0 rfl ?_
    refine gI_Pm_threaded ok _ rfl k_274 d_Pm_changeThread_9 ?_
    refine g_aload_n ok d_Pm_changeThread_12 rfl 0 rfl ?_
    refine gI_Pm_shape ok _ rfl k_271 d_Pm_changeThread_13 ?_
    refine g_tv (y := .ref (ad k)) (by show pmS ad (F 235 1) = _; rw [pm_ref hsh hk]) ?_
    refine gN_Sh_colour ok _ hK k_96 d_Pm_changeThread_16 ?_
    refine g_icmp_eq ok 32 d_Pm_changeThread_19 (by decide) (by omega) (by omega) (fun h2 => ?_) (fun h2 => ?_)
    · refine g_aload_n ok d_Pm_changeThread_32 rfl 0 rfl ?_
      refine g_aload_n ok d_Pm_changeThread_33 rfl 0 rfl ?_
      refine gI_Pm_shape ok _ rfl k_271 d_Pm_changeThread_34 ?_
      refine g_tv (y := .ref (ad k)) (by show pmS ad (F 235 1) = _; rw [pm_ref hsh hk]) ?_
      refine gN_Sh_colour ok _ hK k_96 d_Pm_changeThread_37 ?_
      refine pI_Pm_threaded ok _ rfl k_274 d_Pm_changeThread_40 ?_
      exact g_vret ok d_Pm_changeThread_43 ⟨_, _, rfl, by rw [chS_n (by omega)]; exact ⟨by rw [fU_ja (by decide)], by rw [fU_ja (by decide)], fU_hit, pathR_cong hp0 (fun b => fU_ka (by decide)) rfl, hX, show -1 ≤ F k 3 ∧ F k 3 ≤ 7 by omega⟩, fun a b q1 q2 => by unfold fU; rw [if_neg (by omega)], fun _ _ => rfl⟩
    · refine g_aload_n ok d_Pm_changeThread_22 rfl 0 rfl ?_
      refine gI_Pm_path ok _ rfl k_269 d_Pm_changeThread_23 ?_
      refine g_iconst ok d_Pm_changeThread_26 ?_
      refine g_iconst ok d_Pm_changeThread_27 ?_
      refine g_iconst ok d_Pm_changeThread_28 ?_
      refine g_callVVN (As := [.int (iI 0), .int (iI 0), .int (iI 3)]) (st := []) ok _ (c_Pa_add F G _ _ _ (pathR_rng hp0).1 (by decide) (by decide) (by decide) s0 a0 D t ad) k_503 k_9 k_500 cl_Pa (m_Pa (ad := ad) (t := t) (F := F) (G := G) rfl).1 (m_Pa rfl).2 k_502 s_Pa_add q_Pa_add (by decide) (Nat.le_of_ble_eq_true rfl) (by decide) d_Pm_changeThread_29 (fun ce1 hc3 => ?_)
      obtain ⟨F1, G1, rfl, hF1, hG1⟩ := hc3
      have hp1 := pathR_add hp0 (rcOk_mk (x := 0) (y := 0) (z := 3) (by decide) (by decide) (by decide)) hF1 hG1
      refine g_aload_n ok d_Pm_changeThread_32 rfl 0 rfl ?_
      refine g_aload_n ok d_Pm_changeThread_33 rfl 0 rfl ?_
      refine gI_Pm_shape ok _ rfl k_271 d_Pm_changeThread_34 ?_
      refine g_tv (y := .ref (ad k)) (by show pmS ad (F1 235 1) = _; rw [add_fr hF1 235 1 (by omega), pm_ref hsh hk]) ?_
      refine gN_Sh_colour ok _ hK k_96 d_Pm_changeThread_37 ?_
      refine g_top (y := F k 3) (by show F1 k 3 = _; rw [add_fr hF1 k 3 (by omega)]) ?_
      refine pI_Pm_threaded ok _ rfl k_274 d_Pm_changeThread_40 ?_
      exact g_vret ok d_Pm_changeThread_43 ⟨_, _, rfl, by rw [chS_y (by omega) (by omega)]; exact ⟨by rw [fU_ja (by decide)]; exact add_fr hF1 _ _ (by decide), by rw [fU_ja (by decide)]; exact add_fr hF1 _ _ (by decide), fU_hit, pathR_cong hp1 (fun b => fU_ka (by decide)) rfl, hX, show -1 ≤ F k 3 ∧ F k 3 ≤ 7 by omega⟩, fun a b q1 q2 => by rw [show fU F1 235 4 (F k 3) a b = F1 a b from by unfold fU; rw [if_neg (by omega)]]; exact add_fr hF1 a b q2, fun a q => add_gr hG1 a q⟩
theorem d_Pm_staysInShape_0 : decode b_Pm_staysInShape 0 = .ok (.aload_n 0, 1) := by decide +kernel
theorem d_Pm_staysInShape_1 : decode b_Pm_staysInShape 1 = .ok (.iload_n 1, 1) := by decide +kernel
theorem d_Pm_staysInShape_2 : decode b_Pm_staysInShape 2 = .ok (.iload_n 2, 1) := by decide +kernel
theorem d_Pm_staysInShape_3 : decode b_Pm_staysInShape 3 = .ok (.invokevirtual 78, 3) := by decide +kernel
theorem d_Pm_staysInShape_6 : decode b_Pm_staysInShape 6 = .ok (.istore_n 3, 1) := by decide +kernel
theorem d_Pm_staysInShape_7 : decode b_Pm_staysInShape 7 = .ok (.iconst 1, 1) := by decide +kernel
theorem d_Pm_staysInShape_8 : decode b_Pm_staysInShape 8 = .ok (.istore 4, 2) := by decide +kernel
theorem d_Pm_staysInShape_10 : decode b_Pm_staysInShape 10 = .ok (.iload 4, 2) := by decide +kernel
theorem d_Pm_staysInShape_12 : decode b_Pm_staysInShape 12 = .ok (.iload_n 3, 1) := by decide +kernel
theorem d_Pm_staysInShape_13 : decode b_Pm_staysInShape 13 = .ok (.if_icmp .gt 43, 3) := by decide +kernel
theorem d_Pm_staysInShape_16 : decode b_Pm_staysInShape 16 = .ok (.aload_n 0, 1) := by decide +kernel
theorem d_Pm_staysInShape_17 : decode b_Pm_staysInShape 17 = .ok (.getfield 31, 3) := by decide +kernel
theorem d_Pm_staysInShape_20 : decode b_Pm_staysInShape 20 = .ok (.aload_n 0, 1) := by decide +kernel
theorem d_Pm_staysInShape_21 : decode b_Pm_staysInShape 21 = .ok (.getfield 21, 3) := by decide +kernel
theorem d_Pm_staysInShape_24 : decode b_Pm_staysInShape 24 = .ok (.iload_n 1, 1) := by decide +kernel
theorem d_Pm_staysInShape_25 : decode b_Pm_staysInShape 25 = .ok (.iload 4, 2) := by decide +kernel
theorem d_Pm_staysInShape_27 : decode b_Pm_staysInShape 27 = .ok (.iload_n 3, 1) := by decide +kernel
theorem d_Pm_staysInShape_28 : decode b_Pm_staysInShape 28 = .ok (.invokestatic 81, 3) := by decide +kernel
theorem d_Pm_staysInShape_31 : decode b_Pm_staysInShape 31 = .ok (.aload_n 0, 1) := by decide +kernel
theorem d_Pm_staysInShape_32 : decode b_Pm_staysInShape 32 = .ok (.getfield 25, 3) := by decide +kernel
theorem d_Pm_staysInShape_35 : decode b_Pm_staysInShape 35 = .ok (.iload_n 2, 1) := by decide +kernel
theorem d_Pm_staysInShape_36 : decode b_Pm_staysInShape 36 = .ok (.iload 4, 2) := by decide +kernel
theorem d_Pm_staysInShape_38 : decode b_Pm_staysInShape 38 = .ok (.iload_n 3, 1) := by decide +kernel
theorem d_Pm_staysInShape_39 : decode b_Pm_staysInShape 39 = .ok (.invokestatic 81, 3) := by decide +kernel
theorem d_Pm_staysInShape_42 : decode b_Pm_staysInShape 42 = .ok (.invokevirtual 85, 3) := by decide +kernel
theorem d_Pm_staysInShape_45 : decode b_Pm_staysInShape 45 = .ok (.ifCond .ne 5, 3) := by decide +kernel
theorem d_Pm_staysInShape_48 : decode b_Pm_staysInShape 48 = .ok (.iconst 0, 1) := by decide +kernel
theorem d_Pm_staysInShape_49 : decode b_Pm_staysInShape 49 = .ok (.ireturn, 1) := by decide +kernel
theorem d_Pm_staysInShape_50 : decode b_Pm_staysInShape 50 = .ok (.iinc 4 1, 3) := by decide +kernel
theorem d_Pm_staysInShape_53 : decode b_Pm_staysInShape 53 = .ok (.goto (-43), 3) := by decide +kernel
theorem d_Pm_staysInShape_56 : decode b_Pm_staysInShape 56 = .ok (.iconst 1, 1) := by decide +kernel
theorem d_Pm_staysInShape_57 : decode b_Pm_staysInShape 57 = .ok (.ireturn, 1) := by decide +kernel
set_option maxHeartbeats 1000000 in
set_option maxRecDepth 100000 in
theorem c_Pm_staysInShape (F : Nat → Nat → Int) (G : Nat → Int → Int) (k : Nat) (hsh : 0 ≤ F 235 1) (hk : k = 2 + 22 * (F 235 1).toNat) (hO : shOk F G k) (u v : Int) (hX : inR (F 235 2) (F 235 3)) (hU : inR u v) : cP y_Pm_staysInShape b_Pm_staysInShape 5 (some .boolean) 2 56 F G (fun ad => [.ref (ad 235), .int (iI u), .int (iI v)]) (fun r => (r = 0 ∨ r = 1) ∧ (r = 1 ↔ stays (hasC F G k) (F 235 2) (F 235 3) u v)) := by
  have hK := hO.1
  have hxy := hX
  have huv := hU
  unfold inR at hxy huv
  have hns := nst_rng hX hU
  intro s0 a0 D t ad
  refine g_startP (by decide +kernel) (Nat.le_of_ble_eq_true rfl) (fun p l e R s m args below meth c A ok => ?_)
  show gW p l e R s m args below meth c _ D A 5 (gZ0 s) 0 0 ad 265 (mem ad t F G) 0 [(0, .ref (ad 235)), (1, .int (iI u)), (2, .int (iI v))] []
  refine g_aload_n ok d_Pm_staysInShape_0 rfl 0 rfl ?_
  refine g_iload_n ok d_Pm_staysInShape_1 rfl 1 rfl ?_
  refine g_iload_n ok d_Pm_staysInShape_2 rfl 2 rfl ?_
  refine g_callPV (As := [.int (iI u), .int (iI v)]) (st := []) ok _ (c_Pm_stepsTo F G _ _ hX hU s0 a0 D t ad) k_491 k_8 k_488 cl_Pm (m_Pm (ad := ad) (t := t) (F := F) (G := G) rfl).1 (m_Pm rfl).2 k_490 s_Pm_stepsTo q_Pm_stepsTo (by decide) (Nat.le_of_ble_eq_true rfl) (by decide) d_Pm_staysInShape_3 (fun z1 hc1 => ?_)
  subst hc1
  refine g_istore_n (lv' := [(3, .int (iI (nst (F 235 2) (F 235 3) u v))), (0, .ref (ad 235)), (1, .int (iI u)), (2, .int (iI v))]) ok d_Pm_staysInShape_6 rfl (by decide) rfl ?_
  refine g_iconst ok d_Pm_staysInShape_7 ?_
  refine g_istore (lv' := [(4, .int (iI 1)), (3, .int (iI (nst (F 235 2) (F 235 3) u v))), (0, .ref (ad 235)), (1, .int (iI u)), (2, .int (iI v))]) ok d_Pm_staysInShape_8 (by decide) rfl ?_
  have L_q : ∀ (n_q : Nat) (q : Int), (1 ≤ q ∧ q ≤ nst (F 235 2) (F 235 3) u v + 1) → (∀ a : Int, 1 ≤ a → a < q → hasC F G k (al (F 235 2) u a (nst (F 235 2) (F 235 3) u v)) (al (F 235 3) v a (nst (F 235 2) (F 235 3) u v))) → (nst (F 235 2) (F 235 3) u v + 2 - q) < (n_q : Int) → gW p l e R s m args below meth c (MQ below (gQp (fun r => (r = 0 ∨ r = 1) ∧ (r = 1 ↔ stays (hasC F G k) (F 235 2) (F 235 3) u v))) args s 0 0 (fun _ => False)) D A 5 (gZ0 s) 0 0 ad 265 (mem ad t F G) 10 [(0, .ref (ad 235)), (1, .int (iI u)), (2, .int (iI v)), (3, .int (iI (nst (F 235 2) (F 235 3) u v))), (4, .int (iI q))] [] := by
    intro n_q
    induction n_q with
    | zero =>
      intro q hq ho hm_q
      exact absurd hm_q (by omega)
    | succ n_q ih_q =>
      intro q hq ho hm_q
      refine g_iload ok d_Pm_staysInShape_10 4 rfl ?_
      refine g_iload_n ok d_Pm_staysInShape_12 rfl 3 rfl ?_
      refine g_icmp_gt ok 56 d_Pm_staysInShape_13 (by decide) (by omega) (by omega) (fun h2 => ?_) (fun h2 => ?_)
      · refine g_iconst ok d_Pm_staysInShape_56 ?_
        exact g_zpret ok d_Pm_staysInShape_57 (Or.inr rfl) ⟨Or.inr rfl, ⟨fun _ a q1 q2 => ho a q1 (by omega), fun _ => rfl⟩⟩
      · refine g_aload_n ok d_Pm_staysInShape_16 rfl 0 rfl ?_
        refine gI_Pm_shape ok _ rfl k_271 d_Pm_staysInShape_17 ?_
        refine g_tv (y := .ref (ad k)) (by show pmS ad (F 235 1) = _; rw [pm_ref hsh hk]) ?_
        refine g_aload_n ok d_Pm_staysInShape_20 rfl 0 rfl ?_
        refine gI_Pm_x ok _ rfl k_272 d_Pm_staysInShape_21 ?_
        refine g_iload_n ok d_Pm_staysInShape_24 rfl 1 rfl ?_
        refine g_iload ok d_Pm_staysInShape_25 4 rfl ?_
        refine g_iload_n ok d_Pm_staysInShape_27 rfl 3 rfl ?_
        have hpr2 : -2147483648 ≤ q * (u - F 235 2) ∧ q * (u - F 235 2) < 2147483648 := by have h := mul_rng (a := q) (b := u - F 235 2) (by omega) (by omega); omega
        refine g_callPSN (As := [.int (iI (F 235 2)), .int (iI u), .int (iI q), .int (iI (nst (F 235 2) (F 235 3) u v))]) (st := [.ref (ad k)]) ok (c_Dk_along F G _ _ _ _ (by omega) (by omega) (by omega) (by omega) hpr2 s0 a0 D t ad) k_498 k_1 k_496 k_497 q_Dk_along (by decide) (Nat.le_of_ble_eq_true rfl) (by decide) d_Pm_staysInShape_28 (fun z3 hc3 => ?_)
        subst hc3
        refine g_top (y := al (F 235 2) u q (nst (F 235 2) (F 235 3) u v)) rfl ?_
        refine g_aload_n ok d_Pm_staysInShape_31 rfl 0 rfl ?_
        refine gI_Pm_y ok _ rfl k_273 d_Pm_staysInShape_32 ?_
        refine g_iload_n ok d_Pm_staysInShape_35 rfl 2 rfl ?_
        refine g_iload ok d_Pm_staysInShape_36 4 rfl ?_
        refine g_iload_n ok d_Pm_staysInShape_38 rfl 3 rfl ?_
        have hpr3 : -2147483648 ≤ q * (v - F 235 3) ∧ q * (v - F 235 3) < 2147483648 := by have h := mul_rng (a := q) (b := v - F 235 3) (by omega) (by omega); omega
        refine g_callPSN (As := [.int (iI (F 235 3)), .int (iI v), .int (iI q), .int (iI (nst (F 235 2) (F 235 3) u v))]) (st := [.int (iI (al (F 235 2) u q (nst (F 235 2) (F 235 3) u v))), .ref (ad k)]) ok (c_Dk_along F G _ _ _ _ (by omega) (by omega) (by omega) (by omega) hpr3 s0 a0 D t ad) k_498 k_1 k_496 k_497 q_Dk_along (by decide) (Nat.le_of_ble_eq_true rfl) (by decide) d_Pm_staysInShape_39 (fun z4 hc4 => ?_)
        subst hc4
        refine g_top (y := al (F 235 3) v q (nst (F 235 2) (F 235 3) u v)) rfl ?_
        have p1 := al_rng (a := F 235 2) (b := u) (k := q) (n := nst (F 235 2) (F 235 3) u v) (by omega) (by omega) (by omega)
        have p2 := al_rng (a := F 235 3) (b := v) (k := q) (n := nst (F 235 2) (F 235 3) u v) (by omega) (by omega) (by omega)
        refine g_callPVN (As := [.int (iI (al (F 235 2) u q (nst (F 235 2) (F 235 3) u v))), .int (iI (al (F 235 3) v q (nst (F 235 2) (F 235 3) u v)))]) (st := []) ok _ (c_Sh_has F G _ _ _ hK hO.2.1 hO.2.2.1 p1 p2 s0 a0 D t ad) k_519 k_2 k_516 cl_Sh (m_Sh (ad := ad) (t := t) (F := F) (G := G) hK).1 (m_Sh hK).2 k_518 s_Sh_has q_Sh_has (by decide) (Nat.le_of_ble_eq_true rfl) (by decide) d_Pm_staysInShape_42 (fun z5 hc5 => ?_)
        have hzb := hc5.1
        refine g_if_ne ok 50 d_Pm_staysInShape_45 (by decide) (by omega) (fun h6 => ?_) (fun h6 => ?_)
        · refine g_iinc (lv' := [(4, .int (iI (q + 1))), (0, .ref (ad 235)), (1, .int (iI u)), (2, .int (iI v)), (3, .int (iI (nst (F 235 2) (F 235 3) u v)))]) ok d_Pm_staysInShape_50 4 rfl (by decide) rfl ?_
          refine g_goto ok 10 d_Pm_staysInShape_53 (by decide) ?_
          refine g_lv [1, 2, 3, 4, 0] rfl ?_
          exact ih_q (q + 1) (by omega) (fun a q1 q2 => (Int.lt_or_eq_of_le (show a ≤ q by omega)).elim (fun z => ho a q1 z) (fun z => by subst z; exact ⟨⟨p1, p2⟩, hc5.2.mp (by omega)⟩)) (by omega)
        · refine g_iconst ok d_Pm_staysInShape_48 ?_
          exact g_zpret ok d_Pm_staysInShape_49 (Or.inl rfl) ⟨Or.inl rfl, ⟨fun z => by omega, fun z => absurd (hc5.2.mpr (z q (by omega) (by omega)).2) (by omega)⟩⟩
  refine g_lv [2, 3, 4, 1, 0] rfl ?_
  exact L_q ((nst (F 235 2) (F 235 3) u v + 2 - 1 : Int).toNat + 1) 1 (by omega) (fun a q1 q2 => by omega) (by omega)
theorem d_Pm_restart_0 : decode b_Pm_restart 0 = .ok (.aload_n 0, 1) := by decide +kernel
theorem d_Pm_restart_1 : decode b_Pm_restart 1 = .ok (.getfield 12, 3) := by decide +kernel
theorem d_Pm_restart_4 : decode b_Pm_restart 4 = .ok (.invokevirtual 18, 3) := by decide +kernel
theorem d_Pm_restart_7 : decode b_Pm_restart 7 = .ok (.aload_n 0, 1) := by decide +kernel
theorem d_Pm_restart_8 : decode b_Pm_restart 8 = .ok (.iconst 0, 1) := by decide +kernel
theorem d_Pm_restart_9 : decode b_Pm_restart 9 = .ok (.putfield 21, 3) := by decide +kernel
theorem d_Pm_restart_12 : decode b_Pm_restart 12 = .ok (.aload_n 0, 1) := by decide +kernel
theorem d_Pm_restart_13 : decode b_Pm_restart 13 = .ok (.iconst 0, 1) := by decide +kernel
theorem d_Pm_restart_14 : decode b_Pm_restart 14 = .ok (.putfield 25, 3) := by decide +kernel
theorem d_Pm_restart_17 : decode b_Pm_restart 17 = .ok (.aload_n 0, 1) := by decide +kernel
theorem d_Pm_restart_18 : decode b_Pm_restart 18 = .ok (.iconst (-1), 1) := by decide +kernel
theorem d_Pm_restart_19 : decode b_Pm_restart 19 = .ok (.putfield 28, 3) := by decide +kernel
theorem d_Pm_restart_22 : decode b_Pm_restart 22 = .ok (.return_, 1) := by decide +kernel
set_option maxHeartbeats 1000000 in
set_option maxRecDepth 100000 in
theorem c_Pm_restart (F : Nat → Nat → Int) (G : Nat → Int → Int) : cV y_Pm_restart b_Pm_restart 1 none 1 20 F G (fun ad => [.ref (ad 235)]) (fun F' G' => F' = fU (fU (fU (fU (fU F 236 1 0) 236 2 0) 235 2 0) 235 3 0) 235 4 (-1) ∧ G' = G) := by
  intro s0 a0 D t ad
  refine g_startV (by decide +kernel) (Nat.le_of_ble_eq_true rfl) (fun p l e R s m args below meth c A ok => ?_)
  show gW p l e R s m args below meth c _ D A 1 (gZ0 s) 0 0 ad 265 (mem ad t F G) 0 [(0, .ref (ad 235))] []
  refine g_aload_n ok d_Pm_restart_0 rfl 0 rfl ?_
  refine gI_Pm_path ok _ rfl k_269 d_Pm_restart_1 ?_
  refine g_callVVN (As := []) (st := []) ok _ (c_Pa_clear F G  s0 a0 D t ad) k_370 k_9 k_367 cl_Pa (m_Pa (ad := ad) (t := t) (F := F) (G := G) rfl).1 (m_Pa rfl).2 k_369 s_Pa_clear q_Pa_clear (by decide) (Nat.le_of_ble_eq_true rfl) (by decide) d_Pm_restart_4 (fun ce1 hc1 => ?_)
  obtain ⟨Fq, Gq, rfl, hFq, hGq⟩ := hc1
  rw [hFq, hGq]
  clear hFq hGq
  refine g_aload_n ok d_Pm_restart_7 rfl 0 rfl ?_
  refine g_iconst ok d_Pm_restart_8 ?_
  refine pI_Pm_x ok _ rfl k_272 d_Pm_restart_9 ?_
  refine g_aload_n ok d_Pm_restart_12 rfl 0 rfl ?_
  refine g_iconst ok d_Pm_restart_13 ?_
  refine pI_Pm_y ok _ rfl k_273 d_Pm_restart_14 ?_
  refine g_aload_n ok d_Pm_restart_17 rfl 0 rfl ?_
  refine g_iconst ok d_Pm_restart_18 ?_
  refine pI_Pm_threaded ok _ rfl k_274 d_Pm_restart_19 ?_
  exact g_vret ok d_Pm_restart_22 ⟨_, _, rfl, rfl, rfl⟩
theorem d_Pm_beginRun_0 : decode b_Pm_beginRun 0 = .ok (.aload_n 0, 1) := by decide +kernel
theorem d_Pm_beginRun_1 : decode b_Pm_beginRun 1 = .ok (.iconst 1, 1) := by decide +kernel
theorem d_Pm_beginRun_2 : decode b_Pm_beginRun 2 = .ok (.putfield 39, 3) := by decide +kernel
theorem d_Pm_beginRun_5 : decode b_Pm_beginRun 5 = .ok (.return_, 1) := by decide +kernel
set_option maxHeartbeats 1000000 in
set_option maxRecDepth 100000 in
theorem c_Pm_beginRun (F : Nat → Nat → Int) (G : Nat → Int → Int) : cV y_Pm_beginRun b_Pm_beginRun 1 none 0 0 F G (fun ad => [.ref (ad 235)]) (fun F' G' => F' = fU F 235 6 1 ∧ G' = G) := by
  intro s0 a0 D t ad
  refine g_startV (by decide +kernel) (Nat.le_of_ble_eq_true rfl) (fun p l e R s m args below meth c A ok => ?_)
  show gW p l e R s m args below meth c _ D A 1 (gZ0 s) 0 0 ad 265 (mem ad t F G) 0 [(0, .ref (ad 235))] []
  refine g_aload_n ok d_Pm_beginRun_0 rfl 0 rfl ?_
  refine g_iconst ok d_Pm_beginRun_1 ?_
  refine pI_Pm_atRunStart ok _ rfl k_276 (by first | exact Or.inl rfl | exact Or.inr rfl | omega) d_Pm_beginRun_2 ?_
  exact g_vret ok d_Pm_beginRun_5 ⟨_, _, rfl, rfl, rfl⟩
def b2 (b : Bool) : Int := if b = true then 1 else 0
theorem b2_f {b : Bool} (h : b2 b = 0) : b = false := by
  cases b
  · rfl
  · exact absurd h (by decide)
theorem b2_t {b : Bool} (h : ¬ b2 b = 0) : b = true := by
  cases b
  · exact absurd rfl h
  · rfl
theorem b2_rng (b : Bool) : b2 b = 0 ∨ b2 b = 1 := by
  cases b
  · exact Or.inl rfl
  · exact Or.inr rfl
/-- the maker has come to s; the shape is still to be entered or not; a run has been begun or not -/
def mkR (F : Nat → Nat → Int) (G : Nat → Int → Int) (s : PS) (ent ars : Bool) : Prop := pmR F G s ∧ (¬ 4000 < s.2.2.2.length → F 235 5 = b2 ent ∧ F 235 6 = b2 ars)
def kFr (F F1 : Nat → Nat → Int) : Prop := ∀ a b, ¬ (a = 235 ∧ 2 ≤ b) → a ≠ 236 → F1 a b = F a b
theorem kFr_tr {F F1 F2 : Nat → Nat → Int} (h : kFr F F1) (h2 : kFr F1 F2) : kFr F F2 := fun a b q1 q2 => (h2 a b q1 q2).trans (h a b q1 q2)
theorem pmR_fl {F : Nat → Nat → Int} {G : Nat → Int → Int} {s : PS} (h : pmR F G s) (a b : Int) : pmR (fU (fU F 235 6 a) 235 5 b) G s := by
  obtain ⟨h1, h2, h3, h4, h5, h6⟩ := h
  exact ⟨by rw [fU_ja (by decide), fU_ja (by decide)]; exact h1, by rw [fU_ja (by decide), fU_ja (by decide)]; exact h2, by rw [fU_ja (by decide), fU_ja (by decide)]; exact h3, pathR_cong h4 (fun b => by rw [fU_ka (by decide), fU_ka (by decide)]) rfl, h5, h6⟩
theorem mk_done {F F1 : Nat → Nat → Int} {G G1 : Nat → Int → Int} {s : PS} (h : pmR F1 G1 s) (hf : pFr F F1) (hg : qFr G G1) : mkR (fU (fU F1 235 6 0) 235 5 0) G1 s false false ∧ kFr F (fU (fU F1 235 6 0) 235 5 0) ∧ qFr G G1 ∧ (fU (fU F1 235 6 0) 235 5 0 235 6 = F 235 6 ∨ fU (fU F1 235 6 0) 235 5 0 235 6 = 0) := by
  refine ⟨⟨pmR_fl h 0 0, fun _ => ⟨by rw [fU_hit]; rfl, by rw [fU_ja (by decide), fU_hit]; rfl⟩⟩, fun a b q1 q2 => ?_, hg, Or.inr (by rw [fU_ja (by decide), fU_hit])⟩
  rw [show fU (fU F1 235 6 0) 235 5 0 a b = F1 a b from by unfold fU; rw [if_neg (by omega), if_neg (by omega)]]
  exact hf a b (by omega) q2
theorem tkS_over {has : Int → Int → Prop} {c u v : Int} {f g : Bool} {s : PS} (h : 4000 < s.2.2.2.length) : tkS has c u v f g s = s := if_pos h
theorem tkS_mv {has : Int → Int → Prop} {c u v : Int} {f g : Bool} {s : PS} (h : ¬ 4000 < s.2.2.2.length) (hf : f = false) : tkS has c u v f g s = mvS 0 u v s := by
  unfold tkS
  rw [if_neg h, if_pos hf]
theorem tkS_en {has : Int → Int → Prop} {c u v : Int} {f g : Bool} {s : PS} (h : ¬ 4000 < s.2.2.2.length) (hf : f = true) (hg : g = true) : tkS has c u v f g s = lpS u v (chS c s) := by
  unfold tkS
  rw [if_neg h, if_neg (by rw [hf]; decide), if_pos hg]
theorem tkS_st {has : Int → Int → Prop} {c u v : Int} {f g : Bool} {s : PS} (h : ¬ 4000 < s.2.2.2.length) (hf : f = true) (hg : g = false) (hs : stays has s.1 s.2.1 u v) : tkS has c u v f g s = mvS 0 u v s := by
  unfold tkS
  rw [if_neg h, if_neg (by rw [hf]; decide), if_neg (by rw [hg]; decide), pif_pos hs]
theorem tkS_lp {has : Int → Int → Prop} {c u v : Int} {f g : Bool} {s : PS} (h : ¬ 4000 < s.2.2.2.length) (hf : f = true) (hg : g = false) (hs : ¬ stays has s.1 s.2.1 u v) : tkS has c u v f g s = lpS u v s := by
  unfold tkS
  rw [if_neg h, if_neg (by rw [hf]; decide), if_neg (by rw [hg]; decide), pif_neg hs]
theorem d_Pm_take_0 : decode b_Pm_take 0 = .ok (.aload_n 0, 1) := by decide +kernel
theorem d_Pm_take_1 : decode b_Pm_take 1 = .ok (.getfield 31, 3) := by decide +kernel
theorem d_Pm_take_4 : decode b_Pm_take 4 = .ok (.ifnull 13, 3) := by decide +kernel
theorem d_Pm_take_7 : decode b_Pm_take 7 = .ok (.aload_n 0, 1) := by decide +kernel
theorem d_Pm_take_8 : decode b_Pm_take 8 = .ok (.getfield 12, 3) := by decide +kernel
theorem d_Pm_take_11 : decode b_Pm_take 11 = .ok (.getfield 42, 3) := by decide +kernel
theorem d_Pm_take_14 : decode b_Pm_take 14 = .ok (.ifCond .eq 4, 3) := by decide +kernel
theorem d_Pm_take_17 : decode b_Pm_take 17 = .ok (.return_, 1) := by decide +kernel
theorem d_Pm_take_18 : decode b_Pm_take 18 = .ok (.aload_n 0, 1) := by decide +kernel
theorem d_Pm_take_19 : decode b_Pm_take 19 = .ok (.getfield 39, 3) := by decide +kernel
theorem d_Pm_take_22 : decode b_Pm_take 22 = .ok (.ifCond .ne 13, 3) := by decide +kernel
theorem d_Pm_take_25 : decode b_Pm_take 25 = .ok (.aload_n 0, 1) := by decide +kernel
theorem d_Pm_take_26 : decode b_Pm_take 26 = .ok (.iload_n 1, 1) := by decide +kernel
theorem d_Pm_take_27 : decode b_Pm_take 27 = .ok (.iload_n 2, 1) := by decide +kernel
theorem d_Pm_take_28 : decode b_Pm_take 28 = .ok (.iconst 0, 1) := by decide +kernel
theorem d_Pm_take_29 : decode b_Pm_take 29 = .ok (.invokevirtual 45, 3) := by decide +kernel
theorem d_Pm_take_32 : decode b_Pm_take 32 = .ok (.goto 48, 3) := by decide +kernel
theorem d_Pm_take_35 : decode b_Pm_take 35 = .ok (.aload_n 0, 1) := by decide +kernel
theorem d_Pm_take_36 : decode b_Pm_take 36 = .ok (.getfield 35, 3) := by decide +kernel
theorem d_Pm_take_39 : decode b_Pm_take 39 = .ok (.ifCond .eq 16, 3) := by decide +kernel
theorem d_Pm_take_42 : decode b_Pm_take 42 = .ok (.aload_n 0, 1) := by decide +kernel
theorem d_Pm_take_43 : decode b_Pm_take 43 = .ok (.invokevirtual 49, 3) := by decide +kernel
theorem d_Pm_take_46 : decode b_Pm_take 46 = .ok (.aload_n 0, 1) := by decide +kernel
theorem d_Pm_take_47 : decode b_Pm_take 47 = .ok (.iload_n 1, 1) := by decide +kernel
theorem d_Pm_take_48 : decode b_Pm_take 48 = .ok (.iload_n 2, 1) := by decide +kernel
theorem d_Pm_take_49 : decode b_Pm_take 49 = .ok (.invokevirtual 52, 3) := by decide +kernel
theorem d_Pm_take_52 : decode b_Pm_take 52 = .ok (.goto 28, 3) := by decide +kernel
theorem d_Pm_take_55 : decode b_Pm_take 55 = .ok (.aload_n 0, 1) := by decide +kernel
theorem d_Pm_take_56 : decode b_Pm_take 56 = .ok (.iload_n 1, 1) := by decide +kernel
theorem d_Pm_take_57 : decode b_Pm_take 57 = .ok (.iload_n 2, 1) := by decide +kernel
theorem d_Pm_take_58 : decode b_Pm_take 58 = .ok (.invokevirtual 56, 3) := by decide +kernel
theorem d_Pm_take_61 : decode b_Pm_take 61 = .ok (.ifCond .eq 13, 3) := by decide +kernel
theorem d_Pm_take_64 : decode b_Pm_take 64 = .ok (.aload_n 0, 1) := by decide +kernel
theorem d_Pm_take_65 : decode b_Pm_take 65 = .ok (.iload_n 1, 1) := by decide +kernel
theorem d_Pm_take_66 : decode b_Pm_take 66 = .ok (.iload_n 2, 1) := by decide +kernel
theorem d_Pm_take_67 : decode b_Pm_take 67 = .ok (.iconst 0, 1) := by decide +kernel
theorem d_Pm_take_68 : decode b_Pm_take 68 = .ok (.invokevirtual 45, 3) := by decide +kernel
theorem d_Pm_take_71 : decode b_Pm_take 71 = .ok (.goto 9, 3) := by decide +kernel
theorem d_Pm_take_74 : decode b_Pm_take 74 = .ok (.aload_n 0, 1) := by decide +kernel
theorem d_Pm_take_75 : decode b_Pm_take 75 = .ok (.iload_n 1, 1) := by decide +kernel
theorem d_Pm_take_76 : decode b_Pm_take 76 = .ok (.iload_n 2, 1) := by decide +kernel
theorem d_Pm_take_77 : decode b_Pm_take 77 = .ok (.invokevirtual 52, 3) := by decide +kernel
theorem d_Pm_take_80 : decode b_Pm_take 80 = .ok (.aload_n 0, 1) := by decide +kernel
theorem d_Pm_take_81 : decode b_Pm_take 81 = .ok (.iconst 0, 1) := by decide +kernel
theorem d_Pm_take_82 : decode b_Pm_take 82 = .ok (.putfield 39, 3) := by decide +kernel
theorem d_Pm_take_85 : decode b_Pm_take 85 = .ok (.aload_n 0, 1) := by decide +kernel
theorem d_Pm_take_86 : decode b_Pm_take 86 = .ok (.iconst 0, 1) := by decide +kernel
theorem d_Pm_take_87 : decode b_Pm_take 87 = .ok (.putfield 35, 3) := by decide +kernel
theorem d_Pm_take_90 : decode b_Pm_take 90 = .ok (.return_, 1) := by decide +kernel
set_option maxHeartbeats 1000000 in
set_option maxRecDepth 100000 in
theorem c_Pm_take (F : Nat → Nat → Int) (G : Nat → Int → Int) (k : Nat) (hsh : 0 ≤ F 235 1) (hk : k = 2 + 22 * (F 235 1).toNat) (hO : shOk F G k) (u v : Int) (L : List Rc) (ent ars : Bool) (hM : mkR F G (F 235 2, F 235 3, F 235 4, L) ent ars) (hU : inR u v) : cV y_Pm_take b_Pm_take 3 none 4 96 F G (fun ad => [.ref (ad 235), .int (iI u), .int (iI v)]) (fun F' G' => mkR F' G' (tkS (hasC F G k) (F k 3) u v ars ent (F 235 2, F 235 3, F 235 4, L)) false false ∧ kFr F F' ∧ qFr G G' ∧ (F' 235 6 = F 235 6 ∨ F' 235 6 = 0)) := by
  obtain ⟨hR, hfl⟩ := hM
  simp only at hfl
  obtain ⟨-, -, -, hp0, hX, ht⟩ := id hR
  simp only at hp0 hX ht
  have hrg := pathR_rng hp0
  have hK := hO.1
  intro s0 a0 D t ad
  refine g_startV (by decide +kernel) (Nat.le_of_ble_eq_true rfl) (fun p l e R s m args below meth c A ok => ?_)
  show gW p l e R s m args below meth c _ D A 3 (gZ0 s) 0 0 ad 265 (mem ad t F G) 0 [(0, .ref (ad 235)), (1, .int (iI u)), (2, .int (iI v))] []
  refine g_aload_n ok d_Pm_take_0 rfl 0 rfl ?_
  refine gI_Pm_shape ok _ rfl k_271 d_Pm_take_1 ?_
  refine g_tv (y := .ref (ad k)) (by show pmS ad (F 235 1) = _; rw [pm_ref hsh hk]) ?_
  refine g_ifnull ok d_Pm_take_4 ?_
  refine g_aload_n ok d_Pm_take_7 rfl 0 rfl ?_
  refine gI_Pm_path ok _ rfl k_269 d_Pm_take_8 ?_
  refine gN_Pa_overfull ok _ rfl k_260 d_Pm_take_11 ?_
  refine g_if_eq ok 18 d_Pm_take_14 (by decide) (by omega) (fun h1 => ?_) (fun h1 => ?_)
  · have hlen : ¬ 4000 < L.length := fun q => absurd (hrg.2.2.mpr q) (by omega)
    obtain ⟨f5, f6⟩ := hfl hlen
    have b5 := b2_rng ent
    have b6 := b2_rng ars
    refine g_aload_n ok d_Pm_take_18 rfl 0 rfl ?_
    refine gI_Pm_atRunStart ok _ rfl k_276 d_Pm_take_19 ?_
    refine g_if_ne ok 35 d_Pm_take_22 (by decide) (by omega) (fun h2 => ?_) (fun h2 => ?_)
    · refine g_aload_n ok d_Pm_take_35 rfl 0 rfl ?_
      refine gI_Pm_entering ok _ rfl k_275 d_Pm_take_36 ?_
      refine g_if_eq ok 55 d_Pm_take_39 (by decide) (by omega) (fun h3 => ?_) (fun h3 => ?_)
      · refine g_aload_n ok d_Pm_take_55 rfl 0 rfl ?_
        refine g_iload_n ok d_Pm_take_56 rfl 1 rfl ?_
        refine g_iload_n ok d_Pm_take_57 rfl 2 rfl ?_
        refine g_callPV (As := [.int (iI u), .int (iI v)]) (st := []) ok _ (c_Pm_staysInShape F G _ hsh hk hO _ _ hX hU s0 a0 D t ad) k_515 k_8 k_512 cl_Pm (m_Pm (ad := ad) (t := t) (F := F) (G := G) rfl).1 (m_Pm rfl).2 k_514 s_Pm_staysInShape q_Pm_staysInShape (by decide) (Nat.le_of_ble_eq_true rfl) (by decide) d_Pm_take_58 (fun z4 hc4 => ?_)
        have hzs := hc4.1
        refine g_if_eq ok 74 d_Pm_take_61 (by decide) (by omega) (fun h5 => ?_) (fun h5 => ?_)
        · refine g_aload_n ok d_Pm_take_74 rfl 0 rfl ?_
          refine g_iload_n ok d_Pm_take_75 rfl 1 rfl ?_
          refine g_iload_n ok d_Pm_take_76 rfl 2 rfl ?_
          refine g_callVV (As := [.int (iI u), .int (iI v)]) (st := []) ok _ (c_Pm_leap F G _ _ L hR hU s0 a0 D t ad) k_511 k_8 k_508 cl_Pm (m_Pm (ad := ad) (t := t) (F := F) (G := G) rfl).1 (m_Pm rfl).2 k_510 s_Pm_leap q_Pm_leap (by decide) (Nat.le_of_ble_eq_true rfl) (by decide) d_Pm_take_77 (fun ce1 hc6 => ?_)
          obtain ⟨F2, G2, rfl, hR2, hf2, hg2⟩ := hc6
          refine g_aload_n ok d_Pm_take_80 rfl 0 rfl ?_
          refine g_iconst ok d_Pm_take_81 ?_
          refine pI_Pm_atRunStart ok _ rfl k_276 (by first | exact Or.inl rfl | exact Or.inr rfl | omega) d_Pm_take_82 ?_
          refine g_aload_n ok d_Pm_take_85 rfl 0 rfl ?_
          refine g_iconst ok d_Pm_take_86 ?_
          refine pI_Pm_entering ok _ rfl k_275 (by first | exact Or.inl rfl | exact Or.inr rfl | omega) d_Pm_take_87 ?_
          have htk : tkS (hasC F G k) (F k 3) u v ars ent (F 235 2, F 235 3, F 235 4, L) = lpS u v (F 235 2, F 235 3, F 235 4, L) := tkS_lp hlen (b2_t (by omega)) (b2_f (by omega)) (fun q => absurd (hc4.2.mpr q) (by omega))
          exact g_vret ok d_Pm_take_90 ⟨_, _, rfl, by rw [htk]; exact mk_done hR2 hf2 hg2⟩
        · refine g_aload_n ok d_Pm_take_64 rfl 0 rfl ?_
          refine g_iload_n ok d_Pm_take_65 rfl 1 rfl ?_
          refine g_iload_n ok d_Pm_take_66 rfl 2 rfl ?_
          refine g_iconst ok d_Pm_take_67 ?_
          refine g_callVV (As := [.int (iI u), .int (iI v), .int (iI 0)]) (st := []) ok _ (c_Pm_move F G _ _ _ L hR hU (by decide) s0 a0 D t ad) k_487 k_8 k_484 cl_Pm (m_Pm (ad := ad) (t := t) (F := F) (G := G) rfl).1 (m_Pm rfl).2 k_486 s_Pm_move q_Pm_move (by decide) (Nat.le_of_ble_eq_true rfl) (by decide) d_Pm_take_68 (fun ce1 hc7 => ?_)
          obtain ⟨F2, G2, rfl, hR2, hf2, hg2⟩ := hc7
          refine g_goto ok 80 d_Pm_take_71 (by decide) ?_
          refine g_aload_n ok d_Pm_take_80 rfl 0 rfl ?_
          refine g_iconst ok d_Pm_take_81 ?_
          refine pI_Pm_atRunStart ok _ rfl k_276 (by first | exact Or.inl rfl | exact Or.inr rfl | omega) d_Pm_take_82 ?_
          refine g_aload_n ok d_Pm_take_85 rfl 0 rfl ?_
          refine g_iconst ok d_Pm_take_86 ?_
          refine pI_Pm_entering ok _ rfl k_275 (by first | exact Or.inl rfl | exact Or.inr rfl | omega) d_Pm_take_87 ?_
          have htk : tkS (hasC F G k) (F k 3) u v ars ent (F 235 2, F 235 3, F 235 4, L) = mvS 0 u v (F 235 2, F 235 3, F 235 4, L) := tkS_st hlen (b2_t (by omega)) (b2_f (by omega)) (hc4.2.mp (by omega))
          exact g_vret ok d_Pm_take_90 ⟨_, _, rfl, by rw [htk]; exact mk_done hR2 hf2 hg2⟩
      · refine g_aload_n ok d_Pm_take_42 rfl 0 rfl ?_
        refine g_callVV (As := []) (st := []) ok _ (c_Pm_changeThread F G _ hsh hk hO L hR s0 a0 D t ad) k_507 k_8 k_504 cl_Pm (m_Pm (ad := ad) (t := t) (F := F) (G := G) rfl).1 (m_Pm rfl).2 k_506 s_Pm_changeThread q_Pm_changeThread (by decide) (Nat.le_of_ble_eq_true rfl) (by decide) d_Pm_take_43 (fun ce1 hc8 => ?_)
        obtain ⟨F1, G1, rfl, hR1, hf1, hg1⟩ := hc8
        refine g_aload_n ok d_Pm_take_46 rfl 0 rfl ?_
        refine g_iload_n ok d_Pm_take_47 rfl 1 rfl ?_
        refine g_iload_n ok d_Pm_take_48 rfl 2 rfl ?_
        have e1 := pmR_eq hR1
        refine g_callVV (As := [.int (iI u), .int (iI v)]) (st := []) ok _ (c_Pm_leap F1 G1 _ _ _ (e1 ▸ hR1) hU s0 a0 D t ad) k_511 k_8 k_508 cl_Pm (m_Pm (ad := ad) (t := t) (F := F1) (G := G1) rfl).1 (m_Pm rfl).2 k_510 s_Pm_leap q_Pm_leap (by decide) (Nat.le_of_ble_eq_true rfl) (by decide) d_Pm_take_49 (fun ce1 hc9 => ?_)
        obtain ⟨F2, G2, rfl, hR2, hf2, hg2⟩ := hc9
        rw [← e1] at hR2
        have hf3 := pFr_tr hf1 hf2
        have hg3 := qFr_tr hg1 hg2
        refine g_goto ok 80 d_Pm_take_52 (by decide) ?_
        refine g_aload_n ok d_Pm_take_80 rfl 0 rfl ?_
        refine g_iconst ok d_Pm_take_81 ?_
        refine pI_Pm_atRunStart ok _ rfl k_276 (by first | exact Or.inl rfl | exact Or.inr rfl | omega) d_Pm_take_82 ?_
        refine g_aload_n ok d_Pm_take_85 rfl 0 rfl ?_
        refine g_iconst ok d_Pm_take_86 ?_
        refine pI_Pm_entering ok _ rfl k_275 (by first | exact Or.inl rfl | exact Or.inr rfl | omega) d_Pm_take_87 ?_
        have htk : tkS (hasC F G k) (F k 3) u v ars ent (F 235 2, F 235 3, F 235 4, L) = lpS u v (chS (F k 3) (F 235 2, F 235 3, F 235 4, L)) := tkS_en hlen (b2_t (by omega)) (b2_t (by omega))
        exact g_vret ok d_Pm_take_90 ⟨_, _, rfl, by rw [htk]; exact mk_done hR2 hf3 hg3⟩
    · refine g_aload_n ok d_Pm_take_25 rfl 0 rfl ?_
      refine g_iload_n ok d_Pm_take_26 rfl 1 rfl ?_
      refine g_iload_n ok d_Pm_take_27 rfl 2 rfl ?_
      refine g_iconst ok d_Pm_take_28 ?_
      refine g_callVV (As := [.int (iI u), .int (iI v), .int (iI 0)]) (st := []) ok _ (c_Pm_move F G _ _ _ L hR hU (by decide) s0 a0 D t ad) k_487 k_8 k_484 cl_Pm (m_Pm (ad := ad) (t := t) (F := F) (G := G) rfl).1 (m_Pm rfl).2 k_486 s_Pm_move q_Pm_move (by decide) (Nat.le_of_ble_eq_true rfl) (by decide) d_Pm_take_29 (fun ce1 hc10 => ?_)
      obtain ⟨F2, G2, rfl, hR2, hf2, hg2⟩ := hc10
      refine g_goto ok 80 d_Pm_take_32 (by decide) ?_
      refine g_aload_n ok d_Pm_take_80 rfl 0 rfl ?_
      refine g_iconst ok d_Pm_take_81 ?_
      refine pI_Pm_atRunStart ok _ rfl k_276 (by first | exact Or.inl rfl | exact Or.inr rfl | omega) d_Pm_take_82 ?_
      refine g_aload_n ok d_Pm_take_85 rfl 0 rfl ?_
      refine g_iconst ok d_Pm_take_86 ?_
      refine pI_Pm_entering ok _ rfl k_275 (by first | exact Or.inl rfl | exact Or.inr rfl | omega) d_Pm_take_87 ?_
      have htk : tkS (hasC F G k) (F k 3) u v ars ent (F 235 2, F 235 3, F 235 4, L) = mvS 0 u v (F 235 2, F 235 3, F 235 4, L) := tkS_mv hlen (b2_f (by omega))
      exact g_vret ok d_Pm_take_90 ⟨_, _, rfl, by rw [htk]; exact mk_done hR2 hf2 hg2⟩
  · exact g_vret ok d_Pm_take_17 ⟨_, _, rfl, by rw [show tkS (hasC F G k) (F k 3) u v ars ent (F 235 2, F 235 3, F 235 4, L) = (F 235 2, F 235 3, F 235 4, L) from tkS_over (hrg.2.2.mp (by omega))]; exact ⟨hR, fun q => absurd (hrg.2.2.mp (by omega)) q⟩, fun _ _ _ _ => rfl, fun _ _ => rfl, Or.inl rfl⟩
