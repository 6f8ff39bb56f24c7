/-! what a shape's runs are: outline and satin, as events -/
def oEv (X Y : Int → Int) : Nat → List Ev
  | 0 => []
  | j + 1 => oEv X Y j ++ [(X (j : Int), Y (j : Int), decide ((j : Int) = 0))]
theorem oEv_step {X Y : Int → Int} {i : Int} (h : 0 ≤ i) : oEv X Y (i + 1).toNat = oEv X Y i.toNat ++ [(X i, Y i, decide (i = 0))] := by
  have e : (i + 1).toNat = i.toNat + 1 := by omega
  have e2 : ((i.toNat : Nat) : Int) = i := by omega
  rw [e]
  show oEv X Y i.toNat ++ [(X ((i.toNat : Nat) : Int), Y ((i.toNat : Nat) : Int), decide (((i.toNat : Nat) : Int) = 0))] = _
  rw [e2]
def oRing (X Y : Int → Int) (n : Int) : List Ev := if 0 < n then oEv X Y n.toNat ++ [(X 0, Y 0, false)] else []
def oAll (X Y : Nat → Int → Int) (N : Nat → Int) : Nat → List Ev
  | 0 => []
  | r + 1 => oAll X Y N r ++ oRing (X r) (Y r) (N r)
theorem oAll_step {X Y : Nat → Int → Int} {N : Nat → Int} {r : Int} (h : 0 ≤ r) : oAll X Y N (r + 1).toNat = oAll X Y N r.toNat ++ oRing (X r.toNat) (Y r.toNat) (N r.toNat) := by
  rw [show (r + 1).toNat = r.toNat + 1 by omega]
  rfl
theorem oRing_0 {X Y : Int → Int} {n : Int} (h : ¬ 0 < n) : oRing X Y n = [] := if_neg h
theorem oRing_n {X Y : Int → Int} {n : Int} (h : 0 < n) : oRing X Y n = oEv X Y n.toNat ++ [(X 0, Y 0, false)] := if_pos h
def rgX (G : Nat → Int → Int) (k r : Nat) : Int → Int := G (k + 3 + 3 * r + 1)
def rgY (G : Nat → Int → Int) (k r : Nat) : Int → Int := G (k + 3 + 3 * r + 2)
def rgN (F : Nat → Nat → Int) (k r : Nat) : Int := F (k + 3 + 3 * r) 2
def outE (F : Nat → Nat → Int) (G : Nat → Int → Int) (k : Nat) (r : Nat) : List Ev := oAll (rgX G k) (rgY G k) (rgN F k) r
theorem sh_in {F : Nat → Nat → Int} {G : Nat → Int → Int} {k r : Nat} {i : Int} (h : shOk F G k) (hr : r < 4) (h0 : 0 ≤ i) (h1 : i < F (k + 3 + 3 * r) 2) : inR (G (k + 3 + 3 * r + 1) i) (G (k + 3 + 3 * r + 2) i) := (h.2.1 r hr).2 i h0 h1
theorem d_Rt_tellOutline_0 : decode b_Rt_tellOutline 0 = .ok (.iconst 0, 1) := by decide +kernel
theorem d_Rt_tellOutline_1 : decode b_Rt_tellOutline 1 = .ok (.istore_n 3, 1) := by decide +kernel
theorem d_Rt_tellOutline_2 : decode b_Rt_tellOutline 2 = .ok (.iload_n 3, 1) := by decide +kernel
theorem d_Rt_tellOutline_3 : decode b_Rt_tellOutline 3 = .ok (.iconst 4, 1) := by decide +kernel
theorem d_Rt_tellOutline_4 : decode b_Rt_tellOutline 4 = .ok (.if_icmp .ge 95, 3) := by decide +kernel
theorem d_Rt_tellOutline_7 : decode b_Rt_tellOutline 7 = .ok (.aload_n 1, 1) := by decide +kernel
theorem d_Rt_tellOutline_8 : decode b_Rt_tellOutline 8 = .ok (.getfield 34, 3) := by decide +kernel
theorem d_Rt_tellOutline_11 : decode b_Rt_tellOutline 11 = .ok (.iload_n 3, 1) := by decide +kernel
theorem d_Rt_tellOutline_12 : decode b_Rt_tellOutline 12 = .ok (.aaload, 1) := by decide +kernel
theorem d_Rt_tellOutline_13 : decode b_Rt_tellOutline 13 = .ok (.astore 4, 2) := by decide +kernel
theorem d_Rt_tellOutline_15 : decode b_Rt_tellOutline 15 = .ok (.aload 4, 2) := by decide +kernel
theorem d_Rt_tellOutline_17 : decode b_Rt_tellOutline 17 = .ok (.getfield 38, 3) := by decide +kernel
theorem d_Rt_tellOutline_20 : decode b_Rt_tellOutline 20 = .ok (.ifCond .ne 6, 3) := by decide +kernel
theorem d_Rt_tellOutline_23 : decode b_Rt_tellOutline 23 = .ok (.goto 70, 3) := by decide +kernel
theorem d_Rt_tellOutline_26 : decode b_Rt_tellOutline 26 = .ok (.aload_n 2, 1) := by decide +kernel
theorem d_Rt_tellOutline_27 : decode b_Rt_tellOutline 27 = .ok (.invokeinterface 43 1, 5) := by decide +kernel
theorem d_Rt_tellOutline_32 : decode b_Rt_tellOutline 32 = .ok (.iconst 0, 1) := by decide +kernel
theorem d_Rt_tellOutline_33 : decode b_Rt_tellOutline 33 = .ok (.istore 5, 2) := by decide +kernel
theorem d_Rt_tellOutline_35 : decode b_Rt_tellOutline 35 = .ok (.iload 5, 2) := by decide +kernel
theorem d_Rt_tellOutline_37 : decode b_Rt_tellOutline 37 = .ok (.aload 4, 2) := by decide +kernel
theorem d_Rt_tellOutline_39 : decode b_Rt_tellOutline 39 = .ok (.getfield 38, 3) := by decide +kernel
theorem d_Rt_tellOutline_42 : decode b_Rt_tellOutline 42 = .ok (.if_icmp .ge 31, 3) := by decide +kernel
theorem d_Rt_tellOutline_45 : decode b_Rt_tellOutline 45 = .ok (.aload_n 2, 1) := by decide +kernel
theorem d_Rt_tellOutline_46 : decode b_Rt_tellOutline 46 = .ok (.aload 4, 2) := by decide +kernel
theorem d_Rt_tellOutline_48 : decode b_Rt_tellOutline 48 = .ok (.getfield 48, 3) := by decide +kernel
theorem d_Rt_tellOutline_51 : decode b_Rt_tellOutline 51 = .ok (.iload 5, 2) := by decide +kernel
theorem d_Rt_tellOutline_53 : decode b_Rt_tellOutline 53 = .ok (.iaload, 1) := by decide +kernel
theorem d_Rt_tellOutline_54 : decode b_Rt_tellOutline 54 = .ok (.aload 4, 2) := by decide +kernel
theorem d_Rt_tellOutline_56 : decode b_Rt_tellOutline 56 = .ok (.getfield 52, 3) := by decide +kernel
theorem d_Rt_tellOutline_59 : decode b_Rt_tellOutline 59 = .ok (.iload 5, 2) := by decide +kernel
theorem d_Rt_tellOutline_61 : decode b_Rt_tellOutline 61 = .ok (.iaload, 1) := by decide +kernel
theorem d_Rt_tellOutline_62 : decode b_Rt_tellOutline 62 = .ok (.invokeinterface 55 3, 5) := by decide +kernel
theorem d_Rt_tellOutline_67 : decode b_Rt_tellOutline 67 = .ok (.iinc 5 1, 3) := by decide +kernel
theorem d_Rt_tellOutline_70 : decode b_Rt_tellOutline 70 = .ok (.goto (-35), 3) := by decide +kernel
theorem d_Rt_tellOutline_73 : decode b_Rt_tellOutline 73 = .ok (.aload_n 2, 1) := by decide +kernel
theorem d_Rt_tellOutline_74 : decode b_Rt_tellOutline 74 = .ok (.aload 4, 2) := by decide +kernel
theorem d_Rt_tellOutline_76 : decode b_Rt_tellOutline 76 = .ok (.getfield 48, 3) := by decide +kernel
theorem d_Rt_tellOutline_79 : decode b_Rt_tellOutline 79 = .ok (.iconst 0, 1) := by decide +kernel
theorem d_Rt_tellOutline_80 : decode b_Rt_tellOutline 80 = .ok (.iaload, 1) := by decide +kernel
theorem d_Rt_tellOutline_81 : decode b_Rt_tellOutline 81 = .ok (.aload 4, 2) := by decide +kernel
theorem d_Rt_tellOutline_83 : decode b_Rt_tellOutline 83 = .ok (.getfield 52, 3) := by decide +kernel
theorem d_Rt_tellOutline_86 : decode b_Rt_tellOutline 86 = .ok (.iconst 0, 1) := by decide +kernel
theorem d_Rt_tellOutline_87 : decode b_Rt_tellOutline 87 = .ok (.iaload, 1) := by decide +kernel
theorem d_Rt_tellOutline_88 : decode b_Rt_tellOutline 88 = .ok (.invokeinterface 55 3, 5) := by decide +kernel
theorem d_Rt_tellOutline_93 : decode b_Rt_tellOutline 93 = .ok (.iinc 3 1, 3) := by decide +kernel
theorem d_Rt_tellOutline_96 : decode b_Rt_tellOutline 96 = .ok (.goto (-94), 3) := by decide +kernel
theorem d_Rt_tellOutline_99 : decode b_Rt_tellOutline 99 = .ok (.return_, 1) := by decide +kernel
set_option maxHeartbeats 1000000 in
set_option maxRecDepth 100000 in
theorem c_Rt_tellOutline (F : Nat → Nat → Int) (G : Nat → Int → Int) (q k : Nat) (S : PS) (p0 : Bool) (hA : tkAt q k F G) (h0 : tkR q k F G S F G [] p0) (hp0 : q ≠ 235 → p0 = false) : cV y_Rt_tellOutline b_Rt_tellOutline 6 none 5 118 F G (fun ad => [.ref (ad 230), .ref (ad k), .ref (ad q)]) (fun F' G' => ∃ p1 : Bool, (q ≠ 235 → p1 = false) ∧ tkR q k F G S F' G' (outE F G k 4) p1) := by
  have hK := hA.1.1
  have hkk := hK
  unfold isSh at hkk
  have hRs := hA.1.2.1
  intro s0 a0 D t ad
  refine g_startV (by decide +kernel) (Nat.le_of_ble_eq_true rfl) (fun p l e R s m args below meth c A ok => ?_)
  show gW p l e R s m args below meth c _ D A 6 (gZ0 s) 0 0 ad 265 (mem ad t F G) 0 [(0, .ref (ad 230)), (1, .ref (ad k)), (2, .ref (ad q))] []
  refine g_iconst ok d_Rt_tellOutline_0 ?_
  refine g_istore_n (lv' := [(3, .int (iI 0)), (0, .ref (ad 230)), (1, .ref (ad k)), (2, .ref (ad q))]) ok d_Rt_tellOutline_1 rfl (by decide) rfl ?_
  have L_r : ∀ (n_r : Nat) (r : Int) (F1 : Nat → Nat → Int) (G1 : Nat → Int → Int) (pd1 : Bool), (0 ≤ r ∧ r ≤ 4) → (q ≠ 235 → pd1 = false) → (tkR q k F G S F1 G1 (outE F G k r.toNat) pd1) → (5 - r) < (n_r : Int) → gW p l e R s m args below meth c (MQ below (gQv D A ad 265 (fun ce' => ∃ F' G', ce' = mem ad t F' G' ∧ (fun F' G' => ∃ p1 : Bool, (q ≠ 235 → p1 = false) ∧ tkR q k F G S F' G' (outE F G k 4) p1) F' G')) args s 0 0 A) D A 6 (gZ) 0 0 ad 265 (mem ad t F1 G1) 2 [(0, .ref (ad 230)), (1, .ref (ad k)), (2, .ref (ad q)), (3, .int (iI r))] [] := by
    intro n_r
    induction n_r with
    | zero =>
      intro r F1 G1 pd1 hr hp1 hR1 hm_r
      exact absurd hm_r (by omega)
    | succ n_r ih_r =>
      intro r F1 G1 pd1 hr hp1 hR1 hm_r
      refine g_iload_n ok d_Rt_tellOutline_2 rfl 3 rfl ?_
      refine g_iconst ok d_Rt_tellOutline_3 ?_
      refine g_icmp_ge ok 99 d_Rt_tellOutline_4 (by decide) (by omega) (by omega) (fun h1 => ?_) (fun h1 => ?_)
      · exact g_vret ok d_Rt_tellOutline_99 ⟨_, _, rfl, pd1, hp1, by rw [show r.toNat = 4 by omega] at hR1; exact hR1⟩
      · obtain ⟨hsz, hX⟩ := hA.1.2.1 r.toNat (by omega)
        have hr32 := rRoom_le ((k + 3 + 3 * r.toNat - 2) % 22)
        have a1 : isA (k + 3 + 3 * r.toNat + 1) (rRoom ((k + 3 + 3 * r.toNat - 2) % 22)) := a_rg (rg_of hK (by omega)) (Or.inl rfl) rfl
        have a2 : isA (k + 3 + 3 * r.toNat + 2) (rRoom ((k + 3 + 3 * r.toNat - 2) % 22)) := a_rg (rg_of hK (by omega)) (Or.inr rfl) rfl
        refine g_aload_n ok d_Rt_tellOutline_7 rfl 1 rfl ?_
        refine gN_Sh_rings ok _ hK k_84 d_Rt_tellOutline_8 ?_
        refine g_iload_n ok d_Rt_tellOutline_11 rfl 3 rfl ?_
        refine h_rings ok _ hK (by omega) d_Rt_tellOutline_12 ?_
        refine g_astore (lv' := [(4, .ref (ad (k + 3 + 3 * (r : Int).toNat))), (0, .ref (ad 230)), (1, .ref (ad k)), (2, .ref (ad q)), (3, .int (iI r))]) ok d_Rt_tellOutline_13 (by decide) rfl ?_
        refine g_aload ok d_Rt_tellOutline_15 0 rfl ?_
        refine gN_Rg_size ok _ (rg_of hK (by omega)) k_56 d_Rt_tellOutline_17 ?_
        refine g_top (y := F (k + 3 + 3 * (r : Int).toNat) 2) (by show F1 (k + 3 + 3 * (r : Int).toNat) 2 = _; rw [tkAt_F hA hR1.2.2.1 (k + 3 + 3 * (r : Int).toNat) 2 (by omega) (by omega)]) ?_
        refine g_if_ne ok 26 d_Rt_tellOutline_20 (by decide) (by omega) (fun h2 => ?_) (fun h2 => ?_)
        · refine g_aload_n ok d_Rt_tellOutline_26 rfl 3 rfl ?_
          refine g_tkB (st := []) ok hA hR1 (hp1) (by decide) (Nat.le_of_ble_eq_true rfl) d_Rt_tellOutline_27 (fun F101 G101 hR101 hL101 => ?_)
          refine g_iconst ok d_Rt_tellOutline_32 ?_
          refine g_istore (lv' := [(5, .int (iI 0)), (4, .ref (ad (k + 3 + 3 * (r : Int).toNat))), (0, .ref (ad 230)), (1, .ref (ad k)), (2, .ref (ad q)), (3, .int (iI r))]) ok d_Rt_tellOutline_33 (by decide) rfl ?_
          have L_i : ∀ (n_i : Nat) (i : Int) (F2 : Nat → Nat → Int) (G2 : Nat → Int → Int), (0 ≤ i ∧ i ≤ F (k + 3 + 3 * r.toNat) 2) → (tkR q k F G S F2 G2 (outE F G k r.toNat ++ oEv (rgX G k r.toNat) (rgY G k r.toNat) i.toNat) (decide (i = 0))) → (F (k + 3 + 3 * r.toNat) 2 + 1 - i) < (n_i : Int) → gW p l e R s m args below meth c (MQ below (gQv D A ad 265 (fun ce' => ∃ F' G', ce' = mem ad t F' G' ∧ (fun F' G' => ∃ p1 : Bool, (q ≠ 235 → p1 = false) ∧ tkR q k F G S F' G' (outE F G k 4) p1) F' G')) args s 0 0 A) D A 6 (gZ) 0 0 ad 265 (mem ad t F2 G2) 35 [(0, .ref (ad 230)), (1, .ref (ad k)), (2, .ref (ad q)), (3, .int (iI r)), (4, .ref (ad (k + 3 + 3 * (r : Int).toNat))), (5, .int (iI i))] [] := by
            intro n_i
            induction n_i with
            | zero =>
              intro i F2 G2 hi hR2 hm_i
              exact absurd hm_i (by omega)
            | succ n_i ih_i =>
              intro i F2 G2 hi hR2 hm_i
              refine g_iload ok d_Rt_tellOutline_35 5 rfl ?_
              refine g_aload ok d_Rt_tellOutline_37 4 rfl ?_
              refine gN_Rg_size ok _ (rg_of hK (by omega)) k_56 d_Rt_tellOutline_39 ?_
              refine g_top (y := F (k + 3 + 3 * (r : Int).toNat) 2) (by show F2 (k + 3 + 3 * (r : Int).toNat) 2 = _; rw [tkAt_F hA hR2.2.2.1 (k + 3 + 3 * (r : Int).toNat) 2 (by omega) (by omega)]) ?_
              refine g_icmp_ge ok 73 d_Rt_tellOutline_42 (by decide) (by omega) (by omega) (fun h3 => ?_) (fun h3 => ?_)
              · have hcl : decide (i = 0) = false := decide_eq_false (by omega)
                rw [hcl] at hR2
                refine g_aload_n ok d_Rt_tellOutline_73 rfl 2 rfl ?_
                refine g_aload ok d_Rt_tellOutline_74 4 rfl ?_
                refine gN_Rg_xs ok _ (rg_of hK (by omega)) k_45 d_Rt_tellOutline_76 ?_
                refine g_iconst ok d_Rt_tellOutline_79 ?_
                refine h_iald ok _ a1 (by omega) d_Rt_tellOutline_80 ?_
                refine g_top (y := G ((k + 3 + 3 * (r : Int).toNat) + 1) 0) (by show G2 ((k + 3 + 3 * (r : Int).toNat) + 1) 0 = _; rw [tkAt_G hA hR2.2.2.2 ((k + 3 + 3 * (r : Int).toNat) + 1) (by omega) (by omega)]) ?_
                refine g_aload ok d_Rt_tellOutline_81 4 rfl ?_
                refine gN_Rg_ys ok _ (rg_of hK (by omega)) k_50 d_Rt_tellOutline_83 ?_
                refine g_iconst ok d_Rt_tellOutline_86 ?_
                refine h_iald ok _ a2 (by omega) d_Rt_tellOutline_87 ?_
                refine g_top (y := G ((k + 3 + 3 * (r : Int).toNat) + 2) 0) (by show G2 ((k + 3 + 3 * (r : Int).toNat) + 2) 0 = _; rw [tkAt_G hA hR2.2.2.2 ((k + 3 + 3 * (r : Int).toNat) + 2) (by omega) (by omega)]) ?_
                refine g_tkT (x := G ((k + 3 + 3 * (r : Int).toNat) + 1) 0) (y := G ((k + 3 + 3 * (r : Int).toNat) + 2) 0) (st := []) ok hA hR2 (sh_in (r := r.toNat) hA.1 (by omega) (by omega) (by omega)) (by decide) (Nat.le_of_ble_eq_true rfl) d_Rt_tellOutline_88 (fun F102 G102 hR102 hL102 => ?_)
                refine g_iinc (lv' := [(3, .int (iI (r + 1))), (0, .ref (ad 230)), (1, .ref (ad k)), (2, .ref (ad q)), (4, .ref (ad (k + 3 + 3 * (r : Int).toNat))), (5, .int (iI i))]) ok d_Rt_tellOutline_93 3 rfl (by decide) rfl ?_
                refine g_goto ok 2 d_Rt_tellOutline_96 (by decide) ?_
                refine g_lv [1, 2, 3, 0] rfl ?_
                exact ih_r (r + 1) F102 G102 false (by omega) (fun _ => rfl) (by unfold outE; rw [oAll_step hr.1, oRing_n (show 0 < rgN F k r.toNat by show 0 < F (k + 3 + 3 * r.toNat) 2; omega), ← List.append_assoc]; rw [show i = F (k + 3 + 3 * r.toNat) 2 by omega] at hR102; exact hR102) (by omega)
              · refine g_aload_n ok d_Rt_tellOutline_45 rfl 2 rfl ?_
                refine g_aload ok d_Rt_tellOutline_46 4 rfl ?_
                refine gN_Rg_xs ok _ (rg_of hK (by omega)) k_45 d_Rt_tellOutline_48 ?_
                refine g_iload ok d_Rt_tellOutline_51 5 rfl ?_
                refine h_iald ok _ a1 (by omega) d_Rt_tellOutline_53 ?_
                refine g_top (y := G ((k + 3 + 3 * (r : Int).toNat) + 1) i) (by show G2 ((k + 3 + 3 * (r : Int).toNat) + 1) i = _; rw [tkAt_G hA hR2.2.2.2 ((k + 3 + 3 * (r : Int).toNat) + 1) (by omega) (by omega)]) ?_
                refine g_aload ok d_Rt_tellOutline_54 4 rfl ?_
                refine gN_Rg_ys ok _ (rg_of hK (by omega)) k_50 d_Rt_tellOutline_56 ?_
                refine g_iload ok d_Rt_tellOutline_59 5 rfl ?_
                refine h_iald ok _ a2 (by omega) d_Rt_tellOutline_61 ?_
                refine g_top (y := G ((k + 3 + 3 * (r : Int).toNat) + 2) i) (by show G2 ((k + 3 + 3 * (r : Int).toNat) + 2) i = _; rw [tkAt_G hA hR2.2.2.2 ((k + 3 + 3 * (r : Int).toNat) + 2) (by omega) (by omega)]) ?_
                refine g_tkT (x := G ((k + 3 + 3 * (r : Int).toNat) + 1) i) (y := G ((k + 3 + 3 * (r : Int).toNat) + 2) i) (st := []) ok hA hR2 (sh_in (r := r.toNat) hA.1 (by omega) (by omega) (by omega)) (by decide) (Nat.le_of_ble_eq_true rfl) d_Rt_tellOutline_62 (fun F103 G103 hR103 hL103 => ?_)
                refine g_iinc (lv' := [(5, .int (iI (i + 1))), (0, .ref (ad 230)), (1, .ref (ad k)), (2, .ref (ad q)), (3, .int (iI r)), (4, .ref (ad (k + 3 + 3 * (r : Int).toNat)))]) ok d_Rt_tellOutline_67 5 rfl (by decide) rfl ?_
                refine g_goto ok 35 d_Rt_tellOutline_70 (by decide) ?_
                refine g_lv [1, 2, 3, 4, 5, 0] rfl ?_
                exact ih_i (i + 1) F103 G103 (by omega) (by rw [oEv_step hi.1, ← List.append_assoc, show decide (i + 1 = 0) = false from decide_eq_false (by omega)]; exact hR103) (by omega)
          refine g_z ?_
          refine g_lv [2, 3, 4, 5, 1, 0] rfl ?_
          exact L_i ((F (k + 3 + 3 * r.toNat) 2 + 1 - 0 : Int).toNat + 1) 0 F101 G101 (by omega) (by show tkR q k F G S _ _ (_ ++ []) true; rw [List.append_nil]; exact hR101) (by omega)
        · refine g_goto ok 93 d_Rt_tellOutline_23 (by decide) ?_
          refine g_iinc (lv' := [(3, .int (iI (r + 1))), (4, .ref (ad (k + 3 + 3 * (r : Int).toNat))), (0, .ref (ad 230)), (1, .ref (ad k)), (2, .ref (ad q))]) ok d_Rt_tellOutline_93 4 rfl (by decide) rfl ?_
          refine g_goto ok 2 d_Rt_tellOutline_96 (by decide) ?_
          refine g_lv [2, 3, 4, 0] rfl ?_
          exact ih_r (r + 1) F1 G1 pd1 (by omega) (hp1) (by unfold outE; rw [oAll_step hr.1, oRing_0 (show ¬ 0 < rgN F k r.toNat by show ¬ 0 < F (k + 3 + 3 * r.toNat) 2; omega), List.append_nil]; exact hR1) (by omega)
  refine g_z ?_
  refine g_lv [1, 2, 3, 0] rfl ?_
  exact L_r ((5 - 0 : Int).toNat + 1) 0 F G p0 (by omega) (hp0) (h0) (by omega)
def sgF (X Y : Int → Int) (i : Int) : Int := max (iab (X (i + 1) - X i)) (iab (Y (i + 1) - Y i))
def sgM (X0 Y0 X1 Y1 : Int → Int) (sp i : Int) : Int := max 1 ((max (sgF X0 Y0 i) (sgF X1 Y1 i) + sp - 1) / sp)
def sgE (X0 Y0 X1 Y1 : Int → Int) (i m : Int) : Nat → List Ev
  | 0 => []
  | j + 1 => sgE X0 Y0 X1 Y1 i m j ++ [(al (X0 i) (X0 (i + 1)) (j : Int) m, al (Y0 i) (Y0 (i + 1)) (j : Int) m, decide (i = 0 ∧ (j : Int) = 0))] ++ [(al (X1 i) (X1 (i + 1)) (j : Int) m, al (Y1 i) (Y1 (i + 1)) (j : Int) m, false)]
theorem sgE_step {X0 Y0 X1 Y1 : Int → Int} {i m j : Int} (h : 0 ≤ j) : sgE X0 Y0 X1 Y1 i m (j + 1).toNat = sgE X0 Y0 X1 Y1 i m j.toNat ++ [(al (X0 i) (X0 (i + 1)) j m, al (Y0 i) (Y0 (i + 1)) j m, decide (i = 0 ∧ j = 0))] ++ [(al (X1 i) (X1 (i + 1)) j m, al (Y1 i) (Y1 (i + 1)) j m, false)] := by
  have e : (j + 1).toNat = j.toNat + 1 := by omega
  have e2 : ((j.toNat : Nat) : Int) = j := by omega
  rw [e]
  show sgE X0 Y0 X1 Y1 i m j.toNat ++ [(al (X0 i) (X0 (i + 1)) ((j.toNat : Nat) : Int) m, al (Y0 i) (Y0 (i + 1)) ((j.toNat : Nat) : Int) m, decide (i = 0 ∧ ((j.toNat : Nat) : Int) = 0))] ++ [(al (X1 i) (X1 (i + 1)) ((j.toNat : Nat) : Int) m, al (Y1 i) (Y1 (i + 1)) ((j.toNat : Nat) : Int) m, false)] = _
  rw [e2]
def satP (X0 Y0 X1 Y1 : Int → Int) (sp : Int) : Nat → List Ev
  | 0 => []
  | i + 1 => satP X0 Y0 X1 Y1 sp i ++ sgE X0 Y0 X1 Y1 (i : Int) (sgM X0 Y0 X1 Y1 sp (i : Int)) (sgM X0 Y0 X1 Y1 sp (i : Int)).toNat
theorem satP_step {X0 Y0 X1 Y1 : Int → Int} {sp i : Int} (h : 0 ≤ i) : satP X0 Y0 X1 Y1 sp (i + 1).toNat = satP X0 Y0 X1 Y1 sp i.toNat ++ sgE X0 Y0 X1 Y1 i (sgM X0 Y0 X1 Y1 sp i) (sgM X0 Y0 X1 Y1 sp i).toNat := by
  have e : (i + 1).toNat = i.toNat + 1 := by omega
  have e2 : ((i.toNat : Nat) : Int) = i := by omega
  rw [e]
  show satP X0 Y0 X1 Y1 sp i.toNat ++ sgE X0 Y0 X1 Y1 ((i.toNat : Nat) : Int) (sgM X0 Y0 X1 Y1 sp ((i.toNat : Nat) : Int)) (sgM X0 Y0 X1 Y1 sp ((i.toNat : Nat) : Int)).toNat = _
  rw [e2]
def satE (X0 Y0 X1 Y1 : Int → Int) (sp n : Int) : List Ev := satP X0 Y0 X1 Y1 sp (n - 1).toNat ++ [(X0 (n - 1), Y0 (n - 1), false)] ++ [(X1 (n - 1), Y1 (n - 1), false)]
theorem sgF_rng {X Y : Int → Int} {i : Int} (h : inR (X i) (Y i)) (h2 : inR (X (i + 1)) (Y (i + 1))) : 0 ≤ sgF X Y i ∧ sgF X Y i ≤ 600 := by
  unfold inR at h h2
  have a := iab_rng (a := X (i + 1) - X i) (by omega)
  have b := iab_rng (a := Y (i + 1) - Y i) (by omega)
  unfold sgF
  omega
theorem sgM_rng {X0 Y0 X1 Y1 : Int → Int} {sp i : Int} (hs : 4 ≤ sp ∧ sp ≤ 20) (h0 : 0 ≤ sgF X0 Y0 i ∧ sgF X0 Y0 i ≤ 600) (h1 : 0 ≤ sgF X1 Y1 i ∧ sgF X1 Y1 i ≤ 600) : 1 ≤ sgM X0 Y0 X1 Y1 sp i ∧ sgM X0 Y0 X1 Y1 sp i ≤ 600 := by
  unfold sgM
  generalize hz : (max (sgF X0 Y0 i) (sgF X1 Y1 i) + sp - 1) / sp = z
  have hb : z ≤ 600 := by
    rw [← hz]
    exact Int.ediv_le_of_le_mul (by omega) (by omega)
  omega
theorem d_Rt_reach_0 : decode b_Rt_reach 0 = .ok (.aload_n 0, 1) := by decide +kernel
theorem d_Rt_reach_1 : decode b_Rt_reach 1 = .ok (.getfield 48, 3) := by decide +kernel
theorem d_Rt_reach_4 : decode b_Rt_reach 4 = .ok (.iload_n 1, 1) := by decide +kernel
theorem d_Rt_reach_5 : decode b_Rt_reach 5 = .ok (.iconst 1, 1) := by decide +kernel
theorem d_Rt_reach_6 : decode b_Rt_reach 6 = .ok (.iadd, 1) := by decide +kernel
theorem d_Rt_reach_7 : decode b_Rt_reach 7 = .ok (.iaload, 1) := by decide +kernel
theorem d_Rt_reach_8 : decode b_Rt_reach 8 = .ok (.aload_n 0, 1) := by decide +kernel
theorem d_Rt_reach_9 : decode b_Rt_reach 9 = .ok (.getfield 48, 3) := by decide +kernel
theorem d_Rt_reach_12 : decode b_Rt_reach 12 = .ok (.iload_n 1, 1) := by decide +kernel
theorem d_Rt_reach_13 : decode b_Rt_reach 13 = .ok (.iaload, 1) := by decide +kernel
theorem d_Rt_reach_14 : decode b_Rt_reach 14 = .ok (.isub, 1) := by decide +kernel
theorem d_Rt_reach_15 : decode b_Rt_reach 15 = .ok (.invokestatic 82, 3) := by decide +kernel
theorem d_Rt_reach_18 : decode b_Rt_reach 18 = .ok (.aload_n 0, 1) := by decide +kernel
theorem d_Rt_reach_19 : decode b_Rt_reach 19 = .ok (.getfield 52, 3) := by decide +kernel
theorem d_Rt_reach_22 : decode b_Rt_reach 22 = .ok (.iload_n 1, 1) := by decide +kernel
theorem d_Rt_reach_23 : decode b_Rt_reach 23 = .ok (.iconst 1, 1) := by decide +kernel
theorem d_Rt_reach_24 : decode b_Rt_reach 24 = .ok (.iadd, 1) := by decide +kernel
theorem d_Rt_reach_25 : decode b_Rt_reach 25 = .ok (.iaload, 1) := by decide +kernel
theorem d_Rt_reach_26 : decode b_Rt_reach 26 = .ok (.aload_n 0, 1) := by decide +kernel
theorem d_Rt_reach_27 : decode b_Rt_reach 27 = .ok (.getfield 52, 3) := by decide +kernel
theorem d_Rt_reach_30 : decode b_Rt_reach 30 = .ok (.iload_n 1, 1) := by decide +kernel
theorem d_Rt_reach_31 : decode b_Rt_reach 31 = .ok (.iaload, 1) := by decide +kernel
theorem d_Rt_reach_32 : decode b_Rt_reach 32 = .ok (.isub, 1) := by decide +kernel
theorem d_Rt_reach_33 : decode b_Rt_reach 33 = .ok (.invokestatic 82, 3) := by decide +kernel
theorem d_Rt_reach_36 : decode b_Rt_reach 36 = .ok (.invokestatic 72, 3) := by decide +kernel
theorem d_Rt_reach_39 : decode b_Rt_reach 39 = .ok (.ireturn, 1) := by decide +kernel
set_option maxHeartbeats 1000000 in
set_option maxRecDepth 100000 in
theorem c_Rt_reach (F : Nat → Nat → Int) (G : Nat → Int → Int) (j : Nat) (N : Nat) (hJ : isRg j) (hN : rRoom ((j - 2) % 22) = N) (i : Int) (hi : 0 ≤ i ∧ i + 1 < N) (hN2 : N ≤ 100) (h1 : inR (G (j + 1) i) (G (j + 2) i)) (h2 : inR (G (j + 1) (i + 1)) (G (j + 2) (i + 1))) : cP y_Rt_reach b_Rt_reach 2 (some .int) 1 21 F G (fun ad => [.ref (ad j), .int (iI i)]) (fun r => r = sgF (G (j + 1)) (G (j + 2)) i) := by
  have h1x := h1
  have h2x := h2
  unfold inR at h1x h2x
  have a1 : isA (j + 1) N := a_rg hJ (Or.inl rfl) hN.symm
  have a2 : isA (j + 2) N := a_rg hJ (Or.inr rfl) hN.symm
  intro s0 a0 D t ad
  refine g_startP (by decide +kernel) (Nat.le_of_ble_eq_true rfl) (fun p l e R s m args below meth c A ok => ?_)
  show gW p l e R s m args below meth c _ D A 2 (gZ0 s) 0 0 ad 265 (mem ad t F G) 0 [(0, .ref (ad j)), (1, .int (iI i))] []
  refine g_aload_n ok d_Rt_reach_0 rfl 0 rfl ?_
  refine gN_Rg_xs ok _ hJ k_45 d_Rt_reach_1 ?_
  refine g_iload_n ok d_Rt_reach_4 rfl 1 rfl ?_
  refine g_iconst ok d_Rt_reach_5 ?_
  refine g_iadd ok d_Rt_reach_6 ?_
  refine h_iald ok _ a1 (by omega) d_Rt_reach_7 ?_
  refine g_aload_n ok d_Rt_reach_8 rfl 0 rfl ?_
  refine gN_Rg_xs ok _ hJ k_45 d_Rt_reach_9 ?_
  refine g_iload_n ok d_Rt_reach_12 rfl 1 rfl ?_
  refine h_iald ok _ a1 (by omega) d_Rt_reach_13 ?_
  refine g_isub ok d_Rt_reach_14 ?_
  refine g_callPS (As := [.int (iI ((G (j + 1) (i + 1)) - (G (j + 1) i)))]) (st := []) ok (c_Ma_abs F G _ (by omega) s0 a0 D t ad) k_494 k_18 k_537 k_493 q_Ma_abs (by decide) (Nat.le_of_ble_eq_true rfl) (by decide) d_Rt_reach_15 (fun z1 hc1 => ?_)
  subst hc1
  refine g_top (y := iab ((G (j + 1) (i + 1)) - (G (j + 1) i))) rfl ?_
  have hab1 := iab_rng (a := (G (j + 1) (i + 1)) - (G (j + 1) i)) (by omega)
  refine g_aload_n ok d_Rt_reach_18 rfl 0 rfl ?_
  refine gN_Rg_ys ok _ hJ k_50 d_Rt_reach_19 ?_
  refine g_iload_n ok d_Rt_reach_22 rfl 1 rfl ?_
  refine g_iconst ok d_Rt_reach_23 ?_
  refine g_iadd ok d_Rt_reach_24 ?_
  refine h_iald ok _ a2 (by omega) d_Rt_reach_25 ?_
  refine g_aload_n ok d_Rt_reach_26 rfl 0 rfl ?_
  refine gN_Rg_ys ok _ hJ k_50 d_Rt_reach_27 ?_
  refine g_iload_n ok d_Rt_reach_30 rfl 1 rfl ?_
  refine h_iald ok _ a2 (by omega) d_Rt_reach_31 ?_
  refine g_isub ok d_Rt_reach_32 ?_
  refine g_callPS (As := [.int (iI ((G (j + 2) (i + 1)) - (G (j + 2) i)))]) (st := [.int (iI (iab ((G (j + 1) (i + 1)) - (G (j + 1) i))))]) ok (c_Ma_abs F G _ (by omega) s0 a0 D t ad) k_494 k_18 k_537 k_493 q_Ma_abs (by decide) (Nat.le_of_ble_eq_true rfl) (by decide) d_Rt_reach_33 (fun z2 hc2 => ?_)
  subst hc2
  refine g_top (y := iab ((G (j + 2) (i + 1)) - (G (j + 2) i))) rfl ?_
  have hab2 := iab_rng (a := (G (j + 2) (i + 1)) - (G (j + 2) i)) (by omega)
  refine g_callPS (As := [.int (iI (iab ((G (j + 1) (i + 1)) - (G (j + 1) i)))), .int (iI (iab ((G (j + 2) (i + 1)) - (G (j + 2) i))))]) (st := []) ok (c_Ma_max F G _ _ (by omega) (by omega) s0 a0 D t ad) k_414 k_18 k_538 k_413 q_Ma_max (by decide) (Nat.le_of_ble_eq_true rfl) (by decide) d_Rt_reach_36 (fun z3 hc3 => ?_)
  subst hc3
  exact g_ipret ok d_Rt_reach_39 (rfl)
theorem d_Rt_pointOf_0 : decode b_Rt_pointOf 0 = .ok (.aload_n 0, 1) := by decide +kernel
theorem d_Rt_pointOf_1 : decode b_Rt_pointOf 1 = .ok (.iload_n 1, 1) := by decide +kernel
theorem d_Rt_pointOf_2 : decode b_Rt_pointOf 2 = .ok (.iaload, 1) := by decide +kernel
theorem d_Rt_pointOf_3 : decode b_Rt_pointOf 3 = .ok (.aload_n 0, 1) := by decide +kernel
theorem d_Rt_pointOf_4 : decode b_Rt_pointOf 4 = .ok (.iload_n 1, 1) := by decide +kernel
theorem d_Rt_pointOf_5 : decode b_Rt_pointOf 5 = .ok (.iconst 1, 1) := by decide +kernel
theorem d_Rt_pointOf_6 : decode b_Rt_pointOf 6 = .ok (.iadd, 1) := by decide +kernel
theorem d_Rt_pointOf_7 : decode b_Rt_pointOf 7 = .ok (.iaload, 1) := by decide +kernel
theorem d_Rt_pointOf_8 : decode b_Rt_pointOf 8 = .ok (.iload_n 2, 1) := by decide +kernel
theorem d_Rt_pointOf_9 : decode b_Rt_pointOf 9 = .ok (.iload_n 3, 1) := by decide +kernel
theorem d_Rt_pointOf_10 : decode b_Rt_pointOf 10 = .ok (.invokestatic 86, 3) := by decide +kernel
theorem d_Rt_pointOf_13 : decode b_Rt_pointOf 13 = .ok (.ireturn, 1) := by decide +kernel
set_option maxHeartbeats 1000000 in
set_option maxRecDepth 100000 in
theorem c_Rt_pointOf (F : Nat → Nat → Int) (G : Nat → Int → Int) (j : Nat) (N : Nat) (hA : isA j N) (i k n : Int) (hi : 0 ≤ i ∧ i + 1 < N) (hN2 : N ≤ 100) (ha : 0 ≤ G j i ∧ G j i ≤ 600) (hb : 0 ≤ G j (i + 1) ∧ G j (i + 1) ≤ 600) (hk : 0 ≤ k ∧ k ≤ 600) (hn : 0 ≤ n ∧ n ≤ 1000) : cP y_Rt_pointOf b_Rt_pointOf 4 (some .int) 2 45 F G (fun ad => [.ref (ad j), .int (iI i), .int (iI k), .int (iI n)]) (fun r => r = al (G j i) (G j (i + 1)) k n) := by
  intro s0 a0 D t ad
  refine g_startP (by decide +kernel) (Nat.le_of_ble_eq_true rfl) (fun p l e R s m args below meth c A ok => ?_)
  show gW p l e R s m args below meth c _ D A 4 (gZ0 s) 0 0 ad 265 (mem ad t F G) 0 [(0, .ref (ad j)), (1, .int (iI i)), (2, .int (iI k)), (3, .int (iI n))] []
  refine g_aload_n ok d_Rt_pointOf_0 rfl 0 rfl ?_
  refine g_iload_n ok d_Rt_pointOf_1 rfl 1 rfl ?_
  refine h_iald ok _ hA (by omega) d_Rt_pointOf_2 ?_
  refine g_aload_n ok d_Rt_pointOf_3 rfl 0 rfl ?_
  refine g_iload_n ok d_Rt_pointOf_4 rfl 1 rfl ?_
  refine g_iconst ok d_Rt_pointOf_5 ?_
  refine g_iadd ok d_Rt_pointOf_6 ?_
  refine h_iald ok _ hA (by omega) d_Rt_pointOf_7 ?_
  refine g_iload_n ok d_Rt_pointOf_8 rfl 2 rfl ?_
  refine g_iload_n ok d_Rt_pointOf_9 rfl 3 rfl ?_
  have hpr : -2147483648 ≤ k * (G j (i + 1) - G j i) ∧ k * (G j (i + 1) - G j i) < 2147483648 := by have h := mul_rng (a := k) (b := G j (i + 1) - G j i) (by omega) (by omega); omega
  refine g_callPSN (As := [.int (iI (G j i)), .int (iI (G j (i + 1))), .int (iI k), .int (iI n)]) (st := []) ok (c_Dk_along F G _ _ _ _ ha hb (by omega) hn hpr s0 a0 D t ad) k_498 k_1 k_542 k_497 q_Dk_along (by decide) (Nat.le_of_ble_eq_true rfl) (by decide) d_Rt_pointOf_10 (fun z1 hc1 => ?_)
  subst hc1
  exact g_ipret ok d_Rt_pointOf_13 (rfl)
theorem d_Rt_tellSatin_0 : decode b_Rt_tellSatin 0 = .ok (.aload_n 1, 1) := by decide +kernel
theorem d_Rt_tellSatin_1 : decode b_Rt_tellSatin 1 = .ok (.getfield 59, 3) := by decide +kernel
theorem d_Rt_tellSatin_4 : decode b_Rt_tellSatin 4 = .ok (.iconst 0, 1) := by decide +kernel
theorem d_Rt_tellSatin_5 : decode b_Rt_tellSatin 5 = .ok (.aaload, 1) := by decide +kernel
theorem d_Rt_tellSatin_6 : decode b_Rt_tellSatin 6 = .ok (.astore_n 3, 1) := by decide +kernel
theorem d_Rt_tellSatin_7 : decode b_Rt_tellSatin 7 = .ok (.aload_n 1, 1) := by decide +kernel
theorem d_Rt_tellSatin_8 : decode b_Rt_tellSatin 8 = .ok (.getfield 59, 3) := by decide +kernel
theorem d_Rt_tellSatin_11 : decode b_Rt_tellSatin 11 = .ok (.iconst 1, 1) := by decide +kernel
theorem d_Rt_tellSatin_12 : decode b_Rt_tellSatin 12 = .ok (.aaload, 1) := by decide +kernel
theorem d_Rt_tellSatin_13 : decode b_Rt_tellSatin 13 = .ok (.astore 4, 2) := by decide +kernel
theorem d_Rt_tellSatin_15 : decode b_Rt_tellSatin 15 = .ok (.aload_n 3, 1) := by decide +kernel
theorem d_Rt_tellSatin_16 : decode b_Rt_tellSatin 16 = .ok (.getfield 38, 3) := by decide +kernel
theorem d_Rt_tellSatin_19 : decode b_Rt_tellSatin 19 = .ok (.aload 4, 2) := by decide +kernel
theorem d_Rt_tellSatin_21 : decode b_Rt_tellSatin 21 = .ok (.getfield 38, 3) := by decide +kernel
theorem d_Rt_tellSatin_24 : decode b_Rt_tellSatin 24 = .ok (.invokestatic 62, 3) := by decide +kernel
theorem d_Rt_tellSatin_27 : decode b_Rt_tellSatin 27 = .ok (.istore 5, 2) := by decide +kernel
theorem d_Rt_tellSatin_29 : decode b_Rt_tellSatin 29 = .ok (.iload 5, 2) := by decide +kernel
theorem d_Rt_tellSatin_31 : decode b_Rt_tellSatin 31 = .ok (.ifCond .ne 4, 3) := by decide +kernel
theorem d_Rt_tellSatin_34 : decode b_Rt_tellSatin 34 = .ok (.return_, 1) := by decide +kernel
theorem d_Rt_tellSatin_35 : decode b_Rt_tellSatin 35 = .ok (.aload_n 2, 1) := by decide +kernel
theorem d_Rt_tellSatin_36 : decode b_Rt_tellSatin 36 = .ok (.invokeinterface 43 1, 5) := by decide +kernel
theorem d_Rt_tellSatin_41 : decode b_Rt_tellSatin 41 = .ok (.iconst 0, 1) := by decide +kernel
theorem d_Rt_tellSatin_42 : decode b_Rt_tellSatin 42 = .ok (.istore 6, 2) := by decide +kernel
theorem d_Rt_tellSatin_44 : decode b_Rt_tellSatin 44 = .ok (.iload 6, 2) := by decide +kernel
theorem d_Rt_tellSatin_46 : decode b_Rt_tellSatin 46 = .ok (.iconst 1, 1) := by decide +kernel
theorem d_Rt_tellSatin_47 : decode b_Rt_tellSatin 47 = .ok (.iadd, 1) := by decide +kernel
theorem d_Rt_tellSatin_48 : decode b_Rt_tellSatin 48 = .ok (.iload 5, 2) := by decide +kernel
theorem d_Rt_tellSatin_50 : decode b_Rt_tellSatin 50 = .ok (.if_icmp .ge 129, 3) := by decide +kernel
theorem d_Rt_tellSatin_53 : decode b_Rt_tellSatin 53 = .ok (.aload_n 3, 1) := by decide +kernel
theorem d_Rt_tellSatin_54 : decode b_Rt_tellSatin 54 = .ok (.iload 6, 2) := by decide +kernel
theorem d_Rt_tellSatin_56 : decode b_Rt_tellSatin 56 = .ok (.invokestatic 68, 3) := by decide +kernel
theorem d_Rt_tellSatin_59 : decode b_Rt_tellSatin 59 = .ok (.aload 4, 2) := by decide +kernel
theorem d_Rt_tellSatin_61 : decode b_Rt_tellSatin 61 = .ok (.iload 6, 2) := by decide +kernel
theorem d_Rt_tellSatin_63 : decode b_Rt_tellSatin 63 = .ok (.invokestatic 68, 3) := by decide +kernel
theorem d_Rt_tellSatin_66 : decode b_Rt_tellSatin 66 = .ok (.invokestatic 72, 3) := by decide +kernel
theorem d_Rt_tellSatin_69 : decode b_Rt_tellSatin 69 = .ok (.istore 7, 2) := by decide +kernel
theorem d_Rt_tellSatin_71 : decode b_Rt_tellSatin 71 = .ok (.iconst 1, 1) := by decide +kernel
theorem d_Rt_tellSatin_72 : decode b_Rt_tellSatin 72 = .ok (.iload 7, 2) := by decide +kernel
theorem d_Rt_tellSatin_74 : decode b_Rt_tellSatin 74 = .ok (.aload_n 1, 1) := by decide +kernel
theorem d_Rt_tellSatin_75 : decode b_Rt_tellSatin 75 = .ok (.getfield 75, 3) := by decide +kernel
theorem d_Rt_tellSatin_78 : decode b_Rt_tellSatin 78 = .ok (.iadd, 1) := by decide +kernel
theorem d_Rt_tellSatin_79 : decode b_Rt_tellSatin 79 = .ok (.iconst 1, 1) := by decide +kernel
theorem d_Rt_tellSatin_80 : decode b_Rt_tellSatin 80 = .ok (.isub, 1) := by decide +kernel
theorem d_Rt_tellSatin_81 : decode b_Rt_tellSatin 81 = .ok (.aload_n 1, 1) := by decide +kernel
theorem d_Rt_tellSatin_82 : decode b_Rt_tellSatin 82 = .ok (.getfield 75, 3) := by decide +kernel
theorem d_Rt_tellSatin_85 : decode b_Rt_tellSatin 85 = .ok (.idiv, 1) := by decide +kernel
theorem d_Rt_tellSatin_86 : decode b_Rt_tellSatin 86 = .ok (.invokestatic 72, 3) := by decide +kernel
theorem d_Rt_tellSatin_89 : decode b_Rt_tellSatin 89 = .ok (.istore 8, 2) := by decide +kernel
theorem d_Rt_tellSatin_91 : decode b_Rt_tellSatin 91 = .ok (.iconst 0, 1) := by decide +kernel
theorem d_Rt_tellSatin_92 : decode b_Rt_tellSatin 92 = .ok (.istore 9, 2) := by decide +kernel
theorem d_Rt_tellSatin_94 : decode b_Rt_tellSatin 94 = .ok (.iload 9, 2) := by decide +kernel
theorem d_Rt_tellSatin_96 : decode b_Rt_tellSatin 96 = .ok (.iload 8, 2) := by decide +kernel
theorem d_Rt_tellSatin_98 : decode b_Rt_tellSatin 98 = .ok (.if_icmp .ge 75, 3) := by decide +kernel
theorem d_Rt_tellSatin_101 : decode b_Rt_tellSatin 101 = .ok (.aload_n 2, 1) := by decide +kernel
theorem d_Rt_tellSatin_102 : decode b_Rt_tellSatin 102 = .ok (.aload_n 3, 1) := by decide +kernel
theorem d_Rt_tellSatin_103 : decode b_Rt_tellSatin 103 = .ok (.getfield 48, 3) := by decide +kernel
theorem d_Rt_tellSatin_106 : decode b_Rt_tellSatin 106 = .ok (.iload 6, 2) := by decide +kernel
theorem d_Rt_tellSatin_108 : decode b_Rt_tellSatin 108 = .ok (.iload 9, 2) := by decide +kernel
theorem d_Rt_tellSatin_110 : decode b_Rt_tellSatin 110 = .ok (.iload 8, 2) := by decide +kernel
theorem d_Rt_tellSatin_112 : decode b_Rt_tellSatin 112 = .ok (.invokestatic 78, 3) := by decide +kernel
theorem d_Rt_tellSatin_115 : decode b_Rt_tellSatin 115 = .ok (.aload_n 3, 1) := by decide +kernel
theorem d_Rt_tellSatin_116 : decode b_Rt_tellSatin 116 = .ok (.getfield 52, 3) := by decide +kernel
theorem d_Rt_tellSatin_119 : decode b_Rt_tellSatin 119 = .ok (.iload 6, 2) := by decide +kernel
theorem d_Rt_tellSatin_121 : decode b_Rt_tellSatin 121 = .ok (.iload 9, 2) := by decide +kernel
theorem d_Rt_tellSatin_123 : decode b_Rt_tellSatin 123 = .ok (.iload 8, 2) := by decide +kernel
theorem d_Rt_tellSatin_125 : decode b_Rt_tellSatin 125 = .ok (.invokestatic 78, 3) := by decide +kernel
theorem d_Rt_tellSatin_128 : decode b_Rt_tellSatin 128 = .ok (.invokeinterface 55 3, 5) := by decide +kernel
theorem d_Rt_tellSatin_133 : decode b_Rt_tellSatin 133 = .ok (.aload_n 2, 1) := by decide +kernel
theorem d_Rt_tellSatin_134 : decode b_Rt_tellSatin 134 = .ok (.aload 4, 2) := by decide +kernel
theorem d_Rt_tellSatin_136 : decode b_Rt_tellSatin 136 = .ok (.getfield 48, 3) := by decide +kernel
theorem d_Rt_tellSatin_139 : decode b_Rt_tellSatin 139 = .ok (.iload 6, 2) := by decide +kernel
theorem d_Rt_tellSatin_141 : decode b_Rt_tellSatin 141 = .ok (.iload 9, 2) := by decide +kernel
theorem d_Rt_tellSatin_143 : decode b_Rt_tellSatin 143 = .ok (.iload 8, 2) := by decide +kernel
theorem d_Rt_tellSatin_145 : decode b_Rt_tellSatin 145 = .ok (.invokestatic 78, 3) := by decide +kernel
theorem d_Rt_tellSatin_148 : decode b_Rt_tellSatin 148 = .ok (.aload 4, 2) := by decide +kernel
theorem d_Rt_tellSatin_150 : decode b_Rt_tellSatin 150 = .ok (.getfield 52, 3) := by decide +kernel
theorem d_Rt_tellSatin_153 : decode b_Rt_tellSatin 153 = .ok (.iload 6, 2) := by decide +kernel
theorem d_Rt_tellSatin_155 : decode b_Rt_tellSatin 155 = .ok (.iload 9, 2) := by decide +kernel
theorem d_Rt_tellSatin_157 : decode b_Rt_tellSatin 157 = .ok (.iload 8, 2) := by decide +kernel
theorem d_Rt_tellSatin_159 : decode b_Rt_tellSatin 159 = .ok (.invokestatic 78, 3) := by decide +kernel
theorem d_Rt_tellSatin_162 : decode b_Rt_tellSatin 162 = .ok (.invokeinterface 55 3, 5) := by decide +kernel
theorem d_Rt_tellSatin_167 : decode b_Rt_tellSatin 167 = .ok (.iinc 9 1, 3) := by decide +kernel
theorem d_Rt_tellSatin_170 : decode b_Rt_tellSatin 170 = .ok (.goto (-76), 3) := by decide +kernel
theorem d_Rt_tellSatin_173 : decode b_Rt_tellSatin 173 = .ok (.iinc 6 1, 3) := by decide +kernel
theorem d_Rt_tellSatin_176 : decode b_Rt_tellSatin 176 = .ok (.goto (-132), 3) := by decide +kernel
theorem d_Rt_tellSatin_179 : decode b_Rt_tellSatin 179 = .ok (.aload_n 2, 1) := by decide +kernel
theorem d_Rt_tellSatin_180 : decode b_Rt_tellSatin 180 = .ok (.aload_n 3, 1) := by decide +kernel
theorem d_Rt_tellSatin_181 : decode b_Rt_tellSatin 181 = .ok (.getfield 48, 3) := by decide +kernel
theorem d_Rt_tellSatin_184 : decode b_Rt_tellSatin 184 = .ok (.iload 5, 2) := by decide +kernel
theorem d_Rt_tellSatin_186 : decode b_Rt_tellSatin 186 = .ok (.iconst 1, 1) := by decide +kernel
theorem d_Rt_tellSatin_187 : decode b_Rt_tellSatin 187 = .ok (.isub, 1) := by decide +kernel
theorem d_Rt_tellSatin_188 : decode b_Rt_tellSatin 188 = .ok (.iaload, 1) := by decide +kernel
theorem d_Rt_tellSatin_189 : decode b_Rt_tellSatin 189 = .ok (.aload_n 3, 1) := by decide +kernel
theorem d_Rt_tellSatin_190 : decode b_Rt_tellSatin 190 = .ok (.getfield 52, 3) := by decide +kernel
theorem d_Rt_tellSatin_193 : decode b_Rt_tellSatin 193 = .ok (.iload 5, 2) := by decide +kernel
theorem d_Rt_tellSatin_195 : decode b_Rt_tellSatin 195 = .ok (.iconst 1, 1) := by decide +kernel
theorem d_Rt_tellSatin_196 : decode b_Rt_tellSatin 196 = .ok (.isub, 1) := by decide +kernel
theorem d_Rt_tellSatin_197 : decode b_Rt_tellSatin 197 = .ok (.iaload, 1) := by decide +kernel
theorem d_Rt_tellSatin_198 : decode b_Rt_tellSatin 198 = .ok (.invokeinterface 55 3, 5) := by decide +kernel
theorem d_Rt_tellSatin_203 : decode b_Rt_tellSatin 203 = .ok (.aload_n 2, 1) := by decide +kernel
theorem d_Rt_tellSatin_204 : decode b_Rt_tellSatin 204 = .ok (.aload 4, 2) := by decide +kernel
theorem d_Rt_tellSatin_206 : decode b_Rt_tellSatin 206 = .ok (.getfield 48, 3) := by decide +kernel
theorem d_Rt_tellSatin_209 : decode b_Rt_tellSatin 209 = .ok (.iload 5, 2) := by decide +kernel
theorem d_Rt_tellSatin_211 : decode b_Rt_tellSatin 211 = .ok (.iconst 1, 1) := by decide +kernel
theorem d_Rt_tellSatin_212 : decode b_Rt_tellSatin 212 = .ok (.isub, 1) := by decide +kernel
theorem d_Rt_tellSatin_213 : decode b_Rt_tellSatin 213 = .ok (.iaload, 1) := by decide +kernel
theorem d_Rt_tellSatin_214 : decode b_Rt_tellSatin 214 = .ok (.aload 4, 2) := by decide +kernel
theorem d_Rt_tellSatin_216 : decode b_Rt_tellSatin 216 = .ok (.getfield 52, 3) := by decide +kernel
theorem d_Rt_tellSatin_219 : decode b_Rt_tellSatin 219 = .ok (.iload 5, 2) := by decide +kernel
theorem d_Rt_tellSatin_221 : decode b_Rt_tellSatin 221 = .ok (.iconst 1, 1) := by decide +kernel
theorem d_Rt_tellSatin_222 : decode b_Rt_tellSatin 222 = .ok (.isub, 1) := by decide +kernel
theorem d_Rt_tellSatin_223 : decode b_Rt_tellSatin 223 = .ok (.iaload, 1) := by decide +kernel
theorem d_Rt_tellSatin_224 : decode b_Rt_tellSatin 224 = .ok (.invokeinterface 55 3, 5) := by decide +kernel
theorem d_Rt_tellSatin_229 : decode b_Rt_tellSatin 229 = .ok (.return_, 1) := by decide +kernel
set_option maxHeartbeats 1000000 in
set_option maxRecDepth 100000 in
theorem c_Rt_tellSatin (F : Nat → Nat → Int) (G : Nat → Int → Int) (q k : Nat) (S : PS) (p0 : Bool) (hA : tkAt q k F G) (h0 : tkR q k F G S F G [] p0) (hp0 : q ≠ 235 → p0 = false) (hn : 2 ≤ F (k + 15) 2 ∧ F (k + 15) 2 ≤ 16 ∧ F (k + 18) 2 = F (k + 15) 2) : cV y_Rt_tellSatin b_Rt_tellSatin 10 none 5 118 F G (fun ad => [.ref (ad 230), .ref (ad k), .ref (ad q)]) (fun F' G' => ∃ p1 : Bool, (q ≠ 235 → p1 = false) ∧ tkR q k F G S F' G' (satE (G (k + 15 + 1)) (G (k + 15 + 2)) (G (k + 18 + 1)) (G (k + 18 + 2)) (F k 5) (F (k + 15) 2)) p1) := by
  have hK := hA.1.1
  have hkk := hK
  unfold isSh at hkk
  have r15 : isRg (k + 15) := rg_of (q := 4) hK (by decide)
  have r18 : isRg (k + 18) := rg_of (q := 5) hK (by decide)
  have x15 : isA (k + 15 + 1) 16 := a_rg r15 (Or.inl rfl) (rmB hK).symm
  have y15 : isA (k + 15 + 2) 16 := a_rg r15 (Or.inr rfl) (rmB hK).symm
  have x18 : isA (k + 18 + 1) 16 := a_rg r18 (Or.inl rfl) (rmC hK).symm
  have y18 : isA (k + 18 + 2) 16 := a_rg r18 (Or.inr rfl) (rmC hK).symm
  have h15 := hA.1.2.2.2.2.1.2
  have h18 := hA.1.2.2.2.2.2.2
  have hsp := hA.1.2.2.2.1.2.2.1
  rw [hn.2.2] at h18
  intro s0 a0 D t ad
  refine g_startV (by decide +kernel) (Nat.le_of_ble_eq_true rfl) (fun p l e R s m args below meth c A ok => ?_)
  show gW p l e R s m args below meth c _ D A 10 (gZ0 s) 0 0 ad 265 (mem ad t F G) 0 [(0, .ref (ad 230)), (1, .ref (ad k)), (2, .ref (ad q))] []
  refine g_aload_n ok d_Rt_tellSatin_0 rfl 1 rfl ?_
  refine gN_Sh_rails ok _ hK k_90 d_Rt_tellSatin_1 ?_
  refine g_iconst ok d_Rt_tellSatin_4 ?_
  refine h_rails ok _ hK (by omega) d_Rt_tellSatin_5 ?_
  refine g_astore_n (lv' := [(3, .ref (ad (k + 15))), (0, .ref (ad 230)), (1, .ref (ad k)), (2, .ref (ad q))]) ok d_Rt_tellSatin_6 rfl (by decide) rfl ?_
  refine g_aload_n ok d_Rt_tellSatin_7 rfl 2 rfl ?_
  refine gN_Sh_rails ok _ hK k_90 d_Rt_tellSatin_8 ?_
  refine g_iconst ok d_Rt_tellSatin_11 ?_
  refine h_rails ok _ hK (by omega) d_Rt_tellSatin_12 ?_
  refine g_astore (lv' := [(4, .ref (ad (k + 18))), (3, .ref (ad (k + 15))), (0, .ref (ad 230)), (1, .ref (ad k)), (2, .ref (ad q))]) ok d_Rt_tellSatin_13 (by decide) rfl ?_
  refine g_aload_n ok d_Rt_tellSatin_15 rfl 1 rfl ?_
  refine gN_Rg_size ok _ r15 k_56 d_Rt_tellSatin_16 ?_
  refine g_aload ok d_Rt_tellSatin_19 0 rfl ?_
  refine gN_Rg_size ok _ r18 k_56 d_Rt_tellSatin_21 ?_
  refine g_callPS (As := [.int (iI (F (k + 15) 2)), .int (iI (F (k + 18) 2))]) (st := []) ok (c_Ma_min F G _ _ (by omega) (by omega) s0 a0 D t ad) k_417 k_18 k_533 k_416 q_Ma_min (by decide) (Nat.le_of_ble_eq_true rfl) (by decide) d_Rt_tellSatin_24 (fun z1 hc1 => ?_)
  subst hc1
  refine g_top (y := F (k + 15) 2) (by omega) ?_
  refine g_istore (lv' := [(5, .int (iI (F (k + 15) 2))), (4, .ref (ad (k + 18))), (3, .ref (ad (k + 15))), (0, .ref (ad 230)), (1, .ref (ad k)), (2, .ref (ad q))]) ok d_Rt_tellSatin_27 (by decide) rfl ?_
  refine g_iload ok d_Rt_tellSatin_29 0 rfl ?_
  refine g_if_ne ok 35 d_Rt_tellSatin_31 (by decide) (by omega) (fun h2 => ?_) (fun h2 => ?_)
  · refine g_aload_n ok d_Rt_tellSatin_35 rfl 5 rfl ?_
    refine g_tkB (st := []) ok hA h0 (hp0) (by decide) (Nat.le_of_ble_eq_true rfl) d_Rt_tellSatin_36 (fun F104 G104 hR104 hL104 => ?_)
    refine g_iconst ok d_Rt_tellSatin_41 ?_
    refine g_istore (lv' := [(6, .int (iI 0)), (5, .int (iI (F (k + 15) 2))), (4, .ref (ad (k + 18))), (3, .ref (ad (k + 15))), (0, .ref (ad 230)), (1, .ref (ad k)), (2, .ref (ad q))]) ok d_Rt_tellSatin_42 (by decide) rfl ?_
    have L_i : ∀ (n_i : Nat) (i : Int) (F1 : Nat → Nat → Int) (G1 : Nat → Int → Int), (0 ≤ i ∧ i ≤ F (k + 15) 2 - 1) → (tkR q k F G S F1 G1 (satP (G (k + 15 + 1)) (G (k + 15 + 2)) (G (k + 18 + 1)) (G (k + 18 + 2)) (F k 5) i.toNat) (decide (i = 0))) → (F (k + 15) 2 + 1 - i) < (n_i : Int) → gW p l e R s m args below meth c (MQ below (gQv D A ad 265 (fun ce' => ∃ F' G', ce' = mem ad t F' G' ∧ (fun F' G' => ∃ p1 : Bool, (q ≠ 235 → p1 = false) ∧ tkR q k F G S F' G' (satE (G (k + 15 + 1)) (G (k + 15 + 2)) (G (k + 18 + 1)) (G (k + 18 + 2)) (F k 5) (F (k + 15) 2)) p1) F' G')) args s 0 0 A) D A 10 (gZ) 0 0 ad 265 (mem ad t F1 G1) 44 [(0, .ref (ad 230)), (1, .ref (ad k)), (2, .ref (ad q)), (3, .ref (ad (k + 15))), (4, .ref (ad (k + 18))), (5, .int (iI (F (k + 15) 2))), (6, .int (iI i))] [] := by
      intro n_i
      induction n_i with
      | zero =>
        intro i F1 G1 hi hR1 hm_i
        exact absurd hm_i (by omega)
      | succ n_i ih_i =>
        intro i F1 G1 hi hR1 hm_i
        refine g_iload ok d_Rt_tellSatin_44 6 rfl ?_
        refine g_iconst ok d_Rt_tellSatin_46 ?_
        refine g_iadd ok d_Rt_tellSatin_47 ?_
        refine g_iload ok d_Rt_tellSatin_48 5 rfl ?_
        refine g_icmp_ge ok 179 d_Rt_tellSatin_50 (by decide) (by omega) (by omega) (fun h3 => ?_) (fun h3 => ?_)
        · have hcl : decide (i = 0) = false := decide_eq_false (by omega)
          rw [hcl, show i = F (k + 15) 2 - 1 by omega] at hR1
          refine g_aload_n ok d_Rt_tellSatin_179 rfl 2 rfl ?_
          refine g_aload_n ok d_Rt_tellSatin_180 rfl 3 rfl ?_
          refine gN_Rg_xs ok _ r15 k_45 d_Rt_tellSatin_181 ?_
          refine g_iload ok d_Rt_tellSatin_184 5 rfl ?_
          refine g_iconst ok d_Rt_tellSatin_186 ?_
          refine g_isub ok d_Rt_tellSatin_187 ?_
          refine h_iald ok _ x15 (by omega) d_Rt_tellSatin_188 ?_
          refine g_top (y := G ((k + 15) + 1) ((F (k + 15) 2) - 1)) (by show G1 ((k + 15) + 1) ((F (k + 15) 2) - 1) = _; rw [tkAt_G hA hR1.2.2.2 ((k + 15) + 1) (by omega) (by omega)]) ?_
          refine g_aload_n ok d_Rt_tellSatin_189 rfl 3 rfl ?_
          refine gN_Rg_ys ok _ r15 k_50 d_Rt_tellSatin_190 ?_
          refine g_iload ok d_Rt_tellSatin_193 5 rfl ?_
          refine g_iconst ok d_Rt_tellSatin_195 ?_
          refine g_isub ok d_Rt_tellSatin_196 ?_
          refine h_iald ok _ y15 (by omega) d_Rt_tellSatin_197 ?_
          refine g_top (y := G ((k + 15) + 2) ((F (k + 15) 2) - 1)) (by show G1 ((k + 15) + 2) ((F (k + 15) 2) - 1) = _; rw [tkAt_G hA hR1.2.2.2 ((k + 15) + 2) (by omega) (by omega)]) ?_
          refine g_tkT (x := G ((k + 15) + 1) ((F (k + 15) 2) - 1)) (y := G ((k + 15) + 2) ((F (k + 15) 2) - 1)) (st := []) ok hA hR1 (h15 _ (by omega) (by omega)) (by decide) (Nat.le_of_ble_eq_true rfl) d_Rt_tellSatin_198 (fun F105 G105 hR105 hL105 => ?_)
          refine g_aload_n ok d_Rt_tellSatin_203 rfl 2 rfl ?_
          refine g_aload ok d_Rt_tellSatin_204 4 rfl ?_
          refine gN_Rg_xs ok _ r18 k_45 d_Rt_tellSatin_206 ?_
          refine g_iload ok d_Rt_tellSatin_209 5 rfl ?_
          refine g_iconst ok d_Rt_tellSatin_211 ?_
          refine g_isub ok d_Rt_tellSatin_212 ?_
          refine h_iald ok _ x18 (by omega) d_Rt_tellSatin_213 ?_
          refine g_top (y := G ((k + 18) + 1) ((F (k + 15) 2) - 1)) (by show G105 ((k + 18) + 1) ((F (k + 15) 2) - 1) = _; rw [tkAt_G hA hR105.2.2.2 ((k + 18) + 1) (by omega) (by omega)]) ?_
          refine g_aload ok d_Rt_tellSatin_214 4 rfl ?_
          refine gN_Rg_ys ok _ r18 k_50 d_Rt_tellSatin_216 ?_
          refine g_iload ok d_Rt_tellSatin_219 5 rfl ?_
          refine g_iconst ok d_Rt_tellSatin_221 ?_
          refine g_isub ok d_Rt_tellSatin_222 ?_
          refine h_iald ok _ y18 (by omega) d_Rt_tellSatin_223 ?_
          refine g_top (y := G ((k + 18) + 2) ((F (k + 15) 2) - 1)) (by show G105 ((k + 18) + 2) ((F (k + 15) 2) - 1) = _; rw [tkAt_G hA hR105.2.2.2 ((k + 18) + 2) (by omega) (by omega)]) ?_
          refine g_tkT (x := G ((k + 18) + 1) ((F (k + 15) 2) - 1)) (y := G ((k + 18) + 2) ((F (k + 15) 2) - 1)) (st := []) ok hA hR105 (h18 _ (by omega) (by omega)) (by decide) (Nat.le_of_ble_eq_true rfl) d_Rt_tellSatin_224 (fun F106 G106 hR106 hL106 => ?_)
          exact g_vret ok d_Rt_tellSatin_229 ⟨_, _, rfl, false, fun _ => rfl, hR106⟩
        · have b0 := h15 i (by omega) (by omega)
          have b1 := h15 (i + 1) (by omega) (by omega)
          have b2x := h18 i (by omega) (by omega)
          have b3 := h18 (i + 1) (by omega) (by omega)
          have f0 := sgF_rng (X := (G (k + 15 + 1))) (Y := (G (k + 15 + 2))) (i := i) b0 b1
          have f1 := sgF_rng (X := (G (k + 18 + 1))) (Y := (G (k + 18 + 2))) (i := i) b2x b3
          have hmr := sgM_rng (X0 := (G (k + 15 + 1))) (Y0 := (G (k + 15 + 2))) (X1 := (G (k + 18 + 1))) (Y1 := (G (k + 18 + 2))) (sp := F k 5) (i := i) hsp f0 f1
          have hqd : 0 ≤ (max (sgF (G (k + 15 + 1)) (G (k + 15 + 2)) i) (sgF (G (k + 18 + 1)) (G (k + 18 + 2)) i) + F k 5 - 1) / F k 5 ∧ (max (sgF (G (k + 15 + 1)) (G (k + 15 + 2)) i) (sgF (G (k + 18 + 1)) (G (k + 18 + 2)) i) + F k 5 - 1) / F k 5 ≤ 600 := ⟨Int.ediv_nonneg (by omega) (by omega), Int.ediv_le_of_le_mul (by omega) (by omega)⟩
          have e0 := tkAt_G hA hR1.2.2.2 (k + 15 + 1) (by omega) (by omega)
          have e1 := tkAt_G hA hR1.2.2.2 (k + 15 + 2) (by omega) (by omega)
          have e2 := tkAt_G hA hR1.2.2.2 (k + 18 + 1) (by omega) (by omega)
          have e3 := tkAt_G hA hR1.2.2.2 (k + 18 + 2) (by omega) (by omega)
          refine g_aload_n ok d_Rt_tellSatin_53 rfl 3 rfl ?_
          refine g_iload ok d_Rt_tellSatin_54 6 rfl ?_
          refine g_callPS (As := [.ref (ad (k + 15)), .int (iI i)]) (st := []) ok (c_Rt_reach F1 G1 _ 16 r15 (rmB hK) _ (by omega) (by decide) (by rw [e0, e1]; exact b0) (by rw [e0, e1]; exact b1) s0 a0 D t ad) k_536 k_6 k_534 k_535 q_Rt_reach (by decide) (Nat.le_of_ble_eq_true rfl) (by decide) d_Rt_tellSatin_56 (fun z4 hc4 => ?_)
          subst hc4
          refine g_top (y := sgF (G (k + 15 + 1)) (G (k + 15 + 2)) i) (by rw [e0, e1]) ?_
          refine g_aload ok d_Rt_tellSatin_59 4 rfl ?_
          refine g_iload ok d_Rt_tellSatin_61 6 rfl ?_
          refine g_callPS (As := [.ref (ad (k + 18)), .int (iI i)]) (st := [.int (iI (sgF (G (k + 15 + 1)) (G (k + 15 + 2)) i))]) ok (c_Rt_reach F1 G1 _ 16 r18 (rmC hK) _ (by omega) (by decide) (by rw [e2, e3]; exact b2x) (by rw [e2, e3]; exact b3) s0 a0 D t ad) k_536 k_6 k_534 k_535 q_Rt_reach (by decide) (Nat.le_of_ble_eq_true rfl) (by decide) d_Rt_tellSatin_63 (fun z5 hc5 => ?_)
          subst hc5
          refine g_top (y := sgF (G (k + 18 + 1)) (G (k + 18 + 2)) i) (by rw [e2, e3]) ?_
          refine g_callPS (As := [.int (iI (sgF (G (k + 15 + 1)) (G (k + 15 + 2)) i)), .int (iI (sgF (G (k + 18 + 1)) (G (k + 18 + 2)) i))]) (st := []) ok (c_Ma_max F1 G1 _ _ (by omega) (by omega) s0 a0 D t ad) k_414 k_18 k_538 k_413 q_Ma_max (by decide) (Nat.le_of_ble_eq_true rfl) (by decide) d_Rt_tellSatin_66 (fun z6 hc6 => ?_)
          subst hc6
          refine g_istore (lv' := [(7, .int (iI (max (sgF (G (k + 15 + 1)) (G (k + 15 + 2)) i) (sgF (G (k + 18 + 1)) (G (k + 18 + 2)) i)))), (0, .ref (ad 230)), (1, .ref (ad k)), (2, .ref (ad q)), (3, .ref (ad (k + 15))), (4, .ref (ad (k + 18))), (5, .int (iI (F (k + 15) 2))), (6, .int (iI i))]) ok d_Rt_tellSatin_69 (by decide) rfl ?_
          refine g_iconst ok d_Rt_tellSatin_71 ?_
          refine g_iload ok d_Rt_tellSatin_72 0 rfl ?_
          refine g_aload_n ok d_Rt_tellSatin_74 rfl 2 rfl ?_
          refine gN_Sh_spacing ok _ hK k_103 d_Rt_tellSatin_75 ?_
          refine g_top (y := F k 5) (by show F1 k 5 = _; rw [tkAt_F hA hR1.2.2.1 k 5 (by omega) (by omega)]) ?_
          refine g_iadd ok d_Rt_tellSatin_78 ?_
          refine g_iconst ok d_Rt_tellSatin_79 ?_
          refine g_isub ok d_Rt_tellSatin_80 ?_
          refine g_aload_n ok d_Rt_tellSatin_81 rfl 2 rfl ?_
          refine gN_Sh_spacing ok _ hK k_103 d_Rt_tellSatin_82 ?_
          refine g_top (y := F k 5) (by show F1 k 5 = _; rw [tkAt_F hA hR1.2.2.1 k 5 (by omega) (by omega)]) ?_
          refine g_idiv (z := (((max (sgF (G (k + 15 + 1)) (G (k + 15 + 2)) i) (sgF (G (k + 18 + 1)) (G (k + 18 + 2)) i)) + (F k 5)) - 1) / F k 5) ok (iI_ne0 (by omega)) (iI_divN (by omega) (by omega)) d_Rt_tellSatin_85 ?_
          refine g_callPS (As := [.int (iI 1), .int (iI ((((max (sgF (G (k + 15 + 1)) (G (k + 15 + 2)) i) (sgF (G (k + 18 + 1)) (G (k + 18 + 2)) i)) + (F k 5)) - 1) / F k 5))]) (st := []) ok (c_Ma_max F1 G1 _ _ (by omega) (by omega) s0 a0 D t ad) k_414 k_18 k_538 k_413 q_Ma_max (by decide) (Nat.le_of_ble_eq_true rfl) (by decide) d_Rt_tellSatin_86 (fun z7 hc7 => ?_)
          subst hc7
          refine g_top (y := sgM (G (k + 15 + 1)) (G (k + 15 + 2)) (G (k + 18 + 1)) (G (k + 18 + 2)) (F k 5) i) rfl ?_
          refine g_istore (lv' := [(8, .int (iI (sgM (G (k + 15 + 1)) (G (k + 15 + 2)) (G (k + 18 + 1)) (G (k + 18 + 2)) (F k 5) i))), (7, .int (iI (max (sgF (G (k + 15 + 1)) (G (k + 15 + 2)) i) (sgF (G (k + 18 + 1)) (G (k + 18 + 2)) i)))), (0, .ref (ad 230)), (1, .ref (ad k)), (2, .ref (ad q)), (3, .ref (ad (k + 15))), (4, .ref (ad (k + 18))), (5, .int (iI (F (k + 15) 2))), (6, .int (iI i))]) ok d_Rt_tellSatin_89 (by decide) rfl ?_
          refine g_iconst ok d_Rt_tellSatin_91 ?_
          refine g_istore (lv' := [(9, .int (iI 0)), (8, .int (iI (sgM (G (k + 15 + 1)) (G (k + 15 + 2)) (G (k + 18 + 1)) (G (k + 18 + 2)) (F k 5) i))), (7, .int (iI (max (sgF (G (k + 15 + 1)) (G (k + 15 + 2)) i) (sgF (G (k + 18 + 1)) (G (k + 18 + 2)) i)))), (0, .ref (ad 230)), (1, .ref (ad k)), (2, .ref (ad q)), (3, .ref (ad (k + 15))), (4, .ref (ad (k + 18))), (5, .int (iI (F (k + 15) 2))), (6, .int (iI i))]) ok d_Rt_tellSatin_92 (by decide) rfl ?_
          have L_j : ∀ (n_j : Nat) (j : Int) (F2 : Nat → Nat → Int) (G2 : Nat → Int → Int), (0 ≤ j ∧ j ≤ sgM (G (k + 15 + 1)) (G (k + 15 + 2)) (G (k + 18 + 1)) (G (k + 18 + 2)) (F k 5) i) → (tkR q k F G S F2 G2 (satP (G (k + 15 + 1)) (G (k + 15 + 2)) (G (k + 18 + 1)) (G (k + 18 + 2)) (F k 5) i.toNat ++ sgE (G (k + 15 + 1)) (G (k + 15 + 2)) (G (k + 18 + 1)) (G (k + 18 + 2)) i (sgM (G (k + 15 + 1)) (G (k + 15 + 2)) (G (k + 18 + 1)) (G (k + 18 + 2)) (F k 5) i) j.toNat) (decide (i = 0 ∧ j = 0))) → (sgM (G (k + 15 + 1)) (G (k + 15 + 2)) (G (k + 18 + 1)) (G (k + 18 + 2)) (F k 5) i + 1 - j) < (n_j : Int) → gW p l e R s m args below meth c (MQ below (gQv D A ad 265 (fun ce' => ∃ F' G', ce' = mem ad t F' G' ∧ (fun F' G' => ∃ p1 : Bool, (q ≠ 235 → p1 = false) ∧ tkR q k F G S F' G' (satE (G (k + 15 + 1)) (G (k + 15 + 2)) (G (k + 18 + 1)) (G (k + 18 + 2)) (F k 5) (F (k + 15) 2)) p1) F' G')) args s 0 0 A) D A 10 (gZ) 0 0 ad 265 (mem ad t F2 G2) 94 [(0, .ref (ad 230)), (1, .ref (ad k)), (2, .ref (ad q)), (3, .ref (ad (k + 15))), (4, .ref (ad (k + 18))), (5, .int (iI (F (k + 15) 2))), (6, .int (iI i)), (7, .int (iI (max (sgF (G (k + 15 + 1)) (G (k + 15 + 2)) i) (sgF (G (k + 18 + 1)) (G (k + 18 + 2)) i)))), (8, .int (iI (sgM (G (k + 15 + 1)) (G (k + 15 + 2)) (G (k + 18 + 1)) (G (k + 18 + 2)) (F k 5) i))), (9, .int (iI j))] [] := by
            intro n_j
            induction n_j with
            | zero =>
              intro j F2 G2 hj hR2 hm_j
              exact absurd hm_j (by omega)
            | succ n_j ih_j =>
              intro j F2 G2 hj hR2 hm_j
              refine g_iload ok d_Rt_tellSatin_94 9 rfl ?_
              refine g_iload ok d_Rt_tellSatin_96 8 rfl ?_
              refine g_icmp_ge ok 173 d_Rt_tellSatin_98 (by decide) (by omega) (by omega) (fun h8 => ?_) (fun h8 => ?_)
              · refine g_iinc (lv' := [(6, .int (iI (i + 1))), (0, .ref (ad 230)), (1, .ref (ad k)), (2, .ref (ad q)), (3, .ref (ad (k + 15))), (4, .ref (ad (k + 18))), (5, .int (iI (F (k + 15) 2))), (7, .int (iI (max (sgF (G (k + 15 + 1)) (G (k + 15 + 2)) i) (sgF (G (k + 18 + 1)) (G (k + 18 + 2)) i)))), (8, .int (iI (sgM (G (k + 15 + 1)) (G (k + 15 + 2)) (G (k + 18 + 1)) (G (k + 18 + 2)) (F k 5) i))), (9, .int (iI j))]) ok d_Rt_tellSatin_173 6 rfl (by decide) rfl ?_
                refine g_goto ok 44 d_Rt_tellSatin_176 (by decide) ?_
                refine g_lv [1, 2, 3, 4, 5, 6, 0] rfl ?_
                exact ih_i (i + 1) F2 G2 (by omega) (by rw [satP_step hi.1, show decide (i + 1 = 0) = false from decide_eq_false (by omega)]; rw [show j = sgM (G (k + 15 + 1)) (G (k + 15 + 2)) (G (k + 18 + 1)) (G (k + 18 + 2)) (F k 5) i by omega, show decide (i = 0 ∧ sgM (G (k + 15 + 1)) (G (k + 15 + 2)) (G (k + 18 + 1)) (G (k + 18 + 2)) (F k 5) i = 0) = false from decide_eq_false (by omega)] at hR2; exact hR2) (by omega)
              · refine g_aload_n ok d_Rt_tellSatin_101 rfl 2 rfl ?_
                refine g_aload_n ok d_Rt_tellSatin_102 rfl 3 rfl ?_
                refine gN_Rg_xs ok _ r15 k_45 d_Rt_tellSatin_103 ?_
                refine g_iload ok d_Rt_tellSatin_106 6 rfl ?_
                refine g_iload ok d_Rt_tellSatin_108 9 rfl ?_
                refine g_iload ok d_Rt_tellSatin_110 8 rfl ?_
                have ez107 : G2 ((k + 15) + 1) = G ((k + 15) + 1) := tkAt_G hA hR2.2.2.2 _ (by omega) (by omega)
                refine g_callPS (As := [.ref (ad ((k + 15) + 1)), .int (iI i), .int (iI j), .int (iI (sgM (G (k + 15 + 1)) (G (k + 15 + 2)) (G (k + 18 + 1)) (G (k + 18 + 2)) (F k 5) i))]) (st := [.ref (ad q)]) ok (c_Rt_pointOf F2 G2 _ 16 x15 _ _ _ (by omega) (by decide) (by rw [ez107]; omega) (by rw [ez107]; omega) (by omega) (by omega) s0 a0 D t ad) k_541 k_6 k_539 k_540 q_Rt_pointOf (by decide) (Nat.le_of_ble_eq_true rfl) (by decide) d_Rt_tellSatin_112 (fun z9 hc9 => ?_)
                subst hc9
                refine g_top (y := al (G (k + 15 + 1) i) (G (k + 15 + 1) (i + 1)) j (sgM (G (k + 15 + 1)) (G (k + 15 + 2)) (G (k + 18 + 1)) (G (k + 18 + 2)) (F k 5) i)) (by rw [ez107]) ?_
                refine g_aload_n ok d_Rt_tellSatin_115 rfl 3 rfl ?_
                refine gN_Rg_ys ok _ r15 k_50 d_Rt_tellSatin_116 ?_
                refine g_iload ok d_Rt_tellSatin_119 6 rfl ?_
                refine g_iload ok d_Rt_tellSatin_121 9 rfl ?_
                refine g_iload ok d_Rt_tellSatin_123 8 rfl ?_
                have ez108 : G2 ((k + 15) + 2) = G ((k + 15) + 2) := tkAt_G hA hR2.2.2.2 _ (by omega) (by omega)
                refine g_callPS (As := [.ref (ad ((k + 15) + 2)), .int (iI i), .int (iI j), .int (iI (sgM (G (k + 15 + 1)) (G (k + 15 + 2)) (G (k + 18 + 1)) (G (k + 18 + 2)) (F k 5) i))]) (st := [.int (iI (al (G (k + 15 + 1) i) (G (k + 15 + 1) (i + 1)) j (sgM (G (k + 15 + 1)) (G (k + 15 + 2)) (G (k + 18 + 1)) (G (k + 18 + 2)) (F k 5) i))), .ref (ad q)]) ok (c_Rt_pointOf F2 G2 _ 16 y15 _ _ _ (by omega) (by decide) (by rw [ez108]; omega) (by rw [ez108]; omega) (by omega) (by omega) s0 a0 D t ad) k_541 k_6 k_539 k_540 q_Rt_pointOf (by decide) (Nat.le_of_ble_eq_true rfl) (by decide) d_Rt_tellSatin_125 (fun z10 hc10 => ?_)
                subst hc10
                refine g_top (y := al (G (k + 15 + 2) i) (G (k + 15 + 2) (i + 1)) j (sgM (G (k + 15 + 1)) (G (k + 15 + 2)) (G (k + 18 + 1)) (G (k + 18 + 2)) (F k 5) i)) (by rw [ez108]) ?_
                refine g_tkT (x := al (G (k + 15 + 1) i) (G (k + 15 + 1) (i + 1)) j (sgM (G (k + 15 + 1)) (G (k + 15 + 2)) (G (k + 18 + 1)) (G (k + 18 + 2)) (F k 5) i)) (y := al (G (k + 15 + 2) i) (G (k + 15 + 2) (i + 1)) j (sgM (G (k + 15 + 1)) (G (k + 15 + 2)) (G (k + 18 + 1)) (G (k + 18 + 2)) (F k 5) i)) (st := []) ok hA hR2 (⟨al_rng (by omega) (by omega) (by omega), al_rng (by omega) (by omega) (by omega)⟩) (by decide) (Nat.le_of_ble_eq_true rfl) d_Rt_tellSatin_128 (fun F109 G109 hR109 hL109 => ?_)
                refine g_aload_n ok d_Rt_tellSatin_133 rfl 2 rfl ?_
                refine g_aload ok d_Rt_tellSatin_134 4 rfl ?_
                refine gN_Rg_xs ok _ r18 k_45 d_Rt_tellSatin_136 ?_
                refine g_iload ok d_Rt_tellSatin_139 6 rfl ?_
                refine g_iload ok d_Rt_tellSatin_141 9 rfl ?_
                refine g_iload ok d_Rt_tellSatin_143 8 rfl ?_
                have ez110 : G109 ((k + 18) + 1) = G ((k + 18) + 1) := tkAt_G hA hR109.2.2.2 _ (by omega) (by omega)
                refine g_callPS (As := [.ref (ad ((k + 18) + 1)), .int (iI i), .int (iI j), .int (iI (sgM (G (k + 15 + 1)) (G (k + 15 + 2)) (G (k + 18 + 1)) (G (k + 18 + 2)) (F k 5) i))]) (st := [.ref (ad q)]) ok (c_Rt_pointOf F109 G109 _ 16 x18 _ _ _ (by omega) (by decide) (by rw [ez110]; omega) (by rw [ez110]; omega) (by omega) (by omega) s0 a0 D t ad) k_541 k_6 k_539 k_540 q_Rt_pointOf (by decide) (Nat.le_of_ble_eq_true rfl) (by decide) d_Rt_tellSatin_145 (fun z11 hc11 => ?_)
                subst hc11
                refine g_top (y := al (G (k + 18 + 1) i) (G (k + 18 + 1) (i + 1)) j (sgM (G (k + 15 + 1)) (G (k + 15 + 2)) (G (k + 18 + 1)) (G (k + 18 + 2)) (F k 5) i)) (by rw [ez110]) ?_
                refine g_aload ok d_Rt_tellSatin_148 4 rfl ?_
                refine gN_Rg_ys ok _ r18 k_50 d_Rt_tellSatin_150 ?_
                refine g_iload ok d_Rt_tellSatin_153 6 rfl ?_
                refine g_iload ok d_Rt_tellSatin_155 9 rfl ?_
                refine g_iload ok d_Rt_tellSatin_157 8 rfl ?_
                have ez111 : G109 ((k + 18) + 2) = G ((k + 18) + 2) := tkAt_G hA hR109.2.2.2 _ (by omega) (by omega)
                refine g_callPS (As := [.ref (ad ((k + 18) + 2)), .int (iI i), .int (iI j), .int (iI (sgM (G (k + 15 + 1)) (G (k + 15 + 2)) (G (k + 18 + 1)) (G (k + 18 + 2)) (F k 5) i))]) (st := [.int (iI (al (G (k + 18 + 1) i) (G (k + 18 + 1) (i + 1)) j (sgM (G (k + 15 + 1)) (G (k + 15 + 2)) (G (k + 18 + 1)) (G (k + 18 + 2)) (F k 5) i))), .ref (ad q)]) ok (c_Rt_pointOf F109 G109 _ 16 y18 _ _ _ (by omega) (by decide) (by rw [ez111]; omega) (by rw [ez111]; omega) (by omega) (by omega) s0 a0 D t ad) k_541 k_6 k_539 k_540 q_Rt_pointOf (by decide) (Nat.le_of_ble_eq_true rfl) (by decide) d_Rt_tellSatin_159 (fun z12 hc12 => ?_)
                subst hc12
                refine g_top (y := al (G (k + 18 + 2) i) (G (k + 18 + 2) (i + 1)) j (sgM (G (k + 15 + 1)) (G (k + 15 + 2)) (G (k + 18 + 1)) (G (k + 18 + 2)) (F k 5) i)) (by rw [ez111]) ?_
                refine g_tkT (x := al (G (k + 18 + 1) i) (G (k + 18 + 1) (i + 1)) j (sgM (G (k + 15 + 1)) (G (k + 15 + 2)) (G (k + 18 + 1)) (G (k + 18 + 2)) (F k 5) i)) (y := al (G (k + 18 + 2) i) (G (k + 18 + 2) (i + 1)) j (sgM (G (k + 15 + 1)) (G (k + 15 + 2)) (G (k + 18 + 1)) (G (k + 18 + 2)) (F k 5) i)) (st := []) ok hA hR109 (⟨al_rng (by omega) (by omega) (by omega), al_rng (by omega) (by omega) (by omega)⟩) (by decide) (Nat.le_of_ble_eq_true rfl) d_Rt_tellSatin_162 (fun F112 G112 hR112 hL112 => ?_)
                refine g_iinc (lv' := [(9, .int (iI (j + 1))), (0, .ref (ad 230)), (1, .ref (ad k)), (2, .ref (ad q)), (3, .ref (ad (k + 15))), (4, .ref (ad (k + 18))), (5, .int (iI (F (k + 15) 2))), (6, .int (iI i)), (7, .int (iI (max (sgF (G (k + 15 + 1)) (G (k + 15 + 2)) i) (sgF (G (k + 18 + 1)) (G (k + 18 + 2)) i)))), (8, .int (iI (sgM (G (k + 15 + 1)) (G (k + 15 + 2)) (G (k + 18 + 1)) (G (k + 18 + 2)) (F k 5) i)))]) ok d_Rt_tellSatin_167 9 rfl (by decide) rfl ?_
                refine g_goto ok 94 d_Rt_tellSatin_170 (by decide) ?_
                refine g_lv [1, 2, 3, 4, 5, 6, 7, 8, 9, 0] rfl ?_
                exact ih_j (j + 1) F112 G112 (by omega) (by rw [sgE_step hj.1, show decide (i = 0 ∧ j + 1 = 0) = false from decide_eq_false (by omega), ← List.append_assoc, ← List.append_assoc]; exact hR112) (by omega)
          refine g_z ?_
          refine g_lv [3, 4, 5, 6, 7, 8, 9, 2, 1, 0] rfl ?_
          exact L_j ((sgM (G (k + 15 + 1)) (G (k + 15 + 2)) (G (k + 18 + 1)) (G (k + 18 + 2)) (F k 5) i + 1 - 0 : Int).toNat + 1) 0 F1 G1 (by omega) (by show tkR q k F G S _ _ (_ ++ []) _; rw [List.append_nil, show decide (i = 0 ∧ (0 : Int) = 0) = decide (i = 0) from decide_eq_decide.mpr ⟨fun h => h.1, fun h => ⟨h, rfl⟩⟩]; exact hR1) (by omega)
    refine g_z ?_
    refine g_lv [4, 5, 6, 3, 2, 1, 0] rfl ?_
    exact L_i ((F (k + 15) 2 + 1 - 0 : Int).toNat + 1) 0 F104 G104 (by omega) (hR104) (by omega)
  · exact absurd h2 (by omega)
theorem d_Rt_leastF_0 : decode b_Rt_leastF 0 = .ok (.aload_n 0, 1) := by decide +kernel
theorem d_Rt_leastF_1 : decode b_Rt_leastF 1 = .ok (.getfield 119, 3) := by decide +kernel
theorem d_Rt_leastF_4 : decode b_Rt_leastF 4 = .ok (.tableswitch 48 0 2 #[28, 33, 38], 28) := by decide +kernel
theorem d_Rt_leastF_32 : decode b_Rt_leastF 32 = .ok (.aload_n 0, 1) := by decide +kernel
theorem d_Rt_leastF_33 : decode b_Rt_leastF 33 = .ok (.getfield 122, 3) := by decide +kernel
theorem d_Rt_leastF_36 : decode b_Rt_leastF 36 = .ok (.ireturn, 1) := by decide +kernel
theorem d_Rt_leastF_37 : decode b_Rt_leastF 37 = .ok (.aload_n 0, 1) := by decide +kernel
theorem d_Rt_leastF_38 : decode b_Rt_leastF 38 = .ok (.getfield 125, 3) := by decide +kernel
theorem d_Rt_leastF_41 : decode b_Rt_leastF 41 = .ok (.ireturn, 1) := by decide +kernel
theorem d_Rt_leastF_42 : decode b_Rt_leastF 42 = .ok (.aload_n 0, 1) := by decide +kernel
theorem d_Rt_leastF_43 : decode b_Rt_leastF 43 = .ok (.getfield 125, 3) := by decide +kernel
theorem d_Rt_leastF_46 : decode b_Rt_leastF 46 = .ok (.aload_n 0, 1) := by decide +kernel
theorem d_Rt_leastF_47 : decode b_Rt_leastF 47 = .ok (.getfield 122, 3) := by decide +kernel
theorem d_Rt_leastF_50 : decode b_Rt_leastF 50 = .ok (.iadd, 1) := by decide +kernel
theorem d_Rt_leastF_51 : decode b_Rt_leastF 51 = .ok (.ireturn, 1) := by decide +kernel
theorem d_Rt_leastF_52 : decode b_Rt_leastF 52 = .ok (.aload_n 0, 1) := by decide +kernel
theorem d_Rt_leastF_53 : decode b_Rt_leastF 53 = .ok (.getfield 122, 3) := by decide +kernel
theorem d_Rt_leastF_56 : decode b_Rt_leastF 56 = .ok (.aload_n 0, 1) := by decide +kernel
theorem d_Rt_leastF_57 : decode b_Rt_leastF 57 = .ok (.getfield 128, 3) := by decide +kernel
theorem d_Rt_leastF_60 : decode b_Rt_leastF 60 = .ok (.isub, 1) := by decide +kernel
theorem d_Rt_leastF_61 : decode b_Rt_leastF 61 = .ok (.ireturn, 1) := by decide +kernel
set_option maxHeartbeats 1000000 in
set_option maxRecDepth 100000 in
theorem c_Rt_leastF (F : Nat → Nat → Int) (G : Nat → Int → Int) (k : Nat) (hK : isSh k) (hd : 0 ≤ F k 6 ∧ F k 6 ≤ 3) : cP y_Rt_leastF b_Rt_leastF 1 (some .int) 0 0 F G (fun ad => [.ref (ad k)]) (fun r => r = if F k 6 = 0 then F k 8 else if F k 6 = 1 then F k 7 else if F k 6 = 2 then F k 7 + F k 8 else F k 8 - F k 9) := by
  intro s0 a0 D t ad
  refine g_startP (by decide +kernel) (Nat.le_of_ble_eq_true rfl) (fun p l e R s m args below meth c A ok => ?_)
  show gW p l e R s m args below meth c _ D A 1 (gZ0 s) 0 0 ad 265 (mem ad t F G) 0 [(0, .ref (ad k))] []
  refine g_aload_n ok d_Rt_leastF_0 rfl 0 rfl ?_
  refine gN_Sh_direction ok _ hK k_108 d_Rt_leastF_1 ?_
  rcases (show (F k 6) = 0 ∨ (F k 6) = 1 ∨ (F k 6) = 2 ∨ (F k 6 < 0 ∨ 2 < F k 6) by omega) with hw1 | hw1 | hw1 | hw1
  · refine g_tabIn ok (by omega) d_Rt_leastF_4 (by omega) (off := 28) (by rw [hw1]; rfl) 32 (by decide) ?_
    refine g_aload_n ok d_Rt_leastF_32 rfl 0 rfl ?_
    refine gN_Sh_top ok _ hK k_116 d_Rt_leastF_33 ?_
    exact g_ipret ok d_Rt_leastF_36 (by show _ = (if F k 6 = 0 then F k 8 else if F k 6 = 1 then F k 7 else if F k 6 = 2 then F k 7 + F k 8 else F k 8 - F k 9); first | rw [if_pos (by omega)] | rw [if_neg (by omega), if_pos (by omega)] | rw [if_neg (by omega), if_neg (by omega), if_pos (by omega)] | rw [if_neg (by omega), if_neg (by omega), if_neg (by omega)])
  · refine g_tabIn ok (by omega) d_Rt_leastF_4 (by omega) (off := 33) (by rw [hw1]; rfl) 37 (by decide) ?_
    refine g_aload_n ok d_Rt_leastF_37 rfl 0 rfl ?_
    refine gN_Sh_left ok _ hK k_112 d_Rt_leastF_38 ?_
    exact g_ipret ok d_Rt_leastF_41 (by show _ = (if F k 6 = 0 then F k 8 else if F k 6 = 1 then F k 7 else if F k 6 = 2 then F k 7 + F k 8 else F k 8 - F k 9); first | rw [if_pos (by omega)] | rw [if_neg (by omega), if_pos (by omega)] | rw [if_neg (by omega), if_neg (by omega), if_pos (by omega)] | rw [if_neg (by omega), if_neg (by omega), if_neg (by omega)])
  · refine g_tabIn ok (by omega) d_Rt_leastF_4 (by omega) (off := 38) (by rw [hw1]; rfl) 42 (by decide) ?_
    refine g_aload_n ok d_Rt_leastF_42 rfl 0 rfl ?_
    refine gN_Sh_left ok _ hK k_112 d_Rt_leastF_43 ?_
    refine g_aload_n ok d_Rt_leastF_46 rfl 0 rfl ?_
    refine gN_Sh_top ok _ hK k_116 d_Rt_leastF_47 ?_
    refine g_iadd ok d_Rt_leastF_50 ?_
    exact g_ipret ok d_Rt_leastF_51 (by show _ = (if F k 6 = 0 then F k 8 else if F k 6 = 1 then F k 7 else if F k 6 = 2 then F k 7 + F k 8 else F k 8 - F k 9); first | rw [if_pos (by omega)] | rw [if_neg (by omega), if_pos (by omega)] | rw [if_neg (by omega), if_neg (by omega), if_pos (by omega)] | rw [if_neg (by omega), if_neg (by omega), if_neg (by omega)])
  · refine g_tabOut ok (by omega) d_Rt_leastF_4 (by omega) 52 (by decide) ?_
    refine g_aload_n ok d_Rt_leastF_52 rfl 0 rfl ?_
    refine gN_Sh_top ok _ hK k_116 d_Rt_leastF_53 ?_
    refine g_aload_n ok d_Rt_leastF_56 rfl 0 rfl ?_
    refine gN_Sh_right ok _ hK k_120 d_Rt_leastF_57 ?_
    refine g_isub ok d_Rt_leastF_60 ?_
    exact g_ipret ok d_Rt_leastF_61 (by show _ = (if F k 6 = 0 then F k 8 else if F k 6 = 1 then F k 7 else if F k 6 = 2 then F k 7 + F k 8 else F k 8 - F k 9); first | rw [if_pos (by omega)] | rw [if_neg (by omega), if_pos (by omega)] | rw [if_neg (by omega), if_neg (by omega), if_pos (by omega)] | rw [if_neg (by omega), if_neg (by omega), if_neg (by omega)])
theorem d_Rt_greatestF_0 : decode b_Rt_greatestF 0 = .ok (.aload_n 0, 1) := by decide +kernel
theorem d_Rt_greatestF_1 : decode b_Rt_greatestF 1 = .ok (.getfield 119, 3) := by decide +kernel
theorem d_Rt_greatestF_4 : decode b_Rt_greatestF 4 = .ok (.tableswitch 48 0 2 #[28, 33, 38], 28) := by decide +kernel
theorem d_Rt_greatestF_32 : decode b_Rt_greatestF 32 = .ok (.aload_n 0, 1) := by decide +kernel
theorem d_Rt_greatestF_33 : decode b_Rt_greatestF 33 = .ok (.getfield 131, 3) := by decide +kernel
theorem d_Rt_greatestF_36 : decode b_Rt_greatestF 36 = .ok (.ireturn, 1) := by decide +kernel
theorem d_Rt_greatestF_37 : decode b_Rt_greatestF 37 = .ok (.aload_n 0, 1) := by decide +kernel
theorem d_Rt_greatestF_38 : decode b_Rt_greatestF 38 = .ok (.getfield 128, 3) := by decide +kernel
theorem d_Rt_greatestF_41 : decode b_Rt_greatestF 41 = .ok (.ireturn, 1) := by decide +kernel
theorem d_Rt_greatestF_42 : decode b_Rt_greatestF 42 = .ok (.aload_n 0, 1) := by decide +kernel
theorem d_Rt_greatestF_43 : decode b_Rt_greatestF 43 = .ok (.getfield 128, 3) := by decide +kernel
theorem d_Rt_greatestF_46 : decode b_Rt_greatestF 46 = .ok (.aload_n 0, 1) := by decide +kernel
theorem d_Rt_greatestF_47 : decode b_Rt_greatestF 47 = .ok (.getfield 131, 3) := by decide +kernel
theorem d_Rt_greatestF_50 : decode b_Rt_greatestF 50 = .ok (.iadd, 1) := by decide +kernel
theorem d_Rt_greatestF_51 : decode b_Rt_greatestF 51 = .ok (.ireturn, 1) := by decide +kernel
theorem d_Rt_greatestF_52 : decode b_Rt_greatestF 52 = .ok (.aload_n 0, 1) := by decide +kernel
theorem d_Rt_greatestF_53 : decode b_Rt_greatestF 53 = .ok (.getfield 131, 3) := by decide +kernel
theorem d_Rt_greatestF_56 : decode b_Rt_greatestF 56 = .ok (.aload_n 0, 1) := by decide +kernel
theorem d_Rt_greatestF_57 : decode b_Rt_greatestF 57 = .ok (.getfield 125, 3) := by decide +kernel
theorem d_Rt_greatestF_60 : decode b_Rt_greatestF 60 = .ok (.isub, 1) := by decide +kernel
theorem d_Rt_greatestF_61 : decode b_Rt_greatestF 61 = .ok (.ireturn, 1) := by decide +kernel
set_option maxHeartbeats 1000000 in
set_option maxRecDepth 100000 in
theorem c_Rt_greatestF (F : Nat → Nat → Int) (G : Nat → Int → Int) (k : Nat) (hK : isSh k) (hd : 0 ≤ F k 6 ∧ F k 6 ≤ 3) : cP y_Rt_greatestF b_Rt_greatestF 1 (some .int) 0 0 F G (fun ad => [.ref (ad k)]) (fun r => r = if F k 6 = 0 then F k 10 else if F k 6 = 1 then F k 9 else if F k 6 = 2 then F k 9 + F k 10 else F k 10 - F k 7) := by
  intro s0 a0 D t ad
  refine g_startP (by decide +kernel) (Nat.le_of_ble_eq_true rfl) (fun p l e R s m args below meth c A ok => ?_)
  show gW p l e R s m args below meth c _ D A 1 (gZ0 s) 0 0 ad 265 (mem ad t F G) 0 [(0, .ref (ad k))] []
  refine g_aload_n ok d_Rt_greatestF_0 rfl 0 rfl ?_
  refine gN_Sh_direction ok _ hK k_108 d_Rt_greatestF_1 ?_
  rcases (show (F k 6) = 0 ∨ (F k 6) = 1 ∨ (F k 6) = 2 ∨ (F k 6 < 0 ∨ 2 < F k 6) by omega) with hw1 | hw1 | hw1 | hw1
  · refine g_tabIn ok (by omega) d_Rt_greatestF_4 (by omega) (off := 28) (by rw [hw1]; rfl) 32 (by decide) ?_
    refine g_aload_n ok d_Rt_greatestF_32 rfl 0 rfl ?_
    refine gN_Sh_bottom ok _ hK k_124 d_Rt_greatestF_33 ?_
    exact g_ipret ok d_Rt_greatestF_36 (by show _ = (if F k 6 = 0 then F k 10 else if F k 6 = 1 then F k 9 else if F k 6 = 2 then F k 9 + F k 10 else F k 10 - F k 7); first | rw [if_pos (by omega)] | rw [if_neg (by omega), if_pos (by omega)] | rw [if_neg (by omega), if_neg (by omega), if_pos (by omega)] | rw [if_neg (by omega), if_neg (by omega), if_neg (by omega)])
  · refine g_tabIn ok (by omega) d_Rt_greatestF_4 (by omega) (off := 33) (by rw [hw1]; rfl) 37 (by decide) ?_
    refine g_aload_n ok d_Rt_greatestF_37 rfl 0 rfl ?_
    refine gN_Sh_right ok _ hK k_120 d_Rt_greatestF_38 ?_
    exact g_ipret ok d_Rt_greatestF_41 (by show _ = (if F k 6 = 0 then F k 10 else if F k 6 = 1 then F k 9 else if F k 6 = 2 then F k 9 + F k 10 else F k 10 - F k 7); first | rw [if_pos (by omega)] | rw [if_neg (by omega), if_pos (by omega)] | rw [if_neg (by omega), if_neg (by omega), if_pos (by omega)] | rw [if_neg (by omega), if_neg (by omega), if_neg (by omega)])
  · refine g_tabIn ok (by omega) d_Rt_greatestF_4 (by omega) (off := 38) (by rw [hw1]; rfl) 42 (by decide) ?_
    refine g_aload_n ok d_Rt_greatestF_42 rfl 0 rfl ?_
    refine gN_Sh_right ok _ hK k_120 d_Rt_greatestF_43 ?_
    refine g_aload_n ok d_Rt_greatestF_46 rfl 0 rfl ?_
    refine gN_Sh_bottom ok _ hK k_124 d_Rt_greatestF_47 ?_
    refine g_iadd ok d_Rt_greatestF_50 ?_
    exact g_ipret ok d_Rt_greatestF_51 (by show _ = (if F k 6 = 0 then F k 10 else if F k 6 = 1 then F k 9 else if F k 6 = 2 then F k 9 + F k 10 else F k 10 - F k 7); first | rw [if_pos (by omega)] | rw [if_neg (by omega), if_pos (by omega)] | rw [if_neg (by omega), if_neg (by omega), if_pos (by omega)] | rw [if_neg (by omega), if_neg (by omega), if_neg (by omega)])
  · refine g_tabOut ok (by omega) d_Rt_greatestF_4 (by omega) 52 (by decide) ?_
    refine g_aload_n ok d_Rt_greatestF_52 rfl 0 rfl ?_
    refine gN_Sh_bottom ok _ hK k_124 d_Rt_greatestF_53 ?_
    refine g_aload_n ok d_Rt_greatestF_56 rfl 0 rfl ?_
    refine gN_Sh_left ok _ hK k_112 d_Rt_greatestF_57 ?_
    refine g_isub ok d_Rt_greatestF_60 ?_
    exact g_ipret ok d_Rt_greatestF_61 (by show _ = (if F k 6 = 0 then F k 10 else if F k 6 = 1 then F k 9 else if F k 6 = 2 then F k 9 + F k 10 else F k 10 - F k 7); first | rw [if_pos (by omega)] | rw [if_neg (by omega), if_pos (by omega)] | rw [if_neg (by omega), if_neg (by omega), if_pos (by omega)] | rw [if_neg (by omega), if_neg (by omega), if_neg (by omega)])
