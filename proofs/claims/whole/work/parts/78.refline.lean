/-! a shape's runs, by its fill -/
noncomputable def runsC (F : Nat → Nat → Int) (G : Nat → Int → Int) (k : Nat) : List Ev := if F k 4 = 0 then hatE (hasC F G k) (F k 6) (F k 5) (lwF F k) (hgF F k) else if F k 4 = 1 then satE (G (k + 15 + 1)) (G (k + 15 + 2)) (G (k + 18 + 1)) (G (k + 18 + 2)) (F k 5) (F (k + 15) 2) else outE F G k 4
theorem d_Rt_tell_0 : decode b_Rt_tell 0 = .ok (.aload_n 1, 1) := by decide +kernel
theorem d_Rt_tell_1 : decode b_Rt_tell 1 = .ok (.getfield 18, 3) := by decide +kernel
theorem d_Rt_tell_4 : decode b_Rt_tell 4 = .ok (.ifCond .ne 12, 3) := by decide +kernel
theorem d_Rt_tell_7 : decode b_Rt_tell 7 = .ok (.aload_n 0, 1) := by decide +kernel
theorem d_Rt_tell_8 : decode b_Rt_tell 8 = .ok (.aload_n 1, 1) := by decide +kernel
theorem d_Rt_tell_9 : decode b_Rt_tell 9 = .ok (.aload_n 2, 1) := by decide +kernel
theorem d_Rt_tell_10 : decode b_Rt_tell 10 = .ok (.invokevirtual 24, 3) := by decide +kernel
theorem d_Rt_tell_13 : decode b_Rt_tell 13 = .ok (.goto 26, 3) := by decide +kernel
theorem d_Rt_tell_16 : decode b_Rt_tell 16 = .ok (.aload_n 1, 1) := by decide +kernel
theorem d_Rt_tell_17 : decode b_Rt_tell 17 = .ok (.getfield 18, 3) := by decide +kernel
theorem d_Rt_tell_20 : decode b_Rt_tell 20 = .ok (.iconst 1, 1) := by decide +kernel
theorem d_Rt_tell_21 : decode b_Rt_tell 21 = .ok (.if_icmp .ne 12, 3) := by decide +kernel
theorem d_Rt_tell_24 : decode b_Rt_tell 24 = .ok (.aload_n 0, 1) := by decide +kernel
theorem d_Rt_tell_25 : decode b_Rt_tell 25 = .ok (.aload_n 1, 1) := by decide +kernel
theorem d_Rt_tell_26 : decode b_Rt_tell 26 = .ok (.aload_n 2, 1) := by decide +kernel
theorem d_Rt_tell_27 : decode b_Rt_tell 27 = .ok (.invokevirtual 28, 3) := by decide +kernel
theorem d_Rt_tell_30 : decode b_Rt_tell 30 = .ok (.goto 9, 3) := by decide +kernel
theorem d_Rt_tell_33 : decode b_Rt_tell 33 = .ok (.aload_n 0, 1) := by decide +kernel
theorem d_Rt_tell_34 : decode b_Rt_tell 34 = .ok (.aload_n 1, 1) := by decide +kernel
theorem d_Rt_tell_35 : decode b_Rt_tell 35 = .ok (.aload_n 2, 1) := by decide +kernel
theorem d_Rt_tell_36 : decode b_Rt_tell 36 = .ok (.invokevirtual 31, 3) := by decide +kernel
theorem d_Rt_tell_39 : decode b_Rt_tell 39 = .ok (.return_, 1) := by decide +kernel
set_option maxHeartbeats 1000000 in
set_option maxRecDepth 100000 in
theorem c_Rt_tell (F : Nat → Nat → Int) (G : Nat → Int → Int) (q k : Nat) (S : PS) (p0 : Bool) (hA : tkAt q k F G) (h0 : tkR q k F G S F G [] p0) (hp0 : q ≠ 235 → p0 = false) (h24 : F k 4 = 0 → ∀ q : Nat, q < 4 → F (k + 3 + 3 * q) 2 ≤ 24) (hn : F k 4 = 1 → 2 ≤ F (k + 15) 2 ∧ F (k + 15) 2 ≤ 16 ∧ F (k + 18) 2 = F (k + 15) 2) : cV y_Rt_tell b_Rt_tell 3 none 6 148 F G (fun ad => [.ref (ad 230), .ref (ad k), .ref (ad q)]) (fun F' G' => ∃ p1 : Bool, (q ≠ 235 → p1 = false) ∧ tkR q k F G S F' G' (runsC F G k) p1) := by
  have hK := hA.1.1
  have hfl := hA.1.2.2.2.1.2.1
  intro s0 a0 D t ad
  refine g_startV (by decide +kernel) (Nat.le_of_ble_eq_true rfl) (fun p l e R s m args below meth c A ok => ?_)
  show gW p l e R s m args below meth c _ D A 3 (gZ0 s) 0 0 ad 265 (mem ad t F G) 0 [(0, .ref (ad 230)), (1, .ref (ad k)), (2, .ref (ad q))] []
  refine g_aload_n ok d_Rt_tell_0 rfl 1 rfl ?_
  refine gN_Sh_fill ok _ hK k_98 d_Rt_tell_1 ?_
  refine g_if_ne ok 16 d_Rt_tell_4 (by decide) (by omega) (fun h1 => ?_) (fun h1 => ?_)
  · refine g_aload_n ok d_Rt_tell_16 rfl 1 rfl ?_
    refine gN_Sh_fill ok _ hK k_98 d_Rt_tell_17 ?_
    refine g_iconst ok d_Rt_tell_20 ?_
    refine g_icmp_ne ok 33 d_Rt_tell_21 (by decide) (by omega) (by omega) (fun h2 => ?_) (fun h2 => ?_)
    · refine g_aload_n ok d_Rt_tell_33 rfl 0 rfl ?_
      refine g_aload_n ok d_Rt_tell_34 rfl 1 rfl ?_
      refine g_aload_n ok d_Rt_tell_35 rfl 2 rfl ?_
      refine g_callVV (As := [.ref (ad k), .ref (ad q)]) (st := []) ok _ (c_Rt_tellOutline F G q k S p0 hA h0 hp0 s0 a0 D t ad) k_546 k_6 k_543 cl_Rt (m_Rt (ad := ad) (t := t) (F := F) (G := G) rfl).1 (m_Rt rfl).2 k_545 s_Rt_tellOutline q_Rt_tellOutline (by decide) (Nat.le_of_ble_eq_true rfl) (by decide) d_Rt_tell_36 (fun ce1 hc3 => ?_)
      obtain ⟨F1, G1, rfl, p1, hq1, hR1⟩ := hc3
      have hR2 : tkR q k F G S F1 G1 (runsC F G k) p1 := by unfold runsC; rw [if_neg (by omega), if_neg (by omega)]; exact hR1
      exact g_vret ok d_Rt_tell_39 ⟨_, _, rfl, p1, hq1, hR2⟩
    · refine g_aload_n ok d_Rt_tell_24 rfl 0 rfl ?_
      refine g_aload_n ok d_Rt_tell_25 rfl 1 rfl ?_
      refine g_aload_n ok d_Rt_tell_26 rfl 2 rfl ?_
      refine g_callVV (As := [.ref (ad k), .ref (ad q)]) (st := []) ok _ (c_Rt_tellSatin F G q k S p0 hA h0 hp0 (hn (by omega)) s0 a0 D t ad) k_532 k_6 k_529 cl_Rt (m_Rt (ad := ad) (t := t) (F := F) (G := G) rfl).1 (m_Rt rfl).2 k_531 s_Rt_tellSatin q_Rt_tellSatin (by decide) (Nat.le_of_ble_eq_true rfl) (by decide) d_Rt_tell_27 (fun ce1 hc4 => ?_)
      obtain ⟨F1, G1, rfl, p1, hq1, hR1⟩ := hc4
      have hR2 : tkR q k F G S F1 G1 (runsC F G k) p1 := by unfold runsC; rw [if_neg (by omega), if_pos (by omega)]; exact hR1
      refine g_goto ok 39 d_Rt_tell_30 (by decide) ?_
      exact g_vret ok d_Rt_tell_39 ⟨_, _, rfl, p1, hq1, hR2⟩
  · refine g_aload_n ok d_Rt_tell_7 rfl 0 rfl ?_
    refine g_aload_n ok d_Rt_tell_8 rfl 1 rfl ?_
    refine g_aload_n ok d_Rt_tell_9 rfl 2 rfl ?_
    refine g_callVV (As := [.ref (ad k), .ref (ad q)]) (st := []) ok _ (c_Rt_tellHatch F G q k S p0 hA h0 hp0 (h24 (by omega)) s0 a0 D t ad) k_382 k_6 k_379 cl_Rt (m_Rt (ad := ad) (t := t) (F := F) (G := G) rfl).1 (m_Rt rfl).2 k_381 s_Rt_tellHatch q_Rt_tellHatch (by decide) (Nat.le_of_ble_eq_true rfl) (by decide) d_Rt_tell_10 (fun ce1 hc5 => ?_)
    obtain ⟨F1, G1, rfl, p1, hq1, hR1⟩ := hc5
    have hR2 : tkR q k F G S F1 G1 (runsC F G k) p1 := by unfold runsC; rw [if_pos (by omega)]; exact hR1
    refine g_goto ok 39 d_Rt_tell_13 (by decide) ?_
    exact g_vret ok d_Rt_tell_39 ⟨_, _, rfl, p1, hq1, hR2⟩
theorem d_Pm_enter_0 : decode b_Pm_enter 0 = .ok (.aload_n 0, 1) := by decide +kernel
theorem d_Pm_enter_1 : decode b_Pm_enter 1 = .ok (.aload_n 1, 1) := by decide +kernel
theorem d_Pm_enter_2 : decode b_Pm_enter 2 = .ok (.putfield 31, 3) := by decide +kernel
theorem d_Pm_enter_5 : decode b_Pm_enter 5 = .ok (.aload_n 0, 1) := by decide +kernel
theorem d_Pm_enter_6 : decode b_Pm_enter 6 = .ok (.iconst 1, 1) := by decide +kernel
theorem d_Pm_enter_7 : decode b_Pm_enter 7 = .ok (.putfield 35, 3) := by decide +kernel
theorem d_Pm_enter_10 : decode b_Pm_enter 10 = .ok (.return_, 1) := by decide +kernel
set_option maxHeartbeats 1000000 in
set_option maxRecDepth 100000 in
theorem c_Pm_enter (F : Nat → Nat → Int) (G : Nat → Int → Int) (k : Nat) (v : Int) (hv : 0 ≤ v) (hk : k = 2 + 22 * v.toNat) : cV y_Pm_enter b_Pm_enter 2 none 0 0 F G (fun ad => [.ref (ad 235), .ref (ad k)]) (fun F' G' => F' = fU (fU F 235 1 v) 235 5 1 ∧ G' = G) := by
  intro s0 a0 D t ad
  refine g_startV (by decide +kernel) (Nat.le_of_ble_eq_true rfl) (fun p l e R s m args below meth c A ok => ?_)
  show gW p l e R s m args below meth c _ D A 2 (gZ0 s) 0 0 ad 265 (mem ad t F G) 0 [(0, .ref (ad 235)), (1, .ref (ad k))] []
  refine g_aload_n ok d_Pm_enter_0 rfl 0 rfl ?_
  refine g_aload_n ok d_Pm_enter_1 rfl 1 rfl ?_
  refine pI_Pm_shape ok _ rfl k_271 hv hk d_Pm_enter_2 ?_
  refine g_aload_n ok d_Pm_enter_5 rfl 0 rfl ?_
  refine g_iconst ok d_Pm_enter_6 ?_
  refine pI_Pm_entering ok _ rfl k_275 (Or.inr rfl) d_Pm_enter_7 ?_
  exact g_vret ok d_Pm_enter_10 ⟨_, _, rfl, rfl, rfl⟩
def psn (rs : Bool) (fr tt j : Int) : Int := if rs = true then fr + j else tt - j
theorem psn_rng {rs : Bool} {fr tt j : Int} (h1 : 0 ≤ fr ∧ fr ≤ 600) (h2 : 0 ≤ tt ∧ tt ≤ 600) (hj : 0 ≤ j ∧ j ≤ tt - fr) : 0 ≤ psn rs fr tt j ∧ psn rs fr tt j ≤ 600 := by
  unfold psn
  split <;> omega
theorem psn_bd {rs : Bool} {fr tt j : Int} (h1 : 0 ≤ fr ∧ fr ≤ 600) (h2 : 0 ≤ tt ∧ tt ≤ 600) (hj : -1 ≤ j ∧ j ≤ 700) : -1000 ≤ psn rs fr tt j ∧ psn rs fr tt j ≤ 2000 := by
  unfold psn
  split <;> omega
theorem psn_inj {rs : Bool} {fr tt i j : Int} : psn rs fr tt i = psn rs fr tt j ↔ i = j := by
  unfold psn
  split <;> omega
theorem hEv_map (x y g : Int → Int) : ∀ L : List (Int × Int), hEv (fun j => x (g j)) (fun j => y (g j)) L = hEv x y (L.map (fun p => (g p.1, g p.2)))
  | [] => rfl
  | p :: L => by
    show (x (g p.1), y (g p.1), true) :: (x (g p.2), y (g p.2), false) :: hEv (fun j => x (g j)) (fun j => y (g j)) L = _
    rw [hEv_map x y g L]
    rfl
def lnH (Pq : Int → Prop) (rs : Bool) (fr tt j : Int) : Prop := (0 ≤ j ∧ j ≤ tt - fr) ∧ Pq (psn rs fr tt j)
theorem ln_end {Pq : Int → Prop} {rs : Bool} {fr tt : Int} {L : List (Int × Int)} (x y : Int → Int) (hb : ∀ t, Pq t → fr ≤ t ∧ t ≤ tt) (h : isRn (lnH Pq rs fr tt) L) : hEv (fun j => x (psn rs fr tt j)) (fun j => y (psn rs fr tt j)) L = hEv x y (hL rs Pq) := by
  rw [hEv_map]
  congr 1
  cases rs with
  | true =>
    rw [hL_up (P := Pq) (c := fr) h (fun t => ?_)]
    · rfl
    · unfold lnH psn
      rw [if_pos rfl, show fr + (t - fr) = t by omega]
      exact ⟨fun z => ⟨by have := hb t z; omega, z⟩, fun z => z.2⟩
  | false =>
    rw [hL_dn (P := Pq) (c := tt) h (fun t => ?_)]
    · rfl
    · unfold lnH psn
      rw [if_neg (by decide), show tt - (tt - t) = t by omega]
      exact ⟨fun z => ⟨by have := hb t z; omega, z⟩, fun z => z.2⟩
theorem ln_done {F0 F : Nat → Nat → Int} {G0 G : Nat → Int → Int} {sn d f0 fr tt : Int} {rs : Bool} {S : PS} {E : List Ev} {L : List (Int × Int)} {Pq : Int → Prop} (hb : ∀ t, Pq t → fr ≤ t ∧ t ≤ tt) (h : isRn (lnH Pq rs fr tt) L) (hl : (L.length : Int) ≤ 650) (hR : mtR F0 G0 sn S F G (E ++ hEv (fun j => lX d f0 (psn rs fr tt j)) (fun j => lY d f0 (psn rs fr tt j)) L)) : mtR F0 G0 sn S F G (E ++ hEv (lX d f0) (lY d f0) (hL rs Pq)) ∧ ((hEv (lX d f0) (lY d f0) (hL rs Pq)).length : Int) ≤ 1300 := by
  have e := ln_end (lX d f0) (lY d f0) hb h
  have z := hEv_len (fun j => lX d f0 (psn rs fr tt j)) (fun j => lY d f0 (psn rs fr tt j)) L
  rw [e] at hR z
  exact ⟨hR, by omega⟩
theorem lX_rng {d f p : Int} (hf : -1300 ≤ f ∧ f ≤ 1300) (hp : -1000 ≤ p ∧ p ≤ 2000) : -10000 ≤ lX d f p ∧ lX d f p ≤ 10000 := by
  unfold lX
  split <;> omega
theorem lY_rng {d f p : Int} (hf : -1300 ≤ f ∧ f ≤ 1300) (hp : -1000 ≤ p ∧ p ≤ 2000) : -10000 ≤ lY d f p ∧ lY d f p ≤ 10000 := by
  unfold lY
  split
  · omega
  · split
    · omega
    · split <;> omega
theorem mt_257 {F0 F : Nat → Nat → Int} {G0 G G1 : Nat → Int → Int} {sn : Int} {S : PS} {E : List Ev} (h : mtR F0 G0 sn S F G E) (hg : ∀ a : Nat, a ≠ 257 → G1 a = G a) : mtR F0 G0 sn S F G1 E := by
  obtain ⟨g1, g2, g3, g4, g5, g6⟩ := h
  exact ⟨g1, g2, g3, fun z => ⟨mdR_up (g4 z).1 rfl rfl rfl rfl (fun a z1 z2 => hg a (by omega)), (g4 z).2⟩, g5, fun a z1 z2 => (hg a z1).trans (g6 a z1 z2)⟩
theorem d_Mo_line_0 : decode b_Mo_line 0 = .ok (.iload_n 2, 1) := by decide +kernel
theorem d_Mo_line_1 : decode b_Mo_line 1 = .ok (.iconst 1, 1) := by decide +kernel
theorem d_Mo_line_2 : decode b_Mo_line 2 = .ok (.if_icmp .ne 16, 3) := by decide +kernel
theorem d_Mo_line_5 : decode b_Mo_line 5 = .ok (.aload_n 0, 1) := by decide +kernel
theorem d_Mo_line_6 : decode b_Mo_line 6 = .ok (.getfield 33, 3) := by decide +kernel
theorem d_Mo_line_9 : decode b_Mo_line 9 = .ok (.iconst 4, 1) := by decide +kernel
theorem d_Mo_line_10 : decode b_Mo_line 10 = .ok (.iload_n 1, 1) := by decide +kernel
theorem d_Mo_line_11 : decode b_Mo_line 11 = .ok (.imul, 1) := by decide +kernel
theorem d_Mo_line_12 : decode b_Mo_line 12 = .ok (.iconst 1, 1) := by decide +kernel
theorem d_Mo_line_13 : decode b_Mo_line 13 = .ok (.iadd, 1) := by decide +kernel
theorem d_Mo_line_14 : decode b_Mo_line 14 = .ok (.iaload, 1) := by decide +kernel
theorem d_Mo_line_15 : decode b_Mo_line 15 = .ok (.goto 11, 3) := by decide +kernel
theorem d_Mo_line_18 : decode b_Mo_line 18 = .ok (.aload_n 0, 1) := by decide +kernel
theorem d_Mo_line_19 : decode b_Mo_line 19 = .ok (.getfield 33, 3) := by decide +kernel
theorem d_Mo_line_22 : decode b_Mo_line 22 = .ok (.iconst 4, 1) := by decide +kernel
theorem d_Mo_line_23 : decode b_Mo_line 23 = .ok (.iload_n 1, 1) := by decide +kernel
theorem d_Mo_line_24 : decode b_Mo_line 24 = .ok (.imul, 1) := by decide +kernel
theorem d_Mo_line_25 : decode b_Mo_line 25 = .ok (.iaload, 1) := by decide +kernel
theorem d_Mo_line_26 : decode b_Mo_line 26 = .ok (.istore 5, 2) := by decide +kernel
theorem d_Mo_line_28 : decode b_Mo_line 28 = .ok (.iload_n 2, 1) := by decide +kernel
theorem d_Mo_line_29 : decode b_Mo_line 29 = .ok (.iconst 1, 1) := by decide +kernel
theorem d_Mo_line_30 : decode b_Mo_line 30 = .ok (.if_icmp .ne 16, 3) := by decide +kernel
theorem d_Mo_line_33 : decode b_Mo_line 33 = .ok (.aload_n 0, 1) := by decide +kernel
theorem d_Mo_line_34 : decode b_Mo_line 34 = .ok (.getfield 33, 3) := by decide +kernel
theorem d_Mo_line_37 : decode b_Mo_line 37 = .ok (.iconst 4, 1) := by decide +kernel
theorem d_Mo_line_38 : decode b_Mo_line 38 = .ok (.iload_n 1, 1) := by decide +kernel
theorem d_Mo_line_39 : decode b_Mo_line 39 = .ok (.imul, 1) := by decide +kernel
theorem d_Mo_line_40 : decode b_Mo_line 40 = .ok (.iconst 3, 1) := by decide +kernel
theorem d_Mo_line_41 : decode b_Mo_line 41 = .ok (.iadd, 1) := by decide +kernel
theorem d_Mo_line_42 : decode b_Mo_line 42 = .ok (.iaload, 1) := by decide +kernel
theorem d_Mo_line_43 : decode b_Mo_line 43 = .ok (.goto 13, 3) := by decide +kernel
theorem d_Mo_line_46 : decode b_Mo_line 46 = .ok (.aload_n 0, 1) := by decide +kernel
theorem d_Mo_line_47 : decode b_Mo_line 47 = .ok (.getfield 33, 3) := by decide +kernel
theorem d_Mo_line_50 : decode b_Mo_line 50 = .ok (.iconst 4, 1) := by decide +kernel
theorem d_Mo_line_51 : decode b_Mo_line 51 = .ok (.iload_n 1, 1) := by decide +kernel
theorem d_Mo_line_52 : decode b_Mo_line 52 = .ok (.imul, 1) := by decide +kernel
theorem d_Mo_line_53 : decode b_Mo_line 53 = .ok (.iconst 2, 1) := by decide +kernel
theorem d_Mo_line_54 : decode b_Mo_line 54 = .ok (.iadd, 1) := by decide +kernel
theorem d_Mo_line_55 : decode b_Mo_line 55 = .ok (.iaload, 1) := by decide +kernel
theorem d_Mo_line_56 : decode b_Mo_line 56 = .ok (.istore 6, 2) := by decide +kernel
theorem d_Mo_line_58 : decode b_Mo_line 58 = .ok (.iconst (-1), 1) := by decide +kernel
theorem d_Mo_line_59 : decode b_Mo_line 59 = .ok (.istore 7, 2) := by decide +kernel
theorem d_Mo_line_61 : decode b_Mo_line 61 = .ok (.iconst (-1), 1) := by decide +kernel
theorem d_Mo_line_62 : decode b_Mo_line 62 = .ok (.istore 8, 2) := by decide +kernel
theorem d_Mo_line_64 : decode b_Mo_line 64 = .ok (.iconst 0, 1) := by decide +kernel
theorem d_Mo_line_65 : decode b_Mo_line 65 = .ok (.istore 9, 2) := by decide +kernel
theorem d_Mo_line_67 : decode b_Mo_line 67 = .ok (.iload 9, 2) := by decide +kernel
theorem d_Mo_line_69 : decode b_Mo_line 69 = .ok (.iload 6, 2) := by decide +kernel
theorem d_Mo_line_71 : decode b_Mo_line 71 = .ok (.iload 5, 2) := by decide +kernel
theorem d_Mo_line_73 : decode b_Mo_line 73 = .ok (.isub, 1) := by decide +kernel
theorem d_Mo_line_74 : decode b_Mo_line 74 = .ok (.iconst 1, 1) := by decide +kernel
theorem d_Mo_line_75 : decode b_Mo_line 75 = .ok (.iadd, 1) := by decide +kernel
theorem d_Mo_line_76 : decode b_Mo_line 76 = .ok (.if_icmp .gt 165, 3) := by decide +kernel
theorem d_Mo_line_79 : decode b_Mo_line 79 = .ok (.iload 4, 2) := by decide +kernel
theorem d_Mo_line_81 : decode b_Mo_line 81 = .ok (.ifCond .eq 11, 3) := by decide +kernel
theorem d_Mo_line_84 : decode b_Mo_line 84 = .ok (.iload 5, 2) := by decide +kernel
theorem d_Mo_line_86 : decode b_Mo_line 86 = .ok (.iload 9, 2) := by decide +kernel
theorem d_Mo_line_88 : decode b_Mo_line 88 = .ok (.iadd, 1) := by decide +kernel
theorem d_Mo_line_89 : decode b_Mo_line 89 = .ok (.goto 8, 3) := by decide +kernel
theorem d_Mo_line_92 : decode b_Mo_line 92 = .ok (.iload 6, 2) := by decide +kernel
theorem d_Mo_line_94 : decode b_Mo_line 94 = .ok (.iload 9, 2) := by decide +kernel
theorem d_Mo_line_96 : decode b_Mo_line 96 = .ok (.isub, 1) := by decide +kernel
theorem d_Mo_line_97 : decode b_Mo_line 97 = .ok (.istore 10, 2) := by decide +kernel
theorem d_Mo_line_99 : decode b_Mo_line 99 = .ok (.iload 9, 2) := by decide +kernel
theorem d_Mo_line_101 : decode b_Mo_line 101 = .ok (.iload 6, 2) := by decide +kernel
theorem d_Mo_line_103 : decode b_Mo_line 103 = .ok (.iload 5, 2) := by decide +kernel
theorem d_Mo_line_105 : decode b_Mo_line 105 = .ok (.isub, 1) := by decide +kernel
theorem d_Mo_line_106 : decode b_Mo_line 106 = .ok (.if_icmp .gt 48, 3) := by decide +kernel
theorem d_Mo_line_109 : decode b_Mo_line 109 = .ok (.iload_n 2, 1) := by decide +kernel
theorem d_Mo_line_110 : decode b_Mo_line 110 = .ok (.iload_n 3, 1) := by decide +kernel
theorem d_Mo_line_111 : decode b_Mo_line 111 = .ok (.iload 10, 2) := by decide +kernel
theorem d_Mo_line_113 : decode b_Mo_line 113 = .ok (.invokestatic 195, 3) := by decide +kernel
theorem d_Mo_line_116 : decode b_Mo_line 116 = .ok (.iload_n 2, 1) := by decide +kernel
theorem d_Mo_line_117 : decode b_Mo_line 117 = .ok (.iload_n 3, 1) := by decide +kernel
theorem d_Mo_line_118 : decode b_Mo_line 118 = .ok (.iload 10, 2) := by decide +kernel
theorem d_Mo_line_120 : decode b_Mo_line 120 = .ok (.invokestatic 199, 3) := by decide +kernel
theorem d_Mo_line_123 : decode b_Mo_line 123 = .ok (.invokestatic 202, 3) := by decide +kernel
theorem d_Mo_line_126 : decode b_Mo_line 126 = .ok (.ifCond .eq 28, 3) := by decide +kernel
theorem d_Mo_line_129 : decode b_Mo_line 129 = .ok (.aload_n 0, 1) := by decide +kernel
theorem d_Mo_line_130 : decode b_Mo_line 130 = .ok (.iload_n 2, 1) := by decide +kernel
theorem d_Mo_line_131 : decode b_Mo_line 131 = .ok (.iload_n 3, 1) := by decide +kernel
theorem d_Mo_line_132 : decode b_Mo_line 132 = .ok (.iload 10, 2) := by decide +kernel
theorem d_Mo_line_134 : decode b_Mo_line 134 = .ok (.invokestatic 195, 3) := by decide +kernel
theorem d_Mo_line_137 : decode b_Mo_line 137 = .ok (.iload_n 2, 1) := by decide +kernel
theorem d_Mo_line_138 : decode b_Mo_line 138 = .ok (.iload_n 3, 1) := by decide +kernel
theorem d_Mo_line_139 : decode b_Mo_line 139 = .ok (.iload 10, 2) := by decide +kernel
theorem d_Mo_line_141 : decode b_Mo_line 141 = .ok (.invokestatic 199, 3) := by decide +kernel
theorem d_Mo_line_144 : decode b_Mo_line 144 = .ok (.invokevirtual 178, 3) := by decide +kernel
theorem d_Mo_line_147 : decode b_Mo_line 147 = .ok (.ifCond .eq 7, 3) := by decide +kernel
theorem d_Mo_line_150 : decode b_Mo_line 150 = .ok (.iconst 1, 1) := by decide +kernel
theorem d_Mo_line_151 : decode b_Mo_line 151 = .ok (.goto 4, 3) := by decide +kernel
theorem d_Mo_line_154 : decode b_Mo_line 154 = .ok (.iconst 0, 1) := by decide +kernel
theorem d_Mo_line_155 : decode b_Mo_line 155 = .ok (.istore 11, 2) := by decide +kernel
theorem d_Mo_line_157 : decode b_Mo_line 157 = .ok (.iload 11, 2) := by decide +kernel
theorem d_Mo_line_159 : decode b_Mo_line 159 = .ok (.ifCond .eq 12, 3) := by decide +kernel
theorem d_Mo_line_162 : decode b_Mo_line 162 = .ok (.iload 7, 2) := by decide +kernel
theorem d_Mo_line_164 : decode b_Mo_line 164 = .ok (.ifCond .ge 7, 3) := by decide +kernel
theorem d_Mo_line_167 : decode b_Mo_line 167 = .ok (.iload 10, 2) := by decide +kernel
theorem d_Mo_line_169 : decode b_Mo_line 169 = .ok (.istore 7, 2) := by decide +kernel
theorem d_Mo_line_171 : decode b_Mo_line 171 = .ok (.iload 11, 2) := by decide +kernel
theorem d_Mo_line_173 : decode b_Mo_line 173 = .ok (.ifCond .ne 58, 3) := by decide +kernel
theorem d_Mo_line_176 : decode b_Mo_line 176 = .ok (.iload 7, 2) := by decide +kernel
theorem d_Mo_line_178 : decode b_Mo_line 178 = .ok (.ifCond .lt 53, 3) := by decide +kernel
theorem d_Mo_line_181 : decode b_Mo_line 181 = .ok (.iload 8, 2) := by decide +kernel
theorem d_Mo_line_183 : decode b_Mo_line 183 = .ok (.iload 7, 2) := by decide +kernel
theorem d_Mo_line_185 : decode b_Mo_line 185 = .ok (.if_icmp .eq 43, 3) := by decide +kernel
theorem d_Mo_line_188 : decode b_Mo_line 188 = .ok (.aload_n 0, 1) := by decide +kernel
theorem d_Mo_line_189 : decode b_Mo_line 189 = .ok (.iload_n 1, 1) := by decide +kernel
theorem d_Mo_line_190 : decode b_Mo_line 190 = .ok (.iload_n 2, 1) := by decide +kernel
theorem d_Mo_line_191 : decode b_Mo_line 191 = .ok (.iload_n 3, 1) := by decide +kernel
theorem d_Mo_line_192 : decode b_Mo_line 192 = .ok (.iload 7, 2) := by decide +kernel
theorem d_Mo_line_194 : decode b_Mo_line 194 = .ok (.invokestatic 195, 3) := by decide +kernel
theorem d_Mo_line_197 : decode b_Mo_line 197 = .ok (.iload_n 2, 1) := by decide +kernel
theorem d_Mo_line_198 : decode b_Mo_line 198 = .ok (.iload_n 3, 1) := by decide +kernel
theorem d_Mo_line_199 : decode b_Mo_line 199 = .ok (.iload 7, 2) := by decide +kernel
theorem d_Mo_line_201 : decode b_Mo_line 201 = .ok (.invokestatic 199, 3) := by decide +kernel
theorem d_Mo_line_204 : decode b_Mo_line 204 = .ok (.iconst 1, 1) := by decide +kernel
theorem d_Mo_line_205 : decode b_Mo_line 205 = .ok (.invokevirtual 188, 3) := by decide +kernel
theorem d_Mo_line_208 : decode b_Mo_line 208 = .ok (.aload_n 0, 1) := by decide +kernel
theorem d_Mo_line_209 : decode b_Mo_line 209 = .ok (.iload_n 1, 1) := by decide +kernel
theorem d_Mo_line_210 : decode b_Mo_line 210 = .ok (.iload_n 2, 1) := by decide +kernel
theorem d_Mo_line_211 : decode b_Mo_line 211 = .ok (.iload_n 3, 1) := by decide +kernel
theorem d_Mo_line_212 : decode b_Mo_line 212 = .ok (.iload 8, 2) := by decide +kernel
theorem d_Mo_line_214 : decode b_Mo_line 214 = .ok (.invokestatic 195, 3) := by decide +kernel
theorem d_Mo_line_217 : decode b_Mo_line 217 = .ok (.iload_n 2, 1) := by decide +kernel
theorem d_Mo_line_218 : decode b_Mo_line 218 = .ok (.iload_n 3, 1) := by decide +kernel
theorem d_Mo_line_219 : decode b_Mo_line 219 = .ok (.iload 8, 2) := by decide +kernel
theorem d_Mo_line_221 : decode b_Mo_line 221 = .ok (.invokestatic 199, 3) := by decide +kernel
theorem d_Mo_line_224 : decode b_Mo_line 224 = .ok (.iconst 0, 1) := by decide +kernel
theorem d_Mo_line_225 : decode b_Mo_line 225 = .ok (.invokevirtual 188, 3) := by decide +kernel
theorem d_Mo_line_228 : decode b_Mo_line 228 = .ok (.iconst (-1), 1) := by decide +kernel
theorem d_Mo_line_229 : decode b_Mo_line 229 = .ok (.istore 7, 2) := by decide +kernel
theorem d_Mo_line_231 : decode b_Mo_line 231 = .ok (.iload 10, 2) := by decide +kernel
theorem d_Mo_line_233 : decode b_Mo_line 233 = .ok (.istore 8, 2) := by decide +kernel
theorem d_Mo_line_235 : decode b_Mo_line 235 = .ok (.iinc 9 1, 3) := by decide +kernel
theorem d_Mo_line_238 : decode b_Mo_line 238 = .ok (.goto (-171), 3) := by decide +kernel
theorem d_Mo_line_241 : decode b_Mo_line 241 = .ok (.return_, 1) := by decide +kernel
set_option maxHeartbeats 1000000 in
set_option maxRecDepth 100000 in
theorem c_Mo_line (F : Nat → Nat → Int) (G : Nat → Int → Int) (F0 : Nat → Nat → Int) (G0 : Nat → Int → Int) (sn d f0 : Int) (rs : Bool) (S : PS) (E : List Ev) (fr tt : Int) (hB : mtB F0 G0 sn) (hR : mtR F0 G0 sn S F G E) (hd : 0 ≤ d ∧ d ≤ 3) (hf0 : -1300 ≤ f0 ∧ f0 ≤ 1300) (hfr : (if d = 1 then G0 249 (4 * sn + 1) else G0 249 (4 * sn)) = fr) (htt : (if d = 1 then G0 249 (4 * sn + 3) else G0 249 (4 * sn + 2)) = tt) (hfr6 : 0 ≤ fr ∧ fr ≤ 600) (htt6 : 0 ≤ tt ∧ tt ≤ 600) (hbx : ∀ t : Int, hasM G0 (F0 244 12) (lX d f0 t) (lY d f0 t) → fr ≤ t ∧ t ≤ tt) (hl : (E.length : Int) ≤ 900000000) : cV y_Mo_line b_Mo_line 12 none 5 119 F G (fun ad => [.ref (ad 244), .int (iI sn), .int (iI d), .int (iI f0), .int (iI (b2 rs))]) (fun F' G' => mtR F0 G0 sn S F' G' (E ++ hEv (lX d f0) (lY d f0) (hL rs (fun p => hasM G0 (F0 244 12) (lX d f0 p) (lY d f0 p)))) ∧ ((hEv (lX d f0) (lY d f0) (hL rs (fun p => hasM G0 (F0 244 12) (lX d f0 p) (lY d f0 p)))).length : Int) ≤ 1300) := by
  have hsn := hB.1
  have hmg := hR.2.2.2.2.2
  have hbn := b2_rng rs
  intro s0 a0 D t ad
  refine g_startV (by decide +kernel) (Nat.le_of_ble_eq_true rfl) (fun p l e R s m args below meth c A ok => ?_)
  show gW p l e R s m args below meth c _ D A 12 (gZ0 s) 0 0 ad 265 (mem ad t F G) 0 [(0, .ref (ad 244)), (1, .int (iI sn)), (2, .int (iI d)), (3, .int (iI f0)), (4, .int (iI (b2 rs)))] []
  have J_a : gW p l e R s m args below meth c (MQ below (gQv D A ad 265 (fun ce' => ∃ F' G', ce' = mem ad t F' G' ∧ (fun F' G' => mtR F0 G0 sn S F' G' (E ++ hEv (lX d f0) (lY d f0) (hL rs (fun p => hasM G0 (F0 244 12) (lX d f0 p) (lY d f0 p)))) ∧ ((hEv (lX d f0) (lY d f0) (hL rs (fun p => hasM G0 (F0 244 12) (lX d f0 p) (lY d f0 p)))).length : Int) ≤ 1300) F' G')) args s 0 0 A) D A 12 (gZ) 0 0 ad 265 (mem ad t F G) 26 [(0, .ref (ad 244)), (1, .int (iI sn)), (2, .int (iI d)), (3, .int (iI f0)), (4, .int (iI (b2 rs)))] [.int (iI fr)] := by
    refine g_istore (lv' := [(5, .int (iI fr)), (0, .ref (ad 244)), (1, .int (iI sn)), (2, .int (iI d)), (3, .int (iI f0)), (4, .int (iI (b2 rs)))]) ok d_Mo_line_26 (by decide) rfl ?_
    have J_b : gW p l e R s m args below meth c (MQ below (gQv D A ad 265 (fun ce' => ∃ F' G', ce' = mem ad t F' G' ∧ (fun F' G' => mtR F0 G0 sn S F' G' (E ++ hEv (lX d f0) (lY d f0) (hL rs (fun p => hasM G0 (F0 244 12) (lX d f0 p) (lY d f0 p)))) ∧ ((hEv (lX d f0) (lY d f0) (hL rs (fun p => hasM G0 (F0 244 12) (lX d f0 p) (lY d f0 p)))).length : Int) ≤ 1300) F' G')) args s 0 0 A) D A 12 (gZ) 0 0 ad 265 (mem ad t F G) 56 [(0, .ref (ad 244)), (1, .int (iI sn)), (2, .int (iI d)), (3, .int (iI f0)), (4, .int (iI (b2 rs))), (5, .int (iI fr))] [.int (iI tt)] := by
      refine g_istore (lv' := [(6, .int (iI tt)), (0, .ref (ad 244)), (1, .int (iI sn)), (2, .int (iI d)), (3, .int (iI f0)), (4, .int (iI (b2 rs))), (5, .int (iI fr))]) ok d_Mo_line_56 (by decide) rfl ?_
      refine g_iconst ok d_Mo_line_58 ?_
      refine g_istore (lv' := [(7, .int (iI (-1))), (6, .int (iI tt)), (0, .ref (ad 244)), (1, .int (iI sn)), (2, .int (iI d)), (3, .int (iI f0)), (4, .int (iI (b2 rs))), (5, .int (iI fr))]) ok d_Mo_line_59 (by decide) rfl ?_
      refine g_iconst ok d_Mo_line_61 ?_
      refine g_istore (lv' := [(8, .int (iI (-1))), (7, .int (iI (-1))), (6, .int (iI tt)), (0, .ref (ad 244)), (1, .int (iI sn)), (2, .int (iI d)), (3, .int (iI f0)), (4, .int (iI (b2 rs))), (5, .int (iI fr))]) ok d_Mo_line_62 (by decide) rfl ?_
      refine g_iconst ok d_Mo_line_64 ?_
      refine g_istore (lv' := [(9, .int (iI 0)), (8, .int (iI (-1))), (7, .int (iI (-1))), (6, .int (iI tt)), (0, .ref (ad 244)), (1, .int (iI sn)), (2, .int (iI d)), (3, .int (iI f0)), (4, .int (iI (b2 rs))), (5, .int (iI fr))]) ok d_Mo_line_65 (by decide) rfl ?_
      have L_i : ∀ (n_i : Nat) (i : Int) (bg : Int) (la : Int) (F1 : Nat → Nat → Int) (G1 : Nat → Int → Int) (st : Int) (L : List (Int × Int)), (0 ≤ i ∧ (i ≤ tt - fr + 2 ∨ i = 0)) → ((st = -1 ∧ bg = -1) ∨ (0 ≤ st ∧ st < i ∧ st ≤ tt - fr ∧ bg = psn rs fr tt (st))) → ((i = 0 ∧ la = -1) ∨ (1 ≤ i ∧ la = psn rs fr tt (i - 1))) → (swI (lnH (fun p => hasM G0 (F0 244 12) (lX d f0 p) (lY d f0 p)) rs fr tt) i st L) → ((L.length : Int) ≤ i) → (mtR F0 G0 sn S F1 G1 (E ++ hEv (fun j => lX d f0 (psn rs fr tt j)) (fun j => lY d f0 (psn rs fr tt j)) L)) → (tt - fr + 2000 - i) < (n_i : Int) → gW p l e R s m args below meth c (MQ below (gQv D A ad 265 (fun ce' => ∃ F' G', ce' = mem ad t F' G' ∧ (fun F' G' => mtR F0 G0 sn S F' G' (E ++ hEv (lX d f0) (lY d f0) (hL rs (fun p => hasM G0 (F0 244 12) (lX d f0 p) (lY d f0 p)))) ∧ ((hEv (lX d f0) (lY d f0) (hL rs (fun p => hasM G0 (F0 244 12) (lX d f0 p) (lY d f0 p)))).length : Int) ≤ 1300) F' G')) args s 0 0 A) D A 12 (gZ) 0 0 ad 265 (mem ad t F1 G1) 67 [(0, .ref (ad 244)), (1, .int (iI sn)), (2, .int (iI d)), (3, .int (iI f0)), (4, .int (iI (b2 rs))), (5, .int (iI fr)), (6, .int (iI tt)), (7, .int (iI bg)), (8, .int (iI la)), (9, .int (iI i))] [] := by
        intro n_i
        induction n_i with
        | zero =>
          intro i bg la F1 G1 st L hi hb hla hI hm hR1 hm_i
          exact absurd hm_i (by omega)
        | succ n_i ih_i =>
          intro i bg la F1 G1 st L hi hb hla hI hm hR1 hm_i
          have hpr := psn_bd (rs := rs) (j := i) hfr6 htt6 (by omega)
          have hpl1 := psn_bd (rs := rs) (j := i - 1) hfr6 htt6 (by omega)
          have hlnE : ((E ++ hEv (fun j => lX d f0 (psn rs fr tt j)) (fun j => lY d f0 (psn rs fr tt j)) L).length : Int) = (E.length : Int) + 2 * (L.length : Int) := by rw [List.length_append, hEv_len]; omega
          have hbgr : -1 ≤ bg ∧ bg ≤ 600 := by rcases hb with z | z; omega; have z2 := psn_rng (rs := rs) (j := st) hfr6 htt6 (by omega); omega
          have hlar : -1000 ≤ la ∧ la ≤ 2000 := by rcases hla with z | z; omega; omega
          refine g_iload ok d_Mo_line_67 9 rfl ?_
          refine g_iload ok d_Mo_line_69 6 rfl ?_
          refine g_iload ok d_Mo_line_71 5 rfl ?_
          refine g_isub ok d_Mo_line_73 ?_
          refine g_iconst ok d_Mo_line_74 ?_
          refine g_iadd ok d_Mo_line_75 ?_
          refine g_icmp_gt ok 241 d_Mo_line_76 (by decide) (by omega) (by omega) (fun h1 => ?_) (fun h1 => ?_)
          · exact g_vret ok d_Mo_line_241 ⟨_, _, rfl, ln_done hbx (sw_end hI (fun t z y => absurd y.1 (by omega))) (by omega) hR1⟩
          · have J_p : gW p l e R s m args below meth c (MQ below (gQv D A ad 265 (fun ce' => ∃ F' G', ce' = mem ad t F' G' ∧ (fun F' G' => mtR F0 G0 sn S F' G' (E ++ hEv (lX d f0) (lY d f0) (hL rs (fun p => hasM G0 (F0 244 12) (lX d f0 p) (lY d f0 p)))) ∧ ((hEv (lX d f0) (lY d f0) (hL rs (fun p => hasM G0 (F0 244 12) (lX d f0 p) (lY d f0 p)))).length : Int) ≤ 1300) F' G')) args s 0 0 A) D A 12 (gZ) 0 0 ad 265 (mem ad t F1 G1) 97 [(0, .ref (ad 244)), (1, .int (iI sn)), (2, .int (iI d)), (3, .int (iI f0)), (4, .int (iI (b2 rs))), (5, .int (iI fr)), (6, .int (iI tt)), (7, .int (iI bg)), (8, .int (iI la)), (9, .int (iI i))] [.int (iI (psn rs fr tt (i)))] := by
              refine g_istore (lv' := [(10, .int (iI (psn rs fr tt (i)))), (0, .ref (ad 244)), (1, .int (iI sn)), (2, .int (iI d)), (3, .int (iI f0)), (4, .int (iI (b2 rs))), (5, .int (iI fr)), (6, .int (iI tt)), (7, .int (iI bg)), (8, .int (iI la)), (9, .int (iI i))]) ok d_Mo_line_97 (by decide) rfl ?_
              have J_z : ∀ (G2 : Nat → Int → Int), (¬ lnH (fun p => hasM G0 (F0 244 12) (lX d f0 p) (lY d f0 p)) rs fr tt i) → (mtR F0 G0 sn S F1 G2 (E ++ hEv (fun j => lX d f0 (psn rs fr tt j)) (fun j => lY d f0 (psn rs fr tt j)) L)) → gW p l e R s m args below meth c (MQ below (gQv D A ad 265 (fun ce' => ∃ F' G', ce' = mem ad t F' G' ∧ (fun F' G' => mtR F0 G0 sn S F' G' (E ++ hEv (lX d f0) (lY d f0) (hL rs (fun p => hasM G0 (F0 244 12) (lX d f0 p) (lY d f0 p)))) ∧ ((hEv (lX d f0) (lY d f0) (hL rs (fun p => hasM G0 (F0 244 12) (lX d f0 p) (lY d f0 p)))).length : Int) ≤ 1300) F' G')) args s 0 0 A) D A 12 (gZ) 0 0 ad 265 (mem ad t F1 G2) 154 [(0, .ref (ad 244)), (1, .int (iI sn)), (2, .int (iI d)), (3, .int (iI f0)), (4, .int (iI (b2 rs))), (5, .int (iI fr)), (6, .int (iI tt)), (7, .int (iI bg)), (8, .int (iI la)), (9, .int (iI i)), (10, .int (iI (psn rs fr tt (i))))] [] := by
                intro G2 hnH hR2
                refine g_iconst ok d_Mo_line_154 ?_
                refine g_istore (lv' := [(11, .int (iI 0)), (0, .ref (ad 244)), (1, .int (iI sn)), (2, .int (iI d)), (3, .int (iI f0)), (4, .int (iI (b2 rs))), (5, .int (iI fr)), (6, .int (iI tt)), (7, .int (iI bg)), (8, .int (iI la)), (9, .int (iI i)), (10, .int (iI (psn rs fr tt (i))))]) ok d_Mo_line_155 (by decide) rfl ?_
                refine g_iload ok d_Mo_line_157 0 rfl ?_
                refine g_if_eq ok 171 d_Mo_line_159 (by decide) (by omega) (fun h2 => ?_) (fun h2 => ?_)
                · refine g_iload ok d_Mo_line_171 0 rfl ?_
                  refine g_if_ne ok 231 d_Mo_line_173 (by decide) (by omega) (fun h3 => ?_) (fun h3 => ?_)
                  · exact absurd h3 (by decide)
                  · refine g_iload ok d_Mo_line_176 8 rfl ?_
                    refine g_if_lt ok 231 d_Mo_line_178 (by decide) (by omega) (fun h4 => ?_) (fun h4 => ?_)
                    · have hs1 : st = -1 := by rcases hb with z | z; exact z.1; have z2 := psn_rng (rs := rs) (j := st) hfr6 htt6 (by omega); omega
                      refine g_iload ok d_Mo_line_231 11 rfl ?_
                      refine g_istore (lv' := [(8, .int (iI (psn rs fr tt (i)))), (11, .int (iI 0)), (0, .ref (ad 244)), (1, .int (iI sn)), (2, .int (iI d)), (3, .int (iI f0)), (4, .int (iI (b2 rs))), (5, .int (iI fr)), (6, .int (iI tt)), (7, .int (iI bg)), (9, .int (iI i)), (10, .int (iI (psn rs fr tt (i))))]) ok d_Mo_line_233 (by decide) rfl ?_
                      refine g_iinc (lv' := [(9, .int (iI (i + 1))), (8, .int (iI (psn rs fr tt (i)))), (11, .int (iI 0)), (0, .ref (ad 244)), (1, .int (iI sn)), (2, .int (iI d)), (3, .int (iI f0)), (4, .int (iI (b2 rs))), (5, .int (iI fr)), (6, .int (iI tt)), (7, .int (iI bg)), (10, .int (iI (psn rs fr tt (i))))]) ok d_Mo_line_235 10 rfl (by decide) rfl ?_
                      refine g_goto ok 67 d_Mo_line_238 (by decide) ?_
                      refine g_lv [3, 4, 5, 6, 7, 8, 9, 10, 1, 0] rfl ?_
                      exact ih_i (i + 1) bg (psn rs fr tt (i)) F1 G2 st L (by omega) (Or.inl ⟨hs1, by omega⟩) (Or.inr ⟨by omega, by rw [show i + 1 - 1 = i by omega]⟩) (by have z := hI; rw [hs1] at z; rw [hs1]; exact sw_out1 z (by omega) (fun t z1 z2 => by rw [show t = i by omega]; exact hnH)) (by omega) (hR2) (by omega)
                    · obtain ⟨hs0, hs1, hs2, hbg⟩ : 0 ≤ st ∧ st < i ∧ st ≤ tt - fr ∧ bg = psn rs fr tt (st) := by rcases hb with z | z; omega; exact z
                      have hrun := hI.1
                      have hHt : ∀ t : Int, st ≤ t → t < i → lnH (fun p => hasM G0 (F0 244 12) (lX d f0 p) (lY d f0 p)) rs fr tt t := by rcases hI.1 with z | z; omega; exact z.2.2.1
                      have hla2 : la = psn rs fr tt (i - 1) := by rcases hla with z | z; omega; exact z.2
                      refine g_iload ok d_Mo_line_181 9 rfl ?_
                      refine g_iload ok d_Mo_line_183 8 rfl ?_
                      refine g_icmp_eq ok 228 d_Mo_line_185 (by decide) (by omega) (by omega) (fun h5 => ?_) (fun h5 => ?_)
                      · have hij : i - 1 = st := psn_inj.mp (by rw [← hbg, ← hla2]; omega)
                        refine g_iconst ok d_Mo_line_228 ?_
                        refine g_istore (lv' := [(7, .int (iI (-1))), (11, .int (iI 0)), (0, .ref (ad 244)), (1, .int (iI sn)), (2, .int (iI d)), (3, .int (iI f0)), (4, .int (iI (b2 rs))), (5, .int (iI fr)), (6, .int (iI tt)), (8, .int (iI la)), (9, .int (iI i)), (10, .int (iI (psn rs fr tt (i))))]) ok d_Mo_line_229 (by decide) rfl ?_
                        refine g_iload ok d_Mo_line_231 11 rfl ?_
                        refine g_istore (lv' := [(8, .int (iI (psn rs fr tt (i)))), (7, .int (iI (-1))), (11, .int (iI 0)), (0, .ref (ad 244)), (1, .int (iI sn)), (2, .int (iI d)), (3, .int (iI f0)), (4, .int (iI (b2 rs))), (5, .int (iI fr)), (6, .int (iI tt)), (9, .int (iI i)), (10, .int (iI (psn rs fr tt (i))))]) ok d_Mo_line_233 (by decide) rfl ?_
                        refine g_iinc (lv' := [(9, .int (iI (i + 1))), (8, .int (iI (psn rs fr tt (i)))), (7, .int (iI (-1))), (11, .int (iI 0)), (0, .ref (ad 244)), (1, .int (iI sn)), (2, .int (iI d)), (3, .int (iI f0)), (4, .int (iI (b2 rs))), (5, .int (iI fr)), (6, .int (iI tt)), (10, .int (iI (psn rs fr tt (i))))]) ok d_Mo_line_235 10 rfl (by decide) rfl ?_
                        refine g_goto ok 67 d_Mo_line_238 (by decide) ?_
                        refine g_lv [4, 5, 6, 7, 8, 9, 10, 2, 1, 0] rfl ?_
                        exact ih_i (i + 1) (-1) (psn rs fr tt (i)) F1 G2 (-1) L (by omega) (Or.inl ⟨rfl, rfl⟩) (Or.inr ⟨by omega, by rw [show i + 1 - 1 = i by omega]⟩) (sw_out3 hI (by omega) (by omega) (fun t z1 z2 => by rw [show t = i by omega]; exact hnH) (by omega)) (by omega) (hR2) (by omega)
                      · have hij : ¬ i - 1 = st := fun z => absurd h5 (by rw [hbg, hla2, z]; exact fun q => q rfl)
                        have hin1 := (hHt st (by omega) (by omega)).2.1
                        have hin2 := (hHt (i - 1) (by omega) (by omega)).2.1
                        refine g_aload_n ok d_Mo_line_188 rfl 1 rfl ?_
                        refine g_iload_n ok d_Mo_line_189 rfl 2 rfl ?_
                        refine g_iload_n ok d_Mo_line_190 rfl 3 rfl ?_
                        refine g_iload_n ok d_Mo_line_191 rfl 4 rfl ?_
                        refine g_iload ok d_Mo_line_192 8 rfl ?_
                        refine g_callPS (As := [.int (iI d), .int (iI f0), .int (iI bg)]) (st := [.int (iI sn), .ref (ad 244)]) ok (c_Mo_xOf F1 G2 _ _ _ hd s0 a0 D t ad) k_1198 k_11 k_1196 k_1197 q_Mo_xOf (by decide) (Nat.le_of_ble_eq_true rfl) (by decide) d_Mo_line_194 (fun z6 hc6 => ?_)
                        subst hc6
                        refine g_top (y := lX d f0 (psn rs fr tt (st))) (by rw [hbg]; rfl) ?_
                        refine g_iload_n ok d_Mo_line_197 rfl 3 rfl ?_
                        refine g_iload_n ok d_Mo_line_198 rfl 4 rfl ?_
                        refine g_iload ok d_Mo_line_199 8 rfl ?_
                        refine g_callPS (As := [.int (iI d), .int (iI f0), .int (iI bg)]) (st := [.int (iI (lX d f0 (psn rs fr tt (st)))), .int (iI sn), .ref (ad 244)]) ok (c_Mo_yOf F1 G2 _ _ _ hd s0 a0 D t ad) k_1201 k_11 k_1199 k_1200 q_Mo_yOf (by decide) (Nat.le_of_ble_eq_true rfl) (by decide) d_Mo_line_201 (fun z7 hc7 => ?_)
                        subst hc7
                        refine g_top (y := lY d f0 (psn rs fr tt (st))) (by rw [hbg]; rfl) ?_
                        refine g_iconst ok d_Mo_line_204 ?_
                        refine g_top (y := b2 true) rfl ?_
                        refine g_callVV (As := [.int (iI sn), .int (iI (lX d f0 (psn rs fr tt (st)))), .int (iI (lY d f0 (psn rs fr tt (st)))), .int (iI (b2 true))]) (st := []) ok _ (c_Mo_comes F1 G2 F0 G0 sn _ _ true S _ hB hR2 hin1 (fun _ => rfl) (by omega) s0 a0 D t ad) k_1209 k_11 k_1206 cl_Mo (m_Mo (ad := ad) (t := t) (F := F1) (G := G2) rfl).1 (m_Mo rfl).2 k_1208 s_Mo_comes q_Mo_comes (by decide) (Nat.le_of_ble_eq_true rfl) (by decide) d_Mo_line_205 (fun ce1 hc8 => ?_)
                        obtain ⟨F201, G201, rfl, hR201⟩ := hc8
                        refine g_aload_n ok d_Mo_line_208 rfl 1 rfl ?_
                        refine g_iload_n ok d_Mo_line_209 rfl 2 rfl ?_
                        refine g_iload_n ok d_Mo_line_210 rfl 3 rfl ?_
                        refine g_iload_n ok d_Mo_line_211 rfl 4 rfl ?_
                        refine g_iload ok d_Mo_line_212 9 rfl ?_
                        refine g_callPS (As := [.int (iI d), .int (iI f0), .int (iI la)]) (st := [.int (iI sn), .ref (ad 244)]) ok (c_Mo_xOf F201 G201 _ _ _ hd s0 a0 D t ad) k_1198 k_11 k_1196 k_1197 q_Mo_xOf (by decide) (Nat.le_of_ble_eq_true rfl) (by decide) d_Mo_line_214 (fun z9 hc9 => ?_)
                        subst hc9
                        refine g_top (y := lX d f0 (psn rs fr tt (i - 1))) (by rw [hla2]; rfl) ?_
                        refine g_iload_n ok d_Mo_line_217 rfl 3 rfl ?_
                        refine g_iload_n ok d_Mo_line_218 rfl 4 rfl ?_
                        refine g_iload ok d_Mo_line_219 9 rfl ?_
                        refine g_callPS (As := [.int (iI d), .int (iI f0), .int (iI la)]) (st := [.int (iI (lX d f0 (psn rs fr tt (i - 1)))), .int (iI sn), .ref (ad 244)]) ok (c_Mo_yOf F201 G201 _ _ _ hd s0 a0 D t ad) k_1201 k_11 k_1199 k_1200 q_Mo_yOf (by decide) (Nat.le_of_ble_eq_true rfl) (by decide) d_Mo_line_221 (fun z10 hc10 => ?_)
                        subst hc10
                        refine g_top (y := lY d f0 (psn rs fr tt (i - 1))) (by rw [hla2]; rfl) ?_
                        refine g_iconst ok d_Mo_line_224 ?_
                        refine g_top (y := b2 false) rfl ?_
                        refine g_callVV (As := [.int (iI sn), .int (iI (lX d f0 (psn rs fr tt (i - 1)))), .int (iI (lY d f0 (psn rs fr tt (i - 1)))), .int (iI (b2 false))]) (st := []) ok _ (c_Mo_comes F201 G201 F0 G0 sn _ _ false S _ hB hR201 hin2 (fun z => absurd z sn_ne) (by rw [len_snoc]; omega) s0 a0 D t ad) k_1209 k_11 k_1206 cl_Mo (m_Mo (ad := ad) (t := t) (F := F201) (G := G201) rfl).1 (m_Mo rfl).2 k_1208 s_Mo_comes q_Mo_comes (by decide) (Nat.le_of_ble_eq_true rfl) (by decide) d_Mo_line_225 (fun ce1 hc11 => ?_)
                        obtain ⟨F202, G202, rfl, hR202⟩ := hc11
                        refine g_iconst ok d_Mo_line_228 ?_
                        refine g_istore (lv' := [(7, .int (iI (-1))), (11, .int (iI 0)), (0, .ref (ad 244)), (1, .int (iI sn)), (2, .int (iI d)), (3, .int (iI f0)), (4, .int (iI (b2 rs))), (5, .int (iI fr)), (6, .int (iI tt)), (8, .int (iI la)), (9, .int (iI i)), (10, .int (iI (psn rs fr tt (i))))]) ok d_Mo_line_229 (by decide) rfl ?_
                        refine g_iload ok d_Mo_line_231 11 rfl ?_
                        refine g_istore (lv' := [(8, .int (iI (psn rs fr tt (i)))), (7, .int (iI (-1))), (11, .int (iI 0)), (0, .ref (ad 244)), (1, .int (iI sn)), (2, .int (iI d)), (3, .int (iI f0)), (4, .int (iI (b2 rs))), (5, .int (iI fr)), (6, .int (iI tt)), (9, .int (iI i)), (10, .int (iI (psn rs fr tt (i))))]) ok d_Mo_line_233 (by decide) rfl ?_
                        refine g_iinc (lv' := [(9, .int (iI (i + 1))), (8, .int (iI (psn rs fr tt (i)))), (7, .int (iI (-1))), (11, .int (iI 0)), (0, .ref (ad 244)), (1, .int (iI sn)), (2, .int (iI d)), (3, .int (iI f0)), (4, .int (iI (b2 rs))), (5, .int (iI fr)), (6, .int (iI tt)), (10, .int (iI (psn rs fr tt (i))))]) ok d_Mo_line_235 10 rfl (by decide) rfl ?_
                        refine g_goto ok 67 d_Mo_line_238 (by decide) ?_
                        refine g_lv [4, 5, 6, 7, 8, 9, 10, 2, 1, 0] rfl ?_
                        exact ih_i (i + 1) (-1) (psn rs fr tt (i)) F202 G202 (-1) (L ++ [(st, i - 1)]) (by omega) (Or.inl ⟨rfl, rfl⟩) (Or.inr ⟨by omega, by rw [show i + 1 - 1 = i by omega]⟩) (sw_out2 hI (by omega) (by omega) (fun t z1 z2 => by rw [show t = i by omega]; exact hnH) (by omega)) (by rw [lenP]; omega) (by rw [hEv_snoc, ← List.append_assoc, ← List.append_assoc]; exact hR202) (by omega)
                · exact absurd h2 (by decide)
              refine g_iload ok d_Mo_line_99 10 rfl ?_
              refine g_iload ok d_Mo_line_101 7 rfl ?_
              refine g_iload ok d_Mo_line_103 6 rfl ?_
              refine g_isub ok d_Mo_line_105 ?_
              refine g_icmp_gt ok 154 d_Mo_line_106 (by decide) (by omega) (by omega) (fun h12 => ?_) (fun h12 => ?_)
              · refine g_z ?_
                refine g_lv [1, 2, 3, 4, 5, 6, 7, 8, 9, 10, 0] rfl ?_
                exact J_z G1 (fun z => absurd z.1 (by omega)) (hR1)
              · refine g_iload_n ok d_Mo_line_109 rfl 3 rfl ?_
                refine g_iload_n ok d_Mo_line_110 rfl 4 rfl ?_
                refine g_iload ok d_Mo_line_111 0 rfl ?_
                refine g_callPS (As := [.int (iI d), .int (iI f0), .int (iI (psn rs fr tt (i)))]) (st := []) ok (c_Mo_xOf F1 G1 _ _ _ hd s0 a0 D t ad) k_1198 k_11 k_1196 k_1197 q_Mo_xOf (by decide) (Nat.le_of_ble_eq_true rfl) (by decide) d_Mo_line_113 (fun z13 hc13 => ?_)
                subst hc13
                refine g_top (y := lX d f0 (psn rs fr tt (i))) (rfl) ?_
                refine g_iload_n ok d_Mo_line_116 rfl 3 rfl ?_
                refine g_iload_n ok d_Mo_line_117 rfl 4 rfl ?_
                refine g_iload ok d_Mo_line_118 0 rfl ?_
                refine g_callPS (As := [.int (iI d), .int (iI f0), .int (iI (psn rs fr tt (i)))]) (st := [.int (iI (lX d f0 (psn rs fr tt (i))))]) ok (c_Mo_yOf F1 G1 _ _ _ hd s0 a0 D t ad) k_1201 k_11 k_1199 k_1200 q_Mo_yOf (by decide) (Nat.le_of_ble_eq_true rfl) (by decide) d_Mo_line_120 (fun z14 hc14 => ?_)
                subst hc14
                refine g_top (y := lY d f0 (psn rs fr tt (i))) (rfl) ?_
                have hxr := lX_rng (d := d) (f := f0) (p := psn rs fr tt (i)) hf0 (by omega)
                have hyr := lY_rng (d := d) (f := f0) (p := psn rs fr tt (i)) hf0 (by omega)
                refine g_callPS (As := [.int (iI (lX d f0 (psn rs fr tt (i)))), .int (iI (lY d f0 (psn rs fr tt (i))))]) (st := []) ok (c_Mo_isPlace F1 G1 _ _ (by omega) (by omega) s0 a0 D t ad) k_1107 k_11 k_1105 k_1106 q_Mo_isPlace (by decide) (Nat.le_of_ble_eq_true rfl) (by decide) d_Mo_line_123 (fun z15 hc15 => ?_)
                have hpb : z15 = 0 ∨ z15 = 1 := by rw [hc15]; split <;> omega
                refine g_if_eq ok 154 d_Mo_line_126 (by decide) (by omega) (fun h16 => ?_) (fun h16 => ?_)
                · refine g_z ?_
                  refine g_lv [1, 2, 3, 4, 5, 6, 7, 8, 9, 10, 0] rfl ?_
                  exact J_z G1 (fun z => absurd hc15 (by have y := z.2.1; unfold inR at y; have y2 : 0 ≤ lX d f0 (psn rs fr tt (i)) ∧ lX d f0 (psn rs fr tt (i)) ≤ 600 ∧ 0 ≤ lY d f0 (psn rs fr tt (i)) ∧ lY d f0 (psn rs fr tt (i)) ≤ 600 := (by omega); rw [if_pos y2]; omega)) (hR1)
                · refine g_aload_n ok d_Mo_line_129 rfl 1 rfl ?_
                  refine g_iload_n ok d_Mo_line_130 rfl 3 rfl ?_
                  refine g_iload_n ok d_Mo_line_131 rfl 4 rfl ?_
                  refine g_iload ok d_Mo_line_132 0 rfl ?_
                  refine g_callPS (As := [.int (iI d), .int (iI f0), .int (iI (psn rs fr tt (i)))]) (st := [.ref (ad 244)]) ok (c_Mo_xOf F1 G1 _ _ _ hd s0 a0 D t ad) k_1198 k_11 k_1196 k_1197 q_Mo_xOf (by decide) (Nat.le_of_ble_eq_true rfl) (by decide) d_Mo_line_134 (fun z17 hc17 => ?_)
                  subst hc17
                  refine g_top (y := lX d f0 (psn rs fr tt (i))) (rfl) ?_
                  refine g_iload_n ok d_Mo_line_137 rfl 3 rfl ?_
                  refine g_iload_n ok d_Mo_line_138 rfl 4 rfl ?_
                  refine g_iload ok d_Mo_line_139 0 rfl ?_
                  refine g_callPS (As := [.int (iI d), .int (iI f0), .int (iI (psn rs fr tt (i)))]) (st := [.int (iI (lX d f0 (psn rs fr tt (i)))), .ref (ad 244)]) ok (c_Mo_yOf F1 G1 _ _ _ hd s0 a0 D t ad) k_1201 k_11 k_1199 k_1200 q_Mo_yOf (by decide) (Nat.le_of_ble_eq_true rfl) (by decide) d_Mo_line_141 (fun z18 hc18 => ?_)
                  subst hc18
                  refine g_top (y := lY d f0 (psn rs fr tt (i))) (rfl) ?_
                  have hpl : inR (lX d f0 (psn rs fr tt (i))) (lY d f0 (psn rs fr tt (i))) := by unfold inR; by_cases q : 0 ≤ lX d f0 (psn rs fr tt (i)) ∧ lX d f0 (psn rs fr tt (i)) ≤ 600 ∧ 0 ≤ lY d f0 (psn rs fr tt (i)) ∧ lY d f0 (psn rs fr tt (i)) ≤ 600; omega; rw [if_neg q] at hc15; omega
                  have hmG : ∀ a, ¬ (257 ≤ a ∧ a ≤ 260) → G1 a = G0 a := fun a z => hR1.2.2.2.2.2 a (by omega) (by omega)
                  have e12 : F1 244 12 = F0 244 12 := hR1.2.2.2.2.1 244 12 (by omega)
                  refine g_callIV (As := [.int (iI (lX d f0 (psn rs fr tt (i)))), .int (iI (lY d f0 (psn rs fr tt (i))))]) (st := []) ok _ (c_Mo_in F1 G1 _ _ (by rw [e12]; exact hB.2.1) (by rw [e12]; exact mE_cong hmG hB.2.2.1) hpl.1 hpl.2 s0 a0 D t ad) k_1205 k_11 k_1202 cl_Mo (m_Mo (ad := ad) (t := t) (F := F1) (G := G1) rfl).1 (m_Mo rfl).2 k_1204 s_Mo_in q_Mo_in (by decide) (Nat.le_of_ble_eq_true rfl) (by decide) d_Mo_line_144 (fun zi ce1 hc19 => ?_)
                  obtain ⟨F5, G5, rfl, hF5, hg5, hz01, hzs⟩ := hc19
                  rw [hF5]
                  rw [e12] at hzs
                  have hHi : zi = 1 ↔ lnH (fun p => hasM G0 (F0 244 12) (lX d f0 p) (lY d f0 p)) rs fr tt i := hzs.trans ⟨fun z => ⟨by omega, hasM_cong hmG ▸ ⟨hpl, z⟩⟩, fun z => by have y := z.2; rw [← hasM_cong hmG] at y; exact y.2⟩
                  have hR5 := mt_257 hR1 hg5
                  refine g_if_eq ok 154 d_Mo_line_147 (by decide) (by omega) (fun h20 => ?_) (fun h20 => ?_)
                  · refine g_z ?_
                    refine g_lv [1, 2, 3, 4, 5, 6, 7, 8, 9, 10, 0] rfl ?_
                    exact J_z G5 (fun z => absurd (hHi.mpr z) (by omega)) (hR5)
                  · have hHt1 : lnH (fun p => hasM G0 (F0 244 12) (lX d f0 p) (lY d f0 p)) rs fr tt i := hHi.mp (by omega)
                    refine g_iconst ok d_Mo_line_150 ?_
                    refine g_goto ok 155 d_Mo_line_151 (by decide) ?_
                    refine g_istore (lv' := [(11, .int (iI 1)), (10, .int (iI (psn rs fr tt (i)))), (0, .ref (ad 244)), (1, .int (iI sn)), (2, .int (iI d)), (3, .int (iI f0)), (4, .int (iI (b2 rs))), (5, .int (iI fr)), (6, .int (iI tt)), (7, .int (iI bg)), (8, .int (iI la)), (9, .int (iI i))]) ok d_Mo_line_155 (by decide) rfl ?_
                    refine g_iload ok d_Mo_line_157 0 rfl ?_
                    refine g_if_eq ok 171 d_Mo_line_159 (by decide) (by omega) (fun h21 => ?_) (fun h21 => ?_)
                    · exact absurd h21 (by decide)
                    · refine g_iload ok d_Mo_line_162 9 rfl ?_
                      refine g_if_ge ok 171 d_Mo_line_164 (by decide) (by omega) (fun h22 => ?_) (fun h22 => ?_)
                      · have hs1 : ¬ st = -1 := by rcases hb with z | z; omega; omega
                        refine g_iload ok d_Mo_line_171 0 rfl ?_
                        refine g_if_ne ok 231 d_Mo_line_173 (by decide) (by omega) (fun h23 => ?_) (fun h23 => ?_)
                        · refine g_iload ok d_Mo_line_231 1 rfl ?_
                          refine g_istore (lv' := [(8, .int (iI (psn rs fr tt (i)))), (11, .int (iI 1)), (10, .int (iI (psn rs fr tt (i)))), (0, .ref (ad 244)), (1, .int (iI sn)), (2, .int (iI d)), (3, .int (iI f0)), (4, .int (iI (b2 rs))), (5, .int (iI fr)), (6, .int (iI tt)), (7, .int (iI bg)), (9, .int (iI i))]) ok d_Mo_line_233 (by decide) rfl ?_
                          refine g_iinc (lv' := [(9, .int (iI (i + 1))), (8, .int (iI (psn rs fr tt (i)))), (11, .int (iI 1)), (10, .int (iI (psn rs fr tt (i)))), (0, .ref (ad 244)), (1, .int (iI sn)), (2, .int (iI d)), (3, .int (iI f0)), (4, .int (iI (b2 rs))), (5, .int (iI fr)), (6, .int (iI tt)), (7, .int (iI bg))]) ok d_Mo_line_235 11 rfl (by decide) rfl ?_
                          refine g_goto ok 67 d_Mo_line_238 (by decide) ?_
                          refine g_lv [4, 5, 6, 7, 8, 9, 10, 11, 1, 0] rfl ?_
                          exact ih_i (i + 1) bg (psn rs fr tt (i)) F1 G5 st L (by omega) (by rcases hb with z | z; omega; exact Or.inr ⟨z.1, by omega, z.2.2.1, z.2.2.2⟩) (Or.inr ⟨by omega, by rw [show i + 1 - 1 = i by omega]⟩) (sw_in2 hI (by omega) (by omega) (fun t z1 z2 => by rw [show t = i by omega]; exact hHt1)) (by omega) (hR5) (by omega)
                        · exact absurd h23 (by decide)
                      · have hs1 : st = -1 := by rcases hb with z | z; exact z.1; have z2 := psn_rng (rs := rs) (j := st) hfr6 htt6 (by omega); omega
                        refine g_iload ok d_Mo_line_167 1 rfl ?_
                        refine g_istore (lv' := [(7, .int (iI (psn rs fr tt (i)))), (11, .int (iI 1)), (10, .int (iI (psn rs fr tt (i)))), (0, .ref (ad 244)), (1, .int (iI sn)), (2, .int (iI d)), (3, .int (iI f0)), (4, .int (iI (b2 rs))), (5, .int (iI fr)), (6, .int (iI tt)), (8, .int (iI la)), (9, .int (iI i))]) ok d_Mo_line_169 (by decide) rfl ?_
                        refine g_iload ok d_Mo_line_171 1 rfl ?_
                        refine g_if_ne ok 231 d_Mo_line_173 (by decide) (by omega) (fun h24 => ?_) (fun h24 => ?_)
                        · refine g_iload ok d_Mo_line_231 2 rfl ?_
                          refine g_istore (lv' := [(8, .int (iI (psn rs fr tt (i)))), (7, .int (iI (psn rs fr tt (i)))), (11, .int (iI 1)), (10, .int (iI (psn rs fr tt (i)))), (0, .ref (ad 244)), (1, .int (iI sn)), (2, .int (iI d)), (3, .int (iI f0)), (4, .int (iI (b2 rs))), (5, .int (iI fr)), (6, .int (iI tt)), (9, .int (iI i))]) ok d_Mo_line_233 (by decide) rfl ?_
                          refine g_iinc (lv' := [(9, .int (iI (i + 1))), (8, .int (iI (psn rs fr tt (i)))), (7, .int (iI (psn rs fr tt (i)))), (11, .int (iI 1)), (10, .int (iI (psn rs fr tt (i)))), (0, .ref (ad 244)), (1, .int (iI sn)), (2, .int (iI d)), (3, .int (iI f0)), (4, .int (iI (b2 rs))), (5, .int (iI fr)), (6, .int (iI tt))]) ok d_Mo_line_235 11 rfl (by decide) rfl ?_
                          refine g_goto ok 67 d_Mo_line_238 (by decide) ?_
                          refine g_lv [5, 6, 7, 8, 9, 10, 11, 2, 1, 0] rfl ?_
                          exact ih_i (i + 1) (psn rs fr tt (i)) (psn rs fr tt (i)) F1 G5 i L (by omega) (Or.inr ⟨by omega, by omega, hHt1.1.2, rfl⟩) (Or.inr ⟨by omega, by rw [show i + 1 - 1 = i by omega]⟩) (by have z := hI; rw [hs1] at z; exact sw_in1 z (by omega) (by omega) (fun t z1 z2 => by rw [show t = i by omega]; exact hHt1)) (by omega) (hR5) (by omega)
                        · exact absurd h24 (by decide)
            refine g_iload ok d_Mo_line_79 4 rfl ?_
            refine g_if_eq ok 92 d_Mo_line_81 (by decide) (by omega) (fun h25 => ?_) (fun h25 => ?_)
            · have hrs : rs = false := b2_f h25
              refine g_iload ok d_Mo_line_92 6 rfl ?_
              refine g_iload ok d_Mo_line_94 9 rfl ?_
              refine g_isub ok d_Mo_line_96 ?_
              refine g_top (y := psn rs fr tt (i)) (by unfold psn; rw [if_neg (by rw [hrs]; decide)]) ?_
              refine g_z ?_
              exact J_p  
            · have hrs : rs = true := b2_t h25
              refine g_iload ok d_Mo_line_84 5 rfl ?_
              refine g_iload ok d_Mo_line_86 9 rfl ?_
              refine g_iadd ok d_Mo_line_88 ?_
              refine g_goto ok 97 d_Mo_line_89 (by decide) ?_
              refine g_top (y := psn rs fr tt (i)) (by unfold psn; rw [if_pos hrs]) ?_
              refine g_z ?_
              exact J_p  
      refine g_z ?_
      refine g_lv [4, 5, 6, 7, 8, 9, 3, 2, 1, 0] rfl ?_
      exact L_i ((tt - fr + 2000 - 0 : Int).toNat + 1) 0 (-1) (-1) F G (-1) ([]) (by omega) (Or.inl ⟨rfl, rfl⟩) (Or.inl ⟨rfl, rfl⟩) (sw_0 (fun t ht z => absurd z.1 (by omega))) (by decide) (by show mtR F0 G0 sn S F G (E ++ []); rw [List.append_nil]; exact hR) (by omega)
    refine g_iload_n ok d_Mo_line_28 rfl 3 rfl ?_
    refine g_iconst ok d_Mo_line_29 ?_
    refine g_icmp_ne ok 46 d_Mo_line_30 (by decide) (by omega) (by omega) (fun h26 => ?_) (fun h26 => ?_)
    · have hd1 : ¬ d = 1 := by omega
      refine g_aload_n ok d_Mo_line_46 rfl 1 rfl ?_
      refine gI_Mo_box ok _ rfl k_996 d_Mo_line_47 ?_
      refine g_iconst ok d_Mo_line_50 ?_
      refine g_iload_n ok d_Mo_line_51 rfl 2 rfl ?_
      refine g_imul ok d_Mo_line_52 ?_
      refine g_iconst ok d_Mo_line_53 ?_
      refine g_iadd ok d_Mo_line_54 ?_
      refine h_iald ok _ a_249 (by omega) d_Mo_line_55 ?_
      refine g_top (y := tt) (by show G 249 ((4 * sn) + 2) = _; rw [hmg 249 (by decide) (by omega), ← htt, if_neg hd1]) ?_
      refine g_z ?_
      refine g_lv [1, 2, 3, 4, 5, 0] rfl ?_
      exact J_b  
    · have hd1 : d = 1 := by omega
      refine g_aload_n ok d_Mo_line_33 rfl 1 rfl ?_
      refine gI_Mo_box ok _ rfl k_996 d_Mo_line_34 ?_
      refine g_iconst ok d_Mo_line_37 ?_
      refine g_iload_n ok d_Mo_line_38 rfl 2 rfl ?_
      refine g_imul ok d_Mo_line_39 ?_
      refine g_iconst ok d_Mo_line_40 ?_
      refine g_iadd ok d_Mo_line_41 ?_
      refine h_iald ok _ a_249 (by omega) d_Mo_line_42 ?_
      refine g_goto ok 56 d_Mo_line_43 (by decide) ?_
      refine g_top (y := tt) (by show G 249 ((4 * sn) + 3) = _; rw [hmg 249 (by decide) (by omega), ← htt, if_pos hd1]) ?_
      refine g_z ?_
      refine g_lv [1, 2, 3, 4, 5, 0] rfl ?_
      exact J_b  
  refine g_iload_n ok d_Mo_line_0 rfl 2 rfl ?_
  refine g_iconst ok d_Mo_line_1 ?_
  refine g_icmp_ne ok 18 d_Mo_line_2 (by decide) (by omega) (by omega) (fun h27 => ?_) (fun h27 => ?_)
  · have hd1 : ¬ d = 1 := by omega
    refine g_aload_n ok d_Mo_line_18 rfl 0 rfl ?_
    refine gI_Mo_box ok _ rfl k_996 d_Mo_line_19 ?_
    refine g_iconst ok d_Mo_line_22 ?_
    refine g_iload_n ok d_Mo_line_23 rfl 1 rfl ?_
    refine g_imul ok d_Mo_line_24 ?_
    refine h_iald ok _ a_249 (by omega) d_Mo_line_25 ?_
    refine g_top (y := fr) (by show G 249 (4 * sn) = _; rw [hmg 249 (by decide) (by omega), ← hfr, if_neg hd1]) ?_
    refine g_z ?_
    exact J_a  
  · have hd1 : d = 1 := by omega
    refine g_aload_n ok d_Mo_line_5 rfl 0 rfl ?_
    refine gI_Mo_box ok _ rfl k_996 d_Mo_line_6 ?_
    refine g_iconst ok d_Mo_line_9 ?_
    refine g_iload_n ok d_Mo_line_10 rfl 1 rfl ?_
    refine g_imul ok d_Mo_line_11 ?_
    refine g_iconst ok d_Mo_line_12 ?_
    refine g_iadd ok d_Mo_line_13 ?_
    refine h_iald ok _ a_249 (by omega) d_Mo_line_14 ?_
    refine g_goto ok 26 d_Mo_line_15 (by decide) ?_
    refine g_top (y := fr) (by show G 249 ((4 * sn) + 1) = _; rw [hmg 249 (by decide) (by omega), ← hfr, if_pos hd1]) ?_
    refine g_z ?_
    exact J_a  

