def recR (F : Nat → Nat → Int) (G : Nat → Int → Int) (L : List Rc) : Prop := F 244 20 = (L.length : Int) ∧ (∀ (i : Nat) (r : Rc), i < 4000 → L[i]? = some r → G 258 (i : Int) = r.1 ∧ G 259 (i : Int) = r.2.1 ∧ G 260 (i : Int) = r.2.2) ∧ ∀ r ∈ L, rcOk r
theorem recR_add {F F1 : Nat → Nat → Int} {G G1 : Nat → Int → Int} {L : List Rc} {x y z : Int} (h : recR F G L) (hr : rcOk (x, y, z)) (hF : F1 244 20 = F 244 20 + 1) (hG : G1 = (if F 244 20 < 4000 then gU (gU (gU G 258 (F 244 20) x) 259 (F 244 20) y) 260 (F 244 20) z else G)) : recR F1 G1 (L ++ [(x, y, z)]) := by
  obtain ⟨h1, h3, h4⟩ := h
  have hl : (L ++ [(x, y, z)]).length = L.length + 1 := by simp
  have hm : ∀ r ∈ L ++ [(x, y, z)], rcOk r := fun r q => by
    rcases List.mem_append.mp q with q | q
    · exact h4 r q
    · rw [List.mem_singleton.mp q]
      exact hr
  refine ⟨by rw [hF, hl, h1]; omega, fun i r hi q => ?_, hm⟩
  by_cases c : L.length < 4000
  · rw [if_pos (by omega)] at hG
    subst hG
    rcases snoc_get q with ⟨c1, c2⟩ | ⟨c1, c2⟩
    · rw [gU_a (by decide), gU_a (by decide), gU_i (by omega), gU_a (by decide), gU_i (by omega), gU_a (by decide), gU_i (by omega), gU_a (by decide), gU_a (by decide)]
      exact h3 i r hi c2
    · subst c2
      rw [show (i : Int) = F 244 20 by omega, gU_a (by decide), gU_a (by decide), gU_hit, gU_a (by decide), gU_hit, gU_hit]
      exact ⟨rfl, rfl, rfl⟩
  · rw [if_neg (by omega)] at hG
    subst hG
    rcases snoc_get q with ⟨c1, c2⟩ | ⟨c1, c2⟩
    · exact h3 i r hi c2
    · omega
theorem recR_cong {F F1 : Nat → Nat → Int} {G G1 : Nat → Int → Int} {L : List Rc} (h : recR F G L) (hF : F1 244 20 = F 244 20) (h1 : G1 258 = G 258) (h2 : G1 259 = G 259) (h3 : G1 260 = G 260) : recR F1 G1 L := by
  unfold recR at h ⊢
  rw [hF, h1, h2, h3]
  exact h
def mdR (F : Nat → Nat → Int) (G : Nat → Int → Int) (s : PS) : Prop := F 244 24 = s.1 ∧ F 244 25 = s.2.1 ∧ F 244 29 = s.2.2.1 ∧ recR F G s.2.2.2 ∧ inR s.1 s.2.1 ∧ (-1 ≤ s.2.2.1 ∧ s.2.2.1 ≤ 7)
theorem mdR_eq {F : Nat → Nat → Int} {G : Nat → Int → Int} {s : PS} (h : mdR F G s) : s = (F 244 24, F 244 25, F 244 29, s.2.2.2) := by
  obtain ⟨h1, h2, h3, -⟩ := h
  rw [h1, h2, h3]
def mF (F F1 : Nat → Nat → Int) : Prop := ∀ a b, ¬ (a = 244 ∧ (b = 20 ∨ b = 24 ∨ b = 25 ∨ b = 29)) → F1 a b = F a b
def mG (G G1 : Nat → Int → Int) : Prop := ∀ a, ¬ (257 ≤ a ∧ a ≤ 260) → G1 a = G a
theorem mF_tr {F F1 F2 : Nat → Nat → Int} (h : mF F F1) (h2 : mF F1 F2) : mF F F2 := fun a b q => (h2 a b q).trans (h a b q)
theorem mG_tr {G G1 G2 : Nat → Int → Int} (h : mG G G1) (h2 : mG G1 G2) : mG G G2 := fun a q => (h2 a q).trans (h a q)
def stF (F : Nat → Nat → Int) (x y : Int) : Nat → Nat → Int := fU (fU (fU F 244 20 (F 244 20 + 1)) 244 24 x) 244 25 y
def stG (F : Nat → Nat → Int) (G : Nat → Int → Int) (x y z : Int) : Nat → Int → Int := if F 244 20 < 4000 then gU (gU (gU G 258 (F 244 20) (x - F 244 24)) 259 (F 244 20) (y - F 244 25)) 260 (F 244 20) z else G
theorem stG_fr (F : Nat → Nat → Int) (G : Nat → Int → Int) (x y z : Int) (a : Nat) (h : ¬ (258 ≤ a ∧ a ≤ 260)) : stG F G x y z a = G a := by
  unfold stG
  split
  · rw [gU_k _ _ _ (by omega), gU_k _ _ _ (by omega), gU_k _ _ _ (by omega)]
  · rfl
theorem stF_fr (F : Nat → Nat → Int) (x y : Int) (a b : Nat) (h : ¬ (a = 244 ∧ (b = 20 ∨ b = 24 ∨ b = 25))) : stF F x y a b = F a b := by
  unfold stF fU
  rw [if_neg (by omega), if_neg (by omega), if_neg (by omega)]
theorem stF_20 (F : Nat → Nat → Int) (x y : Int) : stF F x y 244 20 = F 244 20 + 1 := by
  unfold stF
  rw [fU_ja (by decide), fU_ja (by decide), fU_hit]
theorem stF_24 (F : Nat → Nat → Int) (x y : Int) : stF F x y 244 24 = x := by
  unfold stF
  rw [fU_ja (by decide), fU_hit]
theorem stF_25 (F : Nat → Nat → Int) (x y : Int) : stF F x y 244 25 = y := by
  unfold stF
  rw [fU_hit]
theorem d_Mo_step_0 : decode b_Mo_step 0 = .ok (.aload_n 0, 1) := by decide +kernel
theorem d_Mo_step_1 : decode b_Mo_step 1 = .ok (.getfield 73, 3) := by decide +kernel
theorem d_Mo_step_4 : decode b_Mo_step 4 = .ok (.sipush 4000, 3) := by decide +kernel
theorem d_Mo_step_7 : decode b_Mo_step 7 = .ok (.if_icmp .ge 43, 3) := by decide +kernel
theorem d_Mo_step_10 : decode b_Mo_step 10 = .ok (.aload_n 0, 1) := by decide +kernel
theorem d_Mo_step_11 : decode b_Mo_step 11 = .ok (.getfield 76, 3) := by decide +kernel
theorem d_Mo_step_14 : decode b_Mo_step 14 = .ok (.aload_n 0, 1) := by decide +kernel
theorem d_Mo_step_15 : decode b_Mo_step 15 = .ok (.getfield 73, 3) := by decide +kernel
theorem d_Mo_step_18 : decode b_Mo_step 18 = .ok (.iload_n 2, 1) := by decide +kernel
theorem d_Mo_step_19 : decode b_Mo_step 19 = .ok (.aload_n 0, 1) := by decide +kernel
theorem d_Mo_step_20 : decode b_Mo_step 20 = .ok (.getfield 85, 3) := by decide +kernel
theorem d_Mo_step_23 : decode b_Mo_step 23 = .ok (.isub, 1) := by decide +kernel
theorem d_Mo_step_24 : decode b_Mo_step 24 = .ok (.iastore, 1) := by decide +kernel
theorem d_Mo_step_25 : decode b_Mo_step 25 = .ok (.aload_n 0, 1) := by decide +kernel
theorem d_Mo_step_26 : decode b_Mo_step 26 = .ok (.getfield 79, 3) := by decide +kernel
theorem d_Mo_step_29 : decode b_Mo_step 29 = .ok (.aload_n 0, 1) := by decide +kernel
theorem d_Mo_step_30 : decode b_Mo_step 30 = .ok (.getfield 73, 3) := by decide +kernel
theorem d_Mo_step_33 : decode b_Mo_step 33 = .ok (.iload_n 3, 1) := by decide +kernel
theorem d_Mo_step_34 : decode b_Mo_step 34 = .ok (.aload_n 0, 1) := by decide +kernel
theorem d_Mo_step_35 : decode b_Mo_step 35 = .ok (.getfield 88, 3) := by decide +kernel
theorem d_Mo_step_38 : decode b_Mo_step 38 = .ok (.isub, 1) := by decide +kernel
theorem d_Mo_step_39 : decode b_Mo_step 39 = .ok (.iastore, 1) := by decide +kernel
theorem d_Mo_step_40 : decode b_Mo_step 40 = .ok (.aload_n 0, 1) := by decide +kernel
theorem d_Mo_step_41 : decode b_Mo_step 41 = .ok (.getfield 82, 3) := by decide +kernel
theorem d_Mo_step_44 : decode b_Mo_step 44 = .ok (.aload_n 0, 1) := by decide +kernel
theorem d_Mo_step_45 : decode b_Mo_step 45 = .ok (.getfield 73, 3) := by decide +kernel
theorem d_Mo_step_48 : decode b_Mo_step 48 = .ok (.iload_n 1, 1) := by decide +kernel
theorem d_Mo_step_49 : decode b_Mo_step 49 = .ok (.iastore, 1) := by decide +kernel
theorem d_Mo_step_50 : decode b_Mo_step 50 = .ok (.aload_n 0, 1) := by decide +kernel
theorem d_Mo_step_51 : decode b_Mo_step 51 = .ok (.dup, 1) := by decide +kernel
theorem d_Mo_step_52 : decode b_Mo_step 52 = .ok (.getfield 73, 3) := by decide +kernel
theorem d_Mo_step_55 : decode b_Mo_step 55 = .ok (.iconst 1, 1) := by decide +kernel
theorem d_Mo_step_56 : decode b_Mo_step 56 = .ok (.iadd, 1) := by decide +kernel
theorem d_Mo_step_57 : decode b_Mo_step 57 = .ok (.putfield 73, 3) := by decide +kernel
theorem d_Mo_step_60 : decode b_Mo_step 60 = .ok (.aload_n 0, 1) := by decide +kernel
theorem d_Mo_step_61 : decode b_Mo_step 61 = .ok (.iload_n 2, 1) := by decide +kernel
theorem d_Mo_step_62 : decode b_Mo_step 62 = .ok (.putfield 85, 3) := by decide +kernel
theorem d_Mo_step_65 : decode b_Mo_step 65 = .ok (.aload_n 0, 1) := by decide +kernel
theorem d_Mo_step_66 : decode b_Mo_step 66 = .ok (.iload_n 3, 1) := by decide +kernel
theorem d_Mo_step_67 : decode b_Mo_step 67 = .ok (.putfield 88, 3) := by decide +kernel
theorem d_Mo_step_70 : decode b_Mo_step 70 = .ok (.return_, 1) := by decide +kernel
set_option maxHeartbeats 1000000 in
set_option maxRecDepth 100000 in
theorem c_Mo_step (F : Nat → Nat → Int) (G : Nat → Int → Int) (kd x y : Int) (hn : 0 ≤ F 244 20 ∧ F 244 20 ≤ 5000) : cV y_Mo_step b_Mo_step 4 none 0 0 F G (fun ad => [.ref (ad 244), .int (iI kd), .int (iI x), .int (iI y)]) (fun F' G' => F' = stF F x y ∧ G' = stG F G x y kd) := by
  intro s0 a0 D t ad
  refine g_startV (by decide +kernel) (Nat.le_of_ble_eq_true rfl) (fun p l e R s m args below meth c A ok => ?_)
  show gW p l e R s m args below meth c _ D A 4 (gZ0 s) 0 0 ad 265 (mem ad t F G) 0 [(0, .ref (ad 244)), (1, .int (iI kd)), (2, .int (iI x)), (3, .int (iI y))] []
  refine g_aload_n ok d_Mo_step_0 rfl 0 rfl ?_
  refine gI_Mo_records ok _ rfl k_1009 d_Mo_step_1 ?_
  refine g_sipush ok (by decide) d_Mo_step_4 ?_
  refine g_icmp_ge ok 50 d_Mo_step_7 (by decide) (by omega) (by omega) (fun h1 => ?_) (fun h1 => ?_)
  · refine g_aload_n ok d_Mo_step_50 rfl 0 rfl ?_
    refine g_dup ok d_Mo_step_51 rfl ?_
    refine gI_Mo_records ok _ rfl k_1009 d_Mo_step_52 ?_
    refine g_iconst ok d_Mo_step_55 ?_
    refine g_iadd ok d_Mo_step_56 ?_
    refine pI_Mo_records ok _ rfl k_1009 d_Mo_step_57 ?_
    refine g_aload_n ok d_Mo_step_60 rfl 0 rfl ?_
    refine g_iload_n ok d_Mo_step_61 rfl 2 rfl ?_
    refine pI_Mo_nx ok _ rfl k_1013 d_Mo_step_62 ?_
    refine g_aload_n ok d_Mo_step_65 rfl 0 rfl ?_
    refine g_iload_n ok d_Mo_step_66 rfl 3 rfl ?_
    refine pI_Mo_ny ok _ rfl k_1014 d_Mo_step_67 ?_
    exact g_vret ok d_Mo_step_70 ⟨_, _, rfl, rfl, by unfold stG; rw [if_neg (by omega)]⟩
  · refine g_aload_n ok d_Mo_step_10 rfl 0 rfl ?_
    refine gI_Mo_dx ok _ rfl k_1010 d_Mo_step_11 ?_
    refine g_aload_n ok d_Mo_step_14 rfl 0 rfl ?_
    refine gI_Mo_records ok _ rfl k_1009 d_Mo_step_15 ?_
    refine g_iload_n ok d_Mo_step_18 rfl 2 rfl ?_
    refine g_aload_n ok d_Mo_step_19 rfl 0 rfl ?_
    refine gI_Mo_nx ok _ rfl k_1013 d_Mo_step_20 ?_
    refine g_isub ok d_Mo_step_23 ?_
    refine h_iast ok _ a_258 (by omega) d_Mo_step_24 ?_
    refine g_aload_n ok d_Mo_step_25 rfl 0 rfl ?_
    refine gI_Mo_dy ok _ rfl k_1011 d_Mo_step_26 ?_
    refine g_aload_n ok d_Mo_step_29 rfl 0 rfl ?_
    refine gI_Mo_records ok _ rfl k_1009 d_Mo_step_30 ?_
    refine g_iload_n ok d_Mo_step_33 rfl 3 rfl ?_
    refine g_aload_n ok d_Mo_step_34 rfl 0 rfl ?_
    refine gI_Mo_ny ok _ rfl k_1014 d_Mo_step_35 ?_
    refine g_isub ok d_Mo_step_38 ?_
    refine h_iast ok _ a_259 (by omega) d_Mo_step_39 ?_
    refine g_aload_n ok d_Mo_step_40 rfl 0 rfl ?_
    refine gI_Mo_kind ok _ rfl k_1012 d_Mo_step_41 ?_
    refine g_aload_n ok d_Mo_step_44 rfl 0 rfl ?_
    refine gI_Mo_records ok _ rfl k_1009 d_Mo_step_45 ?_
    refine g_iload_n ok d_Mo_step_48 rfl 1 rfl ?_
    refine h_iast ok _ a_260 (by omega) d_Mo_step_49 ?_
    refine g_aload_n ok d_Mo_step_50 rfl 0 rfl ?_
    refine g_dup ok d_Mo_step_51 rfl ?_
    refine gI_Mo_records ok _ rfl k_1009 d_Mo_step_52 ?_
    refine g_iconst ok d_Mo_step_55 ?_
    refine g_iadd ok d_Mo_step_56 ?_
    refine pI_Mo_records ok _ rfl k_1009 d_Mo_step_57 ?_
    refine g_aload_n ok d_Mo_step_60 rfl 0 rfl ?_
    refine g_iload_n ok d_Mo_step_61 rfl 2 rfl ?_
    refine pI_Mo_nx ok _ rfl k_1013 d_Mo_step_62 ?_
    refine g_aload_n ok d_Mo_step_65 rfl 0 rfl ?_
    refine g_iload_n ok d_Mo_step_66 rfl 3 rfl ?_
    refine pI_Mo_ny ok _ rfl k_1014 d_Mo_step_67 ?_
    exact g_vret ok d_Mo_step_70 ⟨_, _, rfl, rfl, by unfold stG; rw [if_pos (by omega)]⟩
theorem d_Mo_stepsTo_0 : decode b_Mo_stepsTo 0 = .ok (.iload_n 1, 1) := by decide +kernel
theorem d_Mo_stepsTo_1 : decode b_Mo_stepsTo 1 = .ok (.aload_n 0, 1) := by decide +kernel
theorem d_Mo_stepsTo_2 : decode b_Mo_stepsTo 2 = .ok (.getfield 85, 3) := by decide +kernel
theorem d_Mo_stepsTo_5 : decode b_Mo_stepsTo 5 = .ok (.isub, 1) := by decide +kernel
theorem d_Mo_stepsTo_6 : decode b_Mo_stepsTo 6 = .ok (.invokestatic 127, 3) := by decide +kernel
theorem d_Mo_stepsTo_9 : decode b_Mo_stepsTo 9 = .ok (.iload_n 2, 1) := by decide +kernel
theorem d_Mo_stepsTo_10 : decode b_Mo_stepsTo 10 = .ok (.aload_n 0, 1) := by decide +kernel
theorem d_Mo_stepsTo_11 : decode b_Mo_stepsTo 11 = .ok (.getfield 88, 3) := by decide +kernel
theorem d_Mo_stepsTo_14 : decode b_Mo_stepsTo 14 = .ok (.isub, 1) := by decide +kernel
theorem d_Mo_stepsTo_15 : decode b_Mo_stepsTo 15 = .ok (.invokestatic 127, 3) := by decide +kernel
theorem d_Mo_stepsTo_18 : decode b_Mo_stepsTo 18 = .ok (.invokestatic 162, 3) := by decide +kernel
theorem d_Mo_stepsTo_21 : decode b_Mo_stepsTo 21 = .ok (.bipush 69, 2) := by decide +kernel
theorem d_Mo_stepsTo_23 : decode b_Mo_stepsTo 23 = .ok (.iadd, 1) := by decide +kernel
theorem d_Mo_stepsTo_24 : decode b_Mo_stepsTo 24 = .ok (.bipush 70, 2) := by decide +kernel
theorem d_Mo_stepsTo_26 : decode b_Mo_stepsTo 26 = .ok (.idiv, 1) := by decide +kernel
theorem d_Mo_stepsTo_27 : decode b_Mo_stepsTo 27 = .ok (.ireturn, 1) := by decide +kernel
set_option maxHeartbeats 1000000 in
set_option maxRecDepth 100000 in
theorem c_Mo_stepsTo (F : Nat → Nat → Int) (G : Nat → Int → Int) (u v : Int) (hX : inR (F 244 24) (F 244 25)) (hU : inR u v) : cP y_Mo_stepsTo b_Mo_stepsTo 3 (some .int) 1 21 F G (fun ad => [.ref (ad 244), .int (iI u), .int (iI v)]) (fun r => r = nst (F 244 24) (F 244 25) u v) := by
  have hxy := hX
  have huv := hU
  unfold inR at hxy huv
  have hfa := far_rng hX hU
  intro s0 a0 D t ad
  refine g_startP (by decide +kernel) (Nat.le_of_ble_eq_true rfl) (fun p l e R s m args below meth c A ok => ?_)
  show gW p l e R s m args below meth c _ D A 3 (gZ0 s) 0 0 ad 265 (mem ad t F G) 0 [(0, .ref (ad 244)), (1, .int (iI u)), (2, .int (iI v))] []
  refine g_iload_n ok d_Mo_stepsTo_0 rfl 1 rfl ?_
  refine g_aload_n ok d_Mo_stepsTo_1 rfl 0 rfl ?_
  refine gI_Mo_nx ok _ rfl k_1013 d_Mo_stepsTo_2 ?_
  refine g_isub ok d_Mo_stepsTo_5 ?_
  refine g_callPS (As := [.int (iI (u - (F 244 24)))]) (st := []) ok (c_Mo_size F G _ (by omega) s0 a0 D t ad) k_1157 k_11 k_1155 k_1156 q_Mo_size (by decide) (Nat.le_of_ble_eq_true rfl) (by decide) d_Mo_stepsTo_6 (fun z1 hc1 => ?_)
  subst hc1
  refine g_top (y := iab (u - (F 244 24))) rfl ?_
  have hab1 := iab_rng (a := u - (F 244 24)) (by omega)
  refine g_iload_n ok d_Mo_stepsTo_9 rfl 2 rfl ?_
  refine g_aload_n ok d_Mo_stepsTo_10 rfl 0 rfl ?_
  refine gI_Mo_ny ok _ rfl k_1014 d_Mo_stepsTo_11 ?_
  refine g_isub ok d_Mo_stepsTo_14 ?_
  refine g_callPS (As := [.int (iI (v - (F 244 25)))]) (st := [.int (iI (iab (u - (F 244 24))))]) ok (c_Mo_size F G _ (by omega) s0 a0 D t ad) k_1157 k_11 k_1155 k_1156 q_Mo_size (by decide) (Nat.le_of_ble_eq_true rfl) (by decide) d_Mo_stepsTo_15 (fun z2 hc2 => ?_)
  subst hc2
  refine g_top (y := iab (v - (F 244 25))) rfl ?_
  have hab2 := iab_rng (a := v - (F 244 25)) (by omega)
  refine g_callPS (As := [.int (iI (iab (u - (F 244 24)))), .int (iI (iab (v - (F 244 25))))]) (st := []) ok (c_Mo_greater F G _ _ (by omega) (by omega) s0 a0 D t ad) k_1220 k_11 k_1218 k_1219 q_Mo_greater (by decide) (Nat.le_of_ble_eq_true rfl) (by decide) d_Mo_stepsTo_18 (fun z3 hc3 => ?_)
  subst hc3
  refine g_top (y := far (F 244 24) (F 244 25) u v) rfl ?_
  refine g_bipush ok (by decide) d_Mo_stepsTo_21 ?_
  refine g_iadd ok d_Mo_stepsTo_23 ?_
  refine g_bipush ok (by decide) d_Mo_stepsTo_24 ?_
  refine g_idiv (z := nst (F 244 24) (F 244 25) u v) ok (iI_ne0 (by decide)) (iI_divN (by omega) (by decide)) d_Mo_stepsTo_26 ?_
  exact g_ipret ok d_Mo_stepsTo_27 (rfl)
theorem d_Mo_move_0 : decode b_Mo_move 0 = .ok (.aload_n 0, 1) := by decide +kernel
theorem d_Mo_move_1 : decode b_Mo_move 1 = .ok (.iload_n 2, 1) := by decide +kernel
theorem d_Mo_move_2 : decode b_Mo_move 2 = .ok (.iload_n 3, 1) := by decide +kernel
theorem d_Mo_move_3 : decode b_Mo_move 3 = .ok (.invokevirtual 165, 3) := by decide +kernel
theorem d_Mo_move_6 : decode b_Mo_move 6 = .ok (.istore 4, 2) := by decide +kernel
theorem d_Mo_move_8 : decode b_Mo_move 8 = .ok (.aload_n 0, 1) := by decide +kernel
theorem d_Mo_move_9 : decode b_Mo_move 9 = .ok (.getfield 85, 3) := by decide +kernel
theorem d_Mo_move_12 : decode b_Mo_move 12 = .ok (.istore 5, 2) := by decide +kernel
theorem d_Mo_move_14 : decode b_Mo_move 14 = .ok (.aload_n 0, 1) := by decide +kernel
theorem d_Mo_move_15 : decode b_Mo_move 15 = .ok (.getfield 88, 3) := by decide +kernel
theorem d_Mo_move_18 : decode b_Mo_move 18 = .ok (.istore 6, 2) := by decide +kernel
theorem d_Mo_move_20 : decode b_Mo_move 20 = .ok (.iconst 1, 1) := by decide +kernel
theorem d_Mo_move_21 : decode b_Mo_move 21 = .ok (.istore 7, 2) := by decide +kernel
theorem d_Mo_move_23 : decode b_Mo_move 23 = .ok (.iload 7, 2) := by decide +kernel
theorem d_Mo_move_25 : decode b_Mo_move 25 = .ok (.iload 4, 2) := by decide +kernel
theorem d_Mo_move_27 : decode b_Mo_move 27 = .ok (.if_icmp .gt 44, 3) := by decide +kernel
theorem d_Mo_move_30 : decode b_Mo_move 30 = .ok (.aload_n 0, 1) := by decide +kernel
theorem d_Mo_move_31 : decode b_Mo_move 31 = .ok (.iload_n 1, 1) := by decide +kernel
theorem d_Mo_move_32 : decode b_Mo_move 32 = .ok (.iload 5, 2) := by decide +kernel
theorem d_Mo_move_34 : decode b_Mo_move 34 = .ok (.iload 7, 2) := by decide +kernel
theorem d_Mo_move_36 : decode b_Mo_move 36 = .ok (.iload_n 2, 1) := by decide +kernel
theorem d_Mo_move_37 : decode b_Mo_move 37 = .ok (.iload 5, 2) := by decide +kernel
theorem d_Mo_move_39 : decode b_Mo_move 39 = .ok (.isub, 1) := by decide +kernel
theorem d_Mo_move_40 : decode b_Mo_move 40 = .ok (.imul, 1) := by decide +kernel
theorem d_Mo_move_41 : decode b_Mo_move 41 = .ok (.iload 4, 2) := by decide +kernel
theorem d_Mo_move_43 : decode b_Mo_move 43 = .ok (.invokestatic 168, 3) := by decide +kernel
theorem d_Mo_move_46 : decode b_Mo_move 46 = .ok (.iadd, 1) := by decide +kernel
theorem d_Mo_move_47 : decode b_Mo_move 47 = .ok (.iload 6, 2) := by decide +kernel
theorem d_Mo_move_49 : decode b_Mo_move 49 = .ok (.iload 7, 2) := by decide +kernel
theorem d_Mo_move_51 : decode b_Mo_move 51 = .ok (.iload_n 3, 1) := by decide +kernel
theorem d_Mo_move_52 : decode b_Mo_move 52 = .ok (.iload 6, 2) := by decide +kernel
theorem d_Mo_move_54 : decode b_Mo_move 54 = .ok (.isub, 1) := by decide +kernel
theorem d_Mo_move_55 : decode b_Mo_move 55 = .ok (.imul, 1) := by decide +kernel
theorem d_Mo_move_56 : decode b_Mo_move 56 = .ok (.iload 4, 2) := by decide +kernel
theorem d_Mo_move_58 : decode b_Mo_move 58 = .ok (.invokestatic 168, 3) := by decide +kernel
theorem d_Mo_move_61 : decode b_Mo_move 61 = .ok (.iadd, 1) := by decide +kernel
theorem d_Mo_move_62 : decode b_Mo_move 62 = .ok (.invokevirtual 171, 3) := by decide +kernel
theorem d_Mo_move_65 : decode b_Mo_move 65 = .ok (.iinc 7 1, 3) := by decide +kernel
theorem d_Mo_move_68 : decode b_Mo_move 68 = .ok (.goto (-45), 3) := by decide +kernel
theorem d_Mo_move_71 : decode b_Mo_move 71 = .ok (.return_, 1) := by decide +kernel
set_option maxHeartbeats 1000000 in
set_option maxRecDepth 100000 in
theorem c_Mo_move (F : Nat → Nat → Int) (G : Nat → Int → Int) (kd u v : Int) (L : List Rc) (hR : mdR F G (F 244 24, F 244 25, F 244 29, L)) (hU : inR u v) (hk0 : 0 ≤ kd ∧ kd < 4) (hL : L.length ≤ 4500) : cV y_Mo_move b_Mo_move 8 none 2 43 F G (fun ad => [.ref (ad 244), .int (iI kd), .int (iI u), .int (iI v)]) (fun F' G' => mdR F' G' (mvS kd u v (F 244 24, F 244 25, F 244 29, L)) ∧ mF F F' ∧ mG G G') := by
  obtain ⟨-, -, -, hp0, hX, ht⟩ := id hR
  simp only at hp0 hX ht
  have hl0 := hp0.1
  have hxy := hX
  have huv := hU
  unfold inR at hxy huv
  have hfa := far_rng hX hU
  have hns := nst_rng hX hU
  have hen := al_end hX hU
  intro s0 a0 D t ad
  refine g_startV (by decide +kernel) (Nat.le_of_ble_eq_true rfl) (fun p l e R s m args below meth c A ok => ?_)
  show gW p l e R s m args below meth c _ D A 8 (gZ0 s) 0 0 ad 265 (mem ad t F G) 0 [(0, .ref (ad 244)), (1, .int (iI kd)), (2, .int (iI u)), (3, .int (iI v))] []
  refine g_aload_n ok d_Mo_move_0 rfl 0 rfl ?_
  refine g_iload_n ok d_Mo_move_1 rfl 2 rfl ?_
  refine g_iload_n ok d_Mo_move_2 rfl 3 rfl ?_
  refine g_callPV (As := [.int (iI u), .int (iI v)]) (st := []) ok _ (c_Mo_stepsTo F G _ _ hX hU s0 a0 D t ad) k_1217 k_11 k_1214 cl_Mo (m_Mo (ad := ad) (t := t) (F := F) (G := G) rfl).1 (m_Mo rfl).2 k_1216 s_Mo_stepsTo q_Mo_stepsTo (by decide) (Nat.le_of_ble_eq_true rfl) (by decide) d_Mo_move_3 (fun z1 hc1 => ?_)
  subst hc1
  refine g_istore (lv' := [(4, .int (iI (nst (F 244 24) (F 244 25) u v))), (0, .ref (ad 244)), (1, .int (iI kd)), (2, .int (iI u)), (3, .int (iI v))]) ok d_Mo_move_6 (by decide) rfl ?_
  refine g_aload_n ok d_Mo_move_8 rfl 1 rfl ?_
  refine gI_Mo_nx ok _ rfl k_1013 d_Mo_move_9 ?_
  refine g_istore (lv' := [(5, .int (iI (F 244 24))), (4, .int (iI (nst (F 244 24) (F 244 25) u v))), (0, .ref (ad 244)), (1, .int (iI kd)), (2, .int (iI u)), (3, .int (iI v))]) ok d_Mo_move_12 (by decide) rfl ?_
  refine g_aload_n ok d_Mo_move_14 rfl 2 rfl ?_
  refine gI_Mo_ny ok _ rfl k_1014 d_Mo_move_15 ?_
  refine g_istore (lv' := [(6, .int (iI (F 244 25))), (5, .int (iI (F 244 24))), (4, .int (iI (nst (F 244 24) (F 244 25) u v))), (0, .ref (ad 244)), (1, .int (iI kd)), (2, .int (iI u)), (3, .int (iI v))]) ok d_Mo_move_18 (by decide) rfl ?_
  refine g_iconst ok d_Mo_move_20 ?_
  refine g_istore (lv' := [(7, .int (iI 1)), (6, .int (iI (F 244 25))), (5, .int (iI (F 244 24))), (4, .int (iI (nst (F 244 24) (F 244 25) u v))), (0, .ref (ad 244)), (1, .int (iI kd)), (2, .int (iI u)), (3, .int (iI v))]) ok d_Mo_move_21 (by decide) rfl ?_
  have L_k : ∀ (n_k : Nat) (k : Int) (F1 : Nat → Nat → Int) (G1 : Nat → Int → Int), (1 ≤ k ∧ k ≤ (nst (F 244 24) (F 244 25) u v) + 1) → (F1 244 24 = al (F 244 24) u (k - 1) (nst (F 244 24) (F 244 25) u v) ∧ F1 244 25 = al (F 244 25) v (k - 1) (nst (F 244 24) (F 244 25) u v)) → ((∀ a b, ¬ (a = 244 ∧ (b = 20 ∨ b = 24 ∨ b = 25)) → F1 a b = F a b) ∧ mG G G1) → (recR F1 G1 (L ++ mvL (F 244 24) (F 244 25) u v kd (nst (F 244 24) (F 244 25) u v) (k - 1).toNat)) → ((nst (F 244 24) (F 244 25) u v) + 2 - k) < (n_k : Int) → gW p l e R s m args below meth c (MQ below (gQv D A ad 265 (fun ce' => ∃ F' G', ce' = mem ad t F' G' ∧ (fun F' G' => mdR F' G' (mvS kd u v (F 244 24, F 244 25, F 244 29, L)) ∧ mF F F' ∧ mG G G') F' G')) args s 0 0 A) D A 8 (gZ) 0 0 ad 265 (mem ad t F1 G1) 23 [(0, .ref (ad 244)), (1, .int (iI kd)), (2, .int (iI u)), (3, .int (iI v)), (4, .int (iI (nst (F 244 24) (F 244 25) u v))), (5, .int (iI (F 244 24))), (6, .int (iI (F 244 25))), (7, .int (iI k))] [] := by
    intro n_k
    induction n_k with
    | zero =>
      intro k F1 G1 hk hF hfr hp hm_k
      exact absurd hm_k (by omega)
    | succ n_k ih_k =>
      intro k F1 G1 hk hF hfr hp hm_k
      refine g_iload ok d_Mo_move_23 7 rfl ?_
      refine g_iload ok d_Mo_move_25 4 rfl ?_
      refine g_icmp_gt ok 71 d_Mo_move_27 (by decide) (by omega) (by omega) (fun h2 => ?_) (fun h2 => ?_)
      · exact g_vret ok d_Mo_move_71 ⟨_, _, rfl, ⟨by rw [hF.1, show k - 1 = (nst (F 244 24) (F 244 25) u v) by omega]; exact hen.1, by rw [hF.2, show k - 1 = (nst (F 244 24) (F 244 25) u v) by omega]; exact hen.2, hfr.1 _ _ (by omega), by rw [show k - 1 = (nst (F 244 24) (F 244 25) u v) by omega] at hp; exact hp, hU, ht⟩, fun a b q => hfr.1 a b (by omega), hfr.2⟩
      · have st1 := al_step (a := F 244 24) (b := u) (k := k - 1) (n := (nst (F 244 24) (F 244 25) u v)) (by omega) (by omega)
        have st2 := al_step (a := F 244 25) (b := v) (k := k - 1) (n := (nst (F 244 24) (F 244 25) u v)) (by omega) (by omega)
        rw [show k - 1 + 1 = k by omega] at st1 st2
        have hln := hp.1
        rw [List.length_append, mvL_len] at hln
        refine g_aload_n ok d_Mo_move_30 rfl 0 rfl ?_
        refine g_iload_n ok d_Mo_move_31 rfl 1 rfl ?_
        refine g_iload ok d_Mo_move_32 5 rfl ?_
        refine g_iload ok d_Mo_move_34 7 rfl ?_
        refine g_iload_n ok d_Mo_move_36 rfl 2 rfl ?_
        refine g_iload ok d_Mo_move_37 5 rfl ?_
        refine g_isub ok d_Mo_move_39 ?_
        refine g_imul ok d_Mo_move_40 ?_
        refine g_iload ok d_Mo_move_41 4 rfl ?_
        have hpr2 : -2147483648 ≤ k * (u - (F 244 24)) ∧ k * (u - (F 244 24)) < 2147483648 := by have h := mul_rng (a := k) (b := u - (F 244 24)) (by omega) (by omega); omega
        refine g_callPS (As := [.int (iI (k * (u - (F 244 24)))), .int (iI (nst (F 244 24) (F 244 25) u v))]) (st := [.int (iI (F 244 24)), .int (iI kd), .ref (ad 244)]) ok (c_Mo_down F1 G1 _ _ hpr2 (by omega) s0 a0 D t ad) k_1191 k_11 k_1189 k_1190 q_Mo_down (by decide) (Nat.le_of_ble_eq_true rfl) (by decide) d_Mo_move_43 (fun z3 hc3 => ?_)
        subst hc3
        refine g_iadd ok d_Mo_move_46 ?_
        refine g_top (y := al (F 244 24) u k (nst (F 244 24) (F 244 25) u v)) (by unfold al; rw [if_neg (by omega)]) ?_
        refine g_iload ok d_Mo_move_47 6 rfl ?_
        refine g_iload ok d_Mo_move_49 7 rfl ?_
        refine g_iload_n ok d_Mo_move_51 rfl 3 rfl ?_
        refine g_iload ok d_Mo_move_52 6 rfl ?_
        refine g_isub ok d_Mo_move_54 ?_
        refine g_imul ok d_Mo_move_55 ?_
        refine g_iload ok d_Mo_move_56 4 rfl ?_
        have hpr3 : -2147483648 ≤ k * (v - (F 244 25)) ∧ k * (v - (F 244 25)) < 2147483648 := by have h := mul_rng (a := k) (b := v - (F 244 25)) (by omega) (by omega); omega
        refine g_callPS (As := [.int (iI (k * (v - (F 244 25)))), .int (iI (nst (F 244 24) (F 244 25) u v))]) (st := [.int (iI (F 244 25)), .int (iI (al (F 244 24) u k (nst (F 244 24) (F 244 25) u v))), .int (iI kd), .ref (ad 244)]) ok (c_Mo_down F1 G1 _ _ hpr3 (by omega) s0 a0 D t ad) k_1191 k_11 k_1189 k_1190 q_Mo_down (by decide) (Nat.le_of_ble_eq_true rfl) (by decide) d_Mo_move_58 (fun z4 hc4 => ?_)
        subst hc4
        refine g_iadd ok d_Mo_move_61 ?_
        refine g_top (y := al (F 244 25) v k (nst (F 244 24) (F 244 25) u v)) (by unfold al; rw [if_neg (by omega)]) ?_
        refine g_callVV (As := [.int (iI kd), .int (iI (al (F 244 24) u k (nst (F 244 24) (F 244 25) u v))), .int (iI (al (F 244 25) v k (nst (F 244 24) (F 244 25) u v)))]) (st := []) ok _ (c_Mo_step F1 G1 _ _ _ (by omega) s0 a0 D t ad) k_1224 k_11 k_1221 cl_Mo (m_Mo (ad := ad) (t := t) (F := F1) (G := G1) rfl).1 (m_Mo rfl).2 k_1223 s_Mo_step q_Mo_step (by decide) (Nat.le_of_ble_eq_true rfl) (by decide) d_Mo_move_62 (fun ce1 hc5 => ?_)
        obtain ⟨Fq, Gq, rfl, hFq, hGq⟩ := hc5
        rw [hFq, hGq]
        clear hFq hGq
        refine g_iinc (lv' := [(7, .int (iI (k + 1))), (0, .ref (ad 244)), (1, .int (iI kd)), (2, .int (iI u)), (3, .int (iI v)), (4, .int (iI (nst (F 244 24) (F 244 25) u v))), (5, .int (iI (F 244 24))), (6, .int (iI (F 244 25)))]) ok d_Mo_move_65 7 rfl (by decide) rfl ?_
        refine g_goto ok 23 d_Mo_move_68 (by decide) ?_
        refine g_lv [1, 2, 3, 4, 5, 6, 7, 0] rfl ?_
        exact ih_k (k + 1) (stF F1 (al (F 244 24) u k (nst (F 244 24) (F 244 25) u v)) (al (F 244 25) v k (nst (F 244 24) (F 244 25) u v))) (stG F1 G1 (al (F 244 24) u k (nst (F 244 24) (F 244 25) u v)) (al (F 244 25) v k (nst (F 244 24) (F 244 25) u v)) kd) (by omega) (by rw [show k + 1 - 1 = k by omega, stF_24, stF_25]; exact ⟨rfl, rfl⟩) (⟨fun a b q => (stF_fr _ _ _ a b q).trans (hfr.1 a b q), fun a q => (stG_fr _ _ _ _ _ a (by omega)).trans (hfr.2 a q)⟩) (by rw [show k + 1 - 1 = k by omega, mvL_step hk.1, ← List.append_assoc]; exact recR_add hp (rcOk_mk (by omega) (by omega) hk0) (stF_20 _ _ _) (by unfold stG; rw [hF.1, hF.2])) (by omega)
  refine g_z ?_
  refine g_lv [4, 5, 6, 7, 3, 2, 1, 0] rfl ?_
  exact L_k (((nst (F 244 24) (F 244 25) u v) + 2 - 1 : Int).toNat + 1) 1 F G (by omega) (by rw [show (1 : Int) - 1 = 0 by decide, al_0, al_0]; exact ⟨rfl, rfl⟩) (⟨fun _ _ _ => rfl, fun _ _ => rfl⟩) (by rw [show ((1 : Int) - 1).toNat = 0 from rfl]; show recR F G (L ++ []); rw [List.append_nil]; exact hp0) (by omega)
theorem d_Mo_leap_0 : decode b_Mo_leap 0 = .ok (.iload_n 1, 1) := by decide +kernel
theorem d_Mo_leap_1 : decode b_Mo_leap 1 = .ok (.aload_n 0, 1) := by decide +kernel
theorem d_Mo_leap_2 : decode b_Mo_leap 2 = .ok (.getfield 85, 3) := by decide +kernel
theorem d_Mo_leap_5 : decode b_Mo_leap 5 = .ok (.isub, 1) := by decide +kernel
theorem d_Mo_leap_6 : decode b_Mo_leap 6 = .ok (.invokestatic 127, 3) := by decide +kernel
theorem d_Mo_leap_9 : decode b_Mo_leap 9 = .ok (.iload_n 2, 1) := by decide +kernel
theorem d_Mo_leap_10 : decode b_Mo_leap 10 = .ok (.aload_n 0, 1) := by decide +kernel
theorem d_Mo_leap_11 : decode b_Mo_leap 11 = .ok (.getfield 88, 3) := by decide +kernel
theorem d_Mo_leap_14 : decode b_Mo_leap 14 = .ok (.isub, 1) := by decide +kernel
theorem d_Mo_leap_15 : decode b_Mo_leap 15 = .ok (.invokestatic 127, 3) := by decide +kernel
theorem d_Mo_leap_18 : decode b_Mo_leap 18 = .ok (.invokestatic 162, 3) := by decide +kernel
theorem d_Mo_leap_21 : decode b_Mo_leap 21 = .ok (.sipush 300, 3) := by decide +kernel
theorem d_Mo_leap_24 : decode b_Mo_leap 24 = .ok (.if_icmp .le 16, 3) := by decide +kernel
theorem d_Mo_leap_27 : decode b_Mo_leap 27 = .ok (.aload_n 0, 1) := by decide +kernel
theorem d_Mo_leap_28 : decode b_Mo_leap 28 = .ok (.iconst 2, 1) := by decide +kernel
theorem d_Mo_leap_29 : decode b_Mo_leap 29 = .ok (.aload_n 0, 1) := by decide +kernel
theorem d_Mo_leap_30 : decode b_Mo_leap 30 = .ok (.getfield 85, 3) := by decide +kernel
theorem d_Mo_leap_33 : decode b_Mo_leap 33 = .ok (.aload_n 0, 1) := by decide +kernel
theorem d_Mo_leap_34 : decode b_Mo_leap 34 = .ok (.getfield 88, 3) := by decide +kernel
theorem d_Mo_leap_37 : decode b_Mo_leap 37 = .ok (.invokevirtual 171, 3) := by decide +kernel
theorem d_Mo_leap_40 : decode b_Mo_leap 40 = .ok (.aload_n 0, 1) := by decide +kernel
theorem d_Mo_leap_41 : decode b_Mo_leap 41 = .ok (.iconst 1, 1) := by decide +kernel
theorem d_Mo_leap_42 : decode b_Mo_leap 42 = .ok (.iload_n 1, 1) := by decide +kernel
theorem d_Mo_leap_43 : decode b_Mo_leap 43 = .ok (.iload_n 2, 1) := by decide +kernel
theorem d_Mo_leap_44 : decode b_Mo_leap 44 = .ok (.invokevirtual 175, 3) := by decide +kernel
theorem d_Mo_leap_47 : decode b_Mo_leap 47 = .ok (.return_, 1) := by decide +kernel
set_option maxHeartbeats 1000000 in
set_option maxRecDepth 100000 in
theorem c_Mo_leap (F : Nat → Nat → Int) (G : Nat → Int → Int) (u v : Int) (L : List Rc) (hR : mdR F G (F 244 24, F 244 25, F 244 29, L)) (hU : inR u v) (hL : L.length ≤ 4400) : cV y_Mo_leap b_Mo_leap 3 none 3 70 F G (fun ad => [.ref (ad 244), .int (iI u), .int (iI v)]) (fun F' G' => mdR F' G' (lpS u v (F 244 24, F 244 25, F 244 29, L)) ∧ mF F F' ∧ mG G G') := by
  obtain ⟨-, -, -, hp0, hX, ht⟩ := id hR
  simp only at hp0 hX ht
  have hl0 := hp0.1
  have hxy := hX
  have huv := hU
  unfold inR at hxy huv
  have hfa := far_rng hX hU
  intro s0 a0 D t ad
  refine g_startV (by decide +kernel) (Nat.le_of_ble_eq_true rfl) (fun p l e R s m args below meth c A ok => ?_)
  show gW p l e R s m args below meth c _ D A 3 (gZ0 s) 0 0 ad 265 (mem ad t F G) 0 [(0, .ref (ad 244)), (1, .int (iI u)), (2, .int (iI v))] []
  refine g_iload_n ok d_Mo_leap_0 rfl 1 rfl ?_
  refine g_aload_n ok d_Mo_leap_1 rfl 0 rfl ?_
  refine gI_Mo_nx ok _ rfl k_1013 d_Mo_leap_2 ?_
  refine g_isub ok d_Mo_leap_5 ?_
  refine g_callPS (As := [.int (iI (u - (F 244 24)))]) (st := []) ok (c_Mo_size F G _ (by omega) s0 a0 D t ad) k_1157 k_11 k_1155 k_1156 q_Mo_size (by decide) (Nat.le_of_ble_eq_true rfl) (by decide) d_Mo_leap_6 (fun z1 hc1 => ?_)
  subst hc1
  refine g_top (y := iab (u - (F 244 24))) rfl ?_
  have hab1 := iab_rng (a := u - (F 244 24)) (by omega)
  refine g_iload_n ok d_Mo_leap_9 rfl 2 rfl ?_
  refine g_aload_n ok d_Mo_leap_10 rfl 0 rfl ?_
  refine gI_Mo_ny ok _ rfl k_1014 d_Mo_leap_11 ?_
  refine g_isub ok d_Mo_leap_14 ?_
  refine g_callPS (As := [.int (iI (v - (F 244 25)))]) (st := [.int (iI (iab (u - (F 244 24))))]) ok (c_Mo_size F G _ (by omega) s0 a0 D t ad) k_1157 k_11 k_1155 k_1156 q_Mo_size (by decide) (Nat.le_of_ble_eq_true rfl) (by decide) d_Mo_leap_15 (fun z2 hc2 => ?_)
  subst hc2
  refine g_top (y := iab (v - (F 244 25))) rfl ?_
  have hab2 := iab_rng (a := v - (F 244 25)) (by omega)
  refine g_callPS (As := [.int (iI (iab (u - (F 244 24)))), .int (iI (iab (v - (F 244 25))))]) (st := []) ok (c_Mo_greater F G _ _ (by omega) (by omega) s0 a0 D t ad) k_1220 k_11 k_1218 k_1219 q_Mo_greater (by decide) (Nat.le_of_ble_eq_true rfl) (by decide) d_Mo_leap_18 (fun z3 hc3 => ?_)
  subst hc3
  refine g_top (y := far (F 244 24) (F 244 25) u v) rfl ?_
  refine g_sipush ok (by decide) d_Mo_leap_21 ?_
  refine g_icmp_le ok 40 d_Mo_leap_24 (by decide) (by omega) (by omega) (fun h4 => ?_) (fun h4 => ?_)
  · refine g_aload_n ok d_Mo_leap_40 rfl 0 rfl ?_
    refine g_iconst ok d_Mo_leap_41 ?_
    refine g_iload_n ok d_Mo_leap_42 rfl 1 rfl ?_
    refine g_iload_n ok d_Mo_leap_43 rfl 2 rfl ?_
    refine g_callVV (As := [.int (iI 1), .int (iI u), .int (iI v)]) (st := []) ok _ (c_Mo_move F G _ _ _ L hR hU (by decide) (by omega) s0 a0 D t ad) k_1213 k_11 k_1210 cl_Mo (m_Mo (ad := ad) (t := t) (F := F) (G := G) rfl).1 (m_Mo rfl).2 k_1212 s_Mo_move q_Mo_move (by decide) (Nat.le_of_ble_eq_true rfl) (by decide) d_Mo_leap_44 (fun ce1 hc5 => ?_)
    obtain ⟨F2, G2, rfl, hR2, hf2, hg2⟩ := hc5
    exact g_vret ok d_Mo_leap_47 ⟨_, _, rfl, by unfold lpS; rw [if_neg (show ¬ 300 < far (F 244 24) (F 244 25) u v by omega)]; exact hR2, hf2, hg2⟩
  · refine g_aload_n ok d_Mo_leap_27 rfl 0 rfl ?_
    refine g_iconst ok d_Mo_leap_28 ?_
    refine g_aload_n ok d_Mo_leap_29 rfl 0 rfl ?_
    refine gI_Mo_nx ok _ rfl k_1013 d_Mo_leap_30 ?_
    refine g_aload_n ok d_Mo_leap_33 rfl 0 rfl ?_
    refine gI_Mo_ny ok _ rfl k_1014 d_Mo_leap_34 ?_
    refine g_callVV (As := [.int (iI 2), .int (iI (F 244 24)), .int (iI (F 244 25))]) (st := []) ok _ (c_Mo_step F G _ _ _ (by omega) s0 a0 D t ad) k_1224 k_11 k_1221 cl_Mo (m_Mo (ad := ad) (t := t) (F := F) (G := G) rfl).1 (m_Mo rfl).2 k_1223 s_Mo_step q_Mo_step (by decide) (Nat.le_of_ble_eq_true rfl) (by decide) d_Mo_leap_37 (fun ce1 hc6 => ?_)
    obtain ⟨Fq, Gq, rfl, hFq, hGq⟩ := hc6
    rw [hFq, hGq]
    clear hFq hGq
    refine g_aload_n ok d_Mo_leap_40 rfl 0 rfl ?_
    refine g_iconst ok d_Mo_leap_41 ?_
    refine g_iload_n ok d_Mo_leap_42 rfl 1 rfl ?_
    refine g_iload_n ok d_Mo_leap_43 rfl 2 rfl ?_
    have hR1 : mdR (stF F (F 244 24) (F 244 25)) (stG F G (F 244 24) (F 244 25) 2) (F 244 24, F 244 25, F 244 29, L ++ [(0, 0, 2)]) := ⟨stF_24 _ _ _, stF_25 _ _ _, stF_fr _ _ _ _ _ (by omega), recR_add hp0 (rcOk_mk (by decide) (by decide) (by decide)) (stF_20 _ _ _) (by unfold stG; rw [Int.sub_self, Int.sub_self]), hX, ht⟩
    have q1 := mdR_eq hR1
    refine g_callVV (As := [.int (iI 1), .int (iI u), .int (iI v)]) (st := []) ok _ (c_Mo_move (stF F (F 244 24) (F 244 25)) (stG F G (F 244 24) (F 244 25) 2) _ _ _ _ (q1 ▸ hR1) hU (by decide) (by simp; omega) s0 a0 D t ad) k_1213 k_11 k_1210 cl_Mo (m_Mo (ad := ad) (t := t) (F := (stF F (F 244 24) (F 244 25))) (G := (stG F G (F 244 24) (F 244 25) 2)) rfl).1 (m_Mo rfl).2 k_1212 s_Mo_move q_Mo_move (by decide) (Nat.le_of_ble_eq_true rfl) (by decide) d_Mo_leap_44 (fun ce1 hc7 => ?_)
    obtain ⟨F2, G2, rfl, hR2, hf2, hg2⟩ := hc7
    rw [← q1] at hR2
    exact g_vret ok d_Mo_leap_47 ⟨_, _, rfl, by unfold lpS; rw [if_pos (show 300 < far (F 244 24) (F 244 25) u v by omega)]; exact hR2, mF_tr (fun a b q => stF_fr _ _ _ a b (by omega)) hf2, mG_tr (fun a q => stG_fr _ _ _ _ _ a (by omega)) hg2⟩
def hasM (G : Nat → Int → Int) (n x y : Int) : Prop := inR x y ∧ mHas G n x y
theorem hasM_cong {G G1 : Nat → Int → Int} {n : Int} (h : mG G G1) : hasM G1 n = hasM G n := by
  funext x y
  unfold hasM mHas mC mOn mCr
  rw [h 251 (by omega), h 252 (by omega), h 253 (by omega), h 254 (by omega), h 255 (by omega)]
theorem mE_cong {G G1 : Nat → Int → Int} {n : Int} (h : mG G G1) (hE : mE G n) : mE G1 n := by
  unfold mE at hE ⊢
  rw [h 251 (by omega), h 252 (by omega), h 253 (by omega), h 254 (by omega), h 255 (by omega), h 256 (by omega)]
  exact hE
theorem d_Mo_stepsIn_0 : decode b_Mo_stepsIn 0 = .ok (.aload_n 0, 1) := by decide +kernel
theorem d_Mo_stepsIn_1 : decode b_Mo_stepsIn 1 = .ok (.iload_n 1, 1) := by decide +kernel
theorem d_Mo_stepsIn_2 : decode b_Mo_stepsIn 2 = .ok (.iload_n 2, 1) := by decide +kernel
theorem d_Mo_stepsIn_3 : decode b_Mo_stepsIn 3 = .ok (.invokevirtual 165, 3) := by decide +kernel
theorem d_Mo_stepsIn_6 : decode b_Mo_stepsIn 6 = .ok (.istore_n 3, 1) := by decide +kernel
theorem d_Mo_stepsIn_7 : decode b_Mo_stepsIn 7 = .ok (.iconst 1, 1) := by decide +kernel
theorem d_Mo_stepsIn_8 : decode b_Mo_stepsIn 8 = .ok (.istore 4, 2) := by decide +kernel
theorem d_Mo_stepsIn_10 : decode b_Mo_stepsIn 10 = .ok (.iload 4, 2) := by decide +kernel
theorem d_Mo_stepsIn_12 : decode b_Mo_stepsIn 12 = .ok (.iload_n 3, 1) := by decide +kernel
theorem d_Mo_stepsIn_13 : decode b_Mo_stepsIn 13 = .ok (.if_icmp .gt 54, 3) := by decide +kernel
theorem d_Mo_stepsIn_16 : decode b_Mo_stepsIn 16 = .ok (.aload_n 0, 1) := by decide +kernel
theorem d_Mo_stepsIn_17 : decode b_Mo_stepsIn 17 = .ok (.aload_n 0, 1) := by decide +kernel
theorem d_Mo_stepsIn_18 : decode b_Mo_stepsIn 18 = .ok (.getfield 85, 3) := by decide +kernel
theorem d_Mo_stepsIn_21 : decode b_Mo_stepsIn 21 = .ok (.iload 4, 2) := by decide +kernel
theorem d_Mo_stepsIn_23 : decode b_Mo_stepsIn 23 = .ok (.iload_n 1, 1) := by decide +kernel
theorem d_Mo_stepsIn_24 : decode b_Mo_stepsIn 24 = .ok (.aload_n 0, 1) := by decide +kernel
theorem d_Mo_stepsIn_25 : decode b_Mo_stepsIn 25 = .ok (.getfield 85, 3) := by decide +kernel
theorem d_Mo_stepsIn_28 : decode b_Mo_stepsIn 28 = .ok (.isub, 1) := by decide +kernel
theorem d_Mo_stepsIn_29 : decode b_Mo_stepsIn 29 = .ok (.imul, 1) := by decide +kernel
theorem d_Mo_stepsIn_30 : decode b_Mo_stepsIn 30 = .ok (.iload_n 3, 1) := by decide +kernel
theorem d_Mo_stepsIn_31 : decode b_Mo_stepsIn 31 = .ok (.invokestatic 168, 3) := by decide +kernel
theorem d_Mo_stepsIn_34 : decode b_Mo_stepsIn 34 = .ok (.iadd, 1) := by decide +kernel
theorem d_Mo_stepsIn_35 : decode b_Mo_stepsIn 35 = .ok (.aload_n 0, 1) := by decide +kernel
theorem d_Mo_stepsIn_36 : decode b_Mo_stepsIn 36 = .ok (.getfield 88, 3) := by decide +kernel
theorem d_Mo_stepsIn_39 : decode b_Mo_stepsIn 39 = .ok (.iload 4, 2) := by decide +kernel
theorem d_Mo_stepsIn_41 : decode b_Mo_stepsIn 41 = .ok (.iload_n 2, 1) := by decide +kernel
theorem d_Mo_stepsIn_42 : decode b_Mo_stepsIn 42 = .ok (.aload_n 0, 1) := by decide +kernel
theorem d_Mo_stepsIn_43 : decode b_Mo_stepsIn 43 = .ok (.getfield 88, 3) := by decide +kernel
theorem d_Mo_stepsIn_46 : decode b_Mo_stepsIn 46 = .ok (.isub, 1) := by decide +kernel
theorem d_Mo_stepsIn_47 : decode b_Mo_stepsIn 47 = .ok (.imul, 1) := by decide +kernel
theorem d_Mo_stepsIn_48 : decode b_Mo_stepsIn 48 = .ok (.iload_n 3, 1) := by decide +kernel
theorem d_Mo_stepsIn_49 : decode b_Mo_stepsIn 49 = .ok (.invokestatic 168, 3) := by decide +kernel
theorem d_Mo_stepsIn_52 : decode b_Mo_stepsIn 52 = .ok (.iadd, 1) := by decide +kernel
theorem d_Mo_stepsIn_53 : decode b_Mo_stepsIn 53 = .ok (.invokevirtual 178, 3) := by decide +kernel
theorem d_Mo_stepsIn_56 : decode b_Mo_stepsIn 56 = .ok (.ifCond .ne 5, 3) := by decide +kernel
theorem d_Mo_stepsIn_59 : decode b_Mo_stepsIn 59 = .ok (.iconst 0, 1) := by decide +kernel
theorem d_Mo_stepsIn_60 : decode b_Mo_stepsIn 60 = .ok (.ireturn, 1) := by decide +kernel
theorem d_Mo_stepsIn_61 : decode b_Mo_stepsIn 61 = .ok (.iinc 4 1, 3) := by decide +kernel
theorem d_Mo_stepsIn_64 : decode b_Mo_stepsIn 64 = .ok (.goto (-54), 3) := by decide +kernel
theorem d_Mo_stepsIn_67 : decode b_Mo_stepsIn 67 = .ok (.iconst 1, 1) := by decide +kernel
theorem d_Mo_stepsIn_68 : decode b_Mo_stepsIn 68 = .ok (.ireturn, 1) := by decide +kernel
set_option maxHeartbeats 1000000 in
set_option maxRecDepth 100000 in
theorem c_Mo_stepsIn (F : Nat → Nat → Int) (G : Nat → Int → Int) (u v : Int) (hX : inR (F 244 24) (F 244 25)) (hU : inR u v) (hn : 0 ≤ F 244 12 ∧ F 244 12 ≤ 100) (hE : mE G (F 244 12)) : cI y_Mo_stepsIn b_Mo_stepsIn 5 (some .boolean) 3 71 F G (fun ad => [.ref (ad 244), .int (iI u), .int (iI v)]) (fun z F' G' => F' = F ∧ mG G G' ∧ (∀ a, ¬ a = 257 → G' a = G a) ∧ (z = 0 ∨ z = 1) ∧ (z = 1 ↔ stays (hasM G (F 244 12)) (F 244 24) (F 244 25) u v)) := by
  have hxy := hX
  have huv := hU
  unfold inR at hxy huv
  have hns := nst_rng hX hU
  intro s0 a0 D t ad
  refine g_startI (by decide +kernel) (Nat.le_of_ble_eq_true rfl) (fun p l e R s m args below meth c A ok => ?_)
  show gW p l e R s m args below meth c _ D A 5 (gZ0 s) 0 0 ad 265 (mem ad t F G) 0 [(0, .ref (ad 244)), (1, .int (iI u)), (2, .int (iI v))] []
  refine g_aload_n ok d_Mo_stepsIn_0 rfl 0 rfl ?_
  refine g_iload_n ok d_Mo_stepsIn_1 rfl 1 rfl ?_
  refine g_iload_n ok d_Mo_stepsIn_2 rfl 2 rfl ?_
  refine g_callPV (As := [.int (iI u), .int (iI v)]) (st := []) ok _ (c_Mo_stepsTo F G _ _ hX hU s0 a0 D t ad) k_1217 k_11 k_1214 cl_Mo (m_Mo (ad := ad) (t := t) (F := F) (G := G) rfl).1 (m_Mo rfl).2 k_1216 s_Mo_stepsTo q_Mo_stepsTo (by decide) (Nat.le_of_ble_eq_true rfl) (by decide) d_Mo_stepsIn_3 (fun z1 hc1 => ?_)
  subst hc1
  refine g_istore_n (lv' := [(3, .int (iI (nst (F 244 24) (F 244 25) u v))), (0, .ref (ad 244)), (1, .int (iI u)), (2, .int (iI v))]) ok d_Mo_stepsIn_6 rfl (by decide) rfl ?_
  refine g_iconst ok d_Mo_stepsIn_7 ?_
  refine g_istore (lv' := [(4, .int (iI 1)), (3, .int (iI (nst (F 244 24) (F 244 25) u v))), (0, .ref (ad 244)), (1, .int (iI u)), (2, .int (iI v))]) ok d_Mo_stepsIn_8 (by decide) rfl ?_
  have L_q : ∀ (n_q : Nat) (q : Int) (G1 : Nat → Int → Int), (1 ≤ q ∧ q ≤ (nst (F 244 24) (F 244 25) u v) + 1) → (mG G G1) → (∀ a, ¬ a = 257 → G1 a = G a) → (∀ a : Int, 1 ≤ a → a < q → hasM G (F 244 12) (al (F 244 24) u a (nst (F 244 24) (F 244 25) u v)) (al (F 244 25) v a (nst (F 244 24) (F 244 25) u v))) → ((nst (F 244 24) (F 244 25) u v) + 2 - q) < (n_q : Int) → gW p l e R s m args below meth c (MQ below (gQi D A ad 265 (fun z ce' => ∃ F' G', ce' = mem ad t F' G' ∧ (fun z F' G' => F' = F ∧ mG G G' ∧ (∀ a, ¬ a = 257 → G' a = G a) ∧ (z = 0 ∨ z = 1) ∧ (z = 1 ↔ stays (hasM G (F 244 12)) (F 244 24) (F 244 25) u v)) z F' G')) args s 0 0 A) D A 5 (gZ) 0 0 ad 265 (mem ad t F G1) 10 [(0, .ref (ad 244)), (1, .int (iI u)), (2, .int (iI v)), (3, .int (iI (nst (F 244 24) (F 244 25) u v))), (4, .int (iI q))] [] := by
    intro n_q
    induction n_q with
    | zero =>
      intro q G1 hq hg hg7 ho hm_q
      exact absurd hm_q (by omega)
    | succ n_q ih_q =>
      intro q G1 hq hg hg7 ho hm_q
      refine g_iload ok d_Mo_stepsIn_10 4 rfl ?_
      refine g_iload_n ok d_Mo_stepsIn_12 rfl 3 rfl ?_
      refine g_icmp_gt ok 67 d_Mo_stepsIn_13 (by decide) (by omega) (by omega) (fun h2 => ?_) (fun h2 => ?_)
      · refine g_iconst ok d_Mo_stepsIn_67 ?_
        exact g_zret ok d_Mo_stepsIn_68 (Or.inr rfl) ⟨_, _, rfl, rfl, hg, hg7, Or.inr rfl, ⟨fun _ a q1 q2 => ho a q1 (by omega), fun _ => rfl⟩⟩
      · refine g_aload_n ok d_Mo_stepsIn_16 rfl 0 rfl ?_
        refine g_aload_n ok d_Mo_stepsIn_17 rfl 0 rfl ?_
        refine gI_Mo_nx ok _ rfl k_1013 d_Mo_stepsIn_18 ?_
        refine g_iload ok d_Mo_stepsIn_21 4 rfl ?_
        refine g_iload_n ok d_Mo_stepsIn_23 rfl 1 rfl ?_
        refine g_aload_n ok d_Mo_stepsIn_24 rfl 0 rfl ?_
        refine gI_Mo_nx ok _ rfl k_1013 d_Mo_stepsIn_25 ?_
        refine g_isub ok d_Mo_stepsIn_28 ?_
        refine g_imul ok d_Mo_stepsIn_29 ?_
        refine g_iload_n ok d_Mo_stepsIn_30 rfl 3 rfl ?_
        have hpr2 : -2147483648 ≤ q * (u - (F 244 24)) ∧ q * (u - (F 244 24)) < 2147483648 := by have h := mul_rng (a := q) (b := u - (F 244 24)) (by omega) (by omega); omega
        refine g_callPS (As := [.int (iI (q * (u - (F 244 24)))), .int (iI (nst (F 244 24) (F 244 25) u v))]) (st := [.int (iI (F 244 24)), .ref (ad 244)]) ok (c_Mo_down F G1 _ _ hpr2 (by omega) s0 a0 D t ad) k_1191 k_11 k_1189 k_1190 q_Mo_down (by decide) (Nat.le_of_ble_eq_true rfl) (by decide) d_Mo_stepsIn_31 (fun z3 hc3 => ?_)
        subst hc3
        refine g_iadd ok d_Mo_stepsIn_34 ?_
        refine g_top (y := al (F 244 24) u q (nst (F 244 24) (F 244 25) u v)) (by unfold al; rw [if_neg (by omega)]) ?_
        refine g_aload_n ok d_Mo_stepsIn_35 rfl 0 rfl ?_
        refine gI_Mo_ny ok _ rfl k_1014 d_Mo_stepsIn_36 ?_
        refine g_iload ok d_Mo_stepsIn_39 4 rfl ?_
        refine g_iload_n ok d_Mo_stepsIn_41 rfl 2 rfl ?_
        refine g_aload_n ok d_Mo_stepsIn_42 rfl 0 rfl ?_
        refine gI_Mo_ny ok _ rfl k_1014 d_Mo_stepsIn_43 ?_
        refine g_isub ok d_Mo_stepsIn_46 ?_
        refine g_imul ok d_Mo_stepsIn_47 ?_
        refine g_iload_n ok d_Mo_stepsIn_48 rfl 3 rfl ?_
        have hpr3 : -2147483648 ≤ q * (v - (F 244 25)) ∧ q * (v - (F 244 25)) < 2147483648 := by have h := mul_rng (a := q) (b := v - (F 244 25)) (by omega) (by omega); omega
        refine g_callPS (As := [.int (iI (q * (v - (F 244 25)))), .int (iI (nst (F 244 24) (F 244 25) u v))]) (st := [.int (iI (F 244 25)), .int (iI (al (F 244 24) u q (nst (F 244 24) (F 244 25) u v))), .ref (ad 244)]) ok (c_Mo_down F G1 _ _ hpr3 (by omega) s0 a0 D t ad) k_1191 k_11 k_1189 k_1190 q_Mo_down (by decide) (Nat.le_of_ble_eq_true rfl) (by decide) d_Mo_stepsIn_49 (fun z4 hc4 => ?_)
        subst hc4
        refine g_iadd ok d_Mo_stepsIn_52 ?_
        refine g_top (y := al (F 244 25) v q (nst (F 244 24) (F 244 25) u v)) (by unfold al; rw [if_neg (by omega)]) ?_
        have p1 := al_rng (a := F 244 24) (b := u) (k := q) (n := nst (F 244 24) (F 244 25) u v) (by omega) (by omega) (by omega)
        have p2 := al_rng (a := F 244 25) (b := v) (k := q) (n := nst (F 244 24) (F 244 25) u v) (by omega) (by omega) (by omega)
        refine g_callIV (As := [.int (iI (al (F 244 24) u q (nst (F 244 24) (F 244 25) u v))), .int (iI (al (F 244 25) v q (nst (F 244 24) (F 244 25) u v)))]) (st := []) ok _ (c_Mo_in F G1 _ _ hn (mE_cong hg hE) p1 p2 s0 a0 D t ad) k_1205 k_11 k_1202 cl_Mo (m_Mo (ad := ad) (t := t) (F := F) (G := G1) rfl).1 (m_Mo rfl).2 k_1204 s_Mo_in q_Mo_in (by decide) (Nat.le_of_ble_eq_true rfl) (by decide) d_Mo_stepsIn_53 (fun z5 ce1 hc5 => ?_)
        obtain ⟨F2, G2, rfl, hF2, hg2, hzb, hz2⟩ := hc5
        rw [hF2]
        have hg3 : mG G G2 := fun a q => (hg2 a (by omega)).trans (hg a q)
        have hh : z5 = 1 ↔ hasM G (F 244 12) (al (F 244 24) u q (nst (F 244 24) (F 244 25) u v)) (al (F 244 25) v q (nst (F 244 24) (F 244 25) u v)) := hz2.trans ⟨fun h => by rw [← hasM_cong hg]; exact ⟨⟨p1, p2⟩, h⟩, fun h => by rw [← hasM_cong hg] at h; exact h.2⟩
        refine g_if_ne ok 61 d_Mo_stepsIn_56 (by decide) (by omega) (fun h6 => ?_) (fun h6 => ?_)
        · refine g_iinc (lv' := [(4, .int (iI (q + 1))), (0, .ref (ad 244)), (1, .int (iI u)), (2, .int (iI v)), (3, .int (iI (nst (F 244 24) (F 244 25) u v)))]) ok d_Mo_stepsIn_61 4 rfl (by decide) rfl ?_
          refine g_goto ok 10 d_Mo_stepsIn_64 (by decide) ?_
          refine g_lv [1, 2, 3, 4, 0] rfl ?_
          exact ih_q (q + 1) G2 (by omega) (hg3) (fun a z => (hg2 a z).trans (hg7 a z)) (fun a q1 q2 => (Int.lt_or_eq_of_le (show a ≤ q by omega)).elim (fun z => ho a q1 z) (fun z => by subst z; exact hh.mp (by omega))) (by omega)
        · refine g_iconst ok d_Mo_stepsIn_59 ?_
          exact g_zret ok d_Mo_stepsIn_60 (Or.inl rfl) ⟨_, _, rfl, rfl, hg3, fun a z => (hg2 a z).trans (hg7 a z), Or.inl rfl, ⟨fun z => by omega, fun z => absurd (hh.mpr (z q (by omega) (by omega))) (by omega)⟩⟩
  refine g_z ?_
  refine g_lv [2, 3, 4, 1, 0] rfl ?_
  exact L_q (((nst (F 244 24) (F 244 25) u v) + 2 - 1 : Int).toNat + 1) 1 G (by omega) (fun _ _ => rfl) (fun _ _ => rfl) (fun a q1 q2 => by omega) (by omega)
