theorem oddN_congr {P Q : Int → Prop} : ∀ n : Nat, (∀ i : Int, 0 ≤ i → i < n → (P i ↔ Q i)) → (oddN P n ↔ oddN Q n)
  | 0, _ => Iff.rfl
  | n + 1, h => by
    have a := oddN_congr n (fun i h1 h2 => h i h1 (by omega))
    have b := h n (by omega) (by omega)
    show (oddN P n ∧ ¬ P n ∨ ¬ oddN P n ∧ P n) ↔ (oddN Q n ∧ ¬ Q n ∨ ¬ oddN Q n ∧ Q n)
    rw [a, b]
def hasC (F : Nat → Nat → Int) (G : Nat → Int → Int) (k : Nat) (x y : Int) : Prop := inR x y ∧ sHas F G k x y
theorem hasC_cong {F F1 : Nat → Nat → Int} {G G1 : Nat → Int → Int} {k : Nat} (hK : isSh k) (hF : ∀ a b, k ≤ a → a < k + 21 → F1 a b = F a b) (hG : ∀ a, k ≤ a → a < k + 21 → G1 a = G a) : hasC F1 G1 k = hasC F G k := by
  have s1 : ∀ x y q : Int, 0 ≤ q → q < 4 → (sOn F1 G1 k x y q ↔ sOn F G k x y q) := fun x y q h1 h2 => by
    unfold sOn
    rw [hF _ _ (by omega) (by omega), hG _ (by omega) (by omega), hG _ (by omega) (by omega)]
  have s2 : ∀ x y q : Int, 0 ≤ q → q < 4 → (sIn F1 G1 k x y q ↔ sIn F G k x y q) := fun x y q h1 h2 => by
    unfold sIn
    rw [hF _ _ (by omega) (by omega), hG _ (by omega) (by omega), hG _ (by omega) (by omega)]
  funext x y
  have s3 : sHas F1 G1 k x y ↔ sHas F G k x y := by
    unfold sHas
    have b : sBox F1 k x y ↔ sBox F k x y := by
      unfold sBox
      rw [hF _ _ (by omega) (by omega), hF _ _ (by omega) (by omega), hF _ _ (by omega) (by omega), hF _ _ (by omega) (by omega)]
    have c := oddN_congr 4 (fun i h1 h2 => s2 x y i h1 h2)
    rw [b, c]
    constructor
    · rintro ⟨h, h2⟩
      refine ⟨h, ?_⟩
      rcases h2 with ⟨q, q1, q2, q3⟩ | ⟨q1, q2⟩
      · exact Or.inl ⟨q, q1, q2, (s1 x y q q1 q2).mp q3⟩
      · exact Or.inr ⟨fun q h1 h2 h3 => q1 q h1 h2 ((s1 x y q h1 h2).mpr h3), q2⟩
    · rintro ⟨h, h2⟩
      refine ⟨h, ?_⟩
      rcases h2 with ⟨q, q1, q2, q3⟩ | ⟨q1, q2⟩
      · exact Or.inl ⟨q, q1, q2, (s1 x y q q1 q2).mpr q3⟩
      · exact Or.inr ⟨fun q h1 h2 h3 => q1 q h1 h2 ((s1 x y q h1 h2).mp h3), q2⟩
  unfold hasC
  rw [s3]
/-- a shape that is whole: its rings and rails, its numbers and its box -/
def shOk (F : Nat → Nat → Int) (G : Nat → Int → Int) (k : Nat) : Prop := isSh k ∧ sRg F G k ∧ ((0 ≤ F k 7 ∧ F k 7 ≤ 600) ∧ (0 ≤ F k 8 ∧ F k 8 ≤ 600) ∧ (0 ≤ F k 9 ∧ F k 9 ≤ 600) ∧ (0 ≤ F k 10 ∧ F k 10 ≤ 600)) ∧ ((0 ≤ F k 3 ∧ F k 3 ≤ 7) ∧ (0 ≤ F k 4 ∧ F k 4 ≤ 2) ∧ (4 ≤ F k 5 ∧ F k 5 ≤ 20) ∧ (0 ≤ F k 6 ∧ F k 6 ≤ 3)) ∧ rIn F G (k + 15) ∧ rIn F G (k + 18)
theorem shOk_cong {F F1 : Nat → Nat → Int} {G G1 : Nat → Int → Int} {k : Nat} (h : shOk F G k) (hF : ∀ a b, k ≤ a → a < k + 21 → F1 a b = F a b) (hG : ∀ a, k ≤ a → a < k + 21 → G1 a = G a) : shOk F1 G1 k := by
  obtain ⟨h1, h2, h3, h4, h5, h6⟩ := h
  refine ⟨h1, fun q hq => ?_, ?_, ?_, ?_, ?_⟩
  · have := h2 q hq
    unfold rIn at this ⊢
    rw [hF _ _ (by omega) (by omega), hG _ (by omega) (by omega), hG _ (by omega) (by omega)]
    exact this
  · rw [hF _ _ (by omega) (by omega), hF _ _ (by omega) (by omega), hF _ _ (by omega) (by omega), hF _ _ (by omega) (by omega)]
    exact h3
  · rw [hF _ _ (by omega) (by omega), hF _ _ (by omega) (by omega), hF _ _ (by omega) (by omega), hF _ _ (by omega) (by omega)]
    exact h4
  · unfold rIn at h5 ⊢
    rw [hF _ _ (by omega) (by omega), hG _ (by omega) (by omega), hG _ (by omega) (by omega)]
    exact h5
  · unfold rIn at h6 ⊢
    rw [hF _ _ (by omega) (by omega), hG _ (by omega) (by omega), hG _ (by omega) (by omega)]
    exact h6
def pmR (F : Nat → Nat → Int) (G : Nat → Int → Int) (s : PS) : Prop := F 235 2 = s.1 ∧ F 235 3 = s.2.1 ∧ F 235 4 = s.2.2.1 ∧ pathR F G s.2.2.2 ∧ inR s.1 s.2.1 ∧ (-1 ≤ s.2.2.1 ∧ s.2.2.1 ≤ 7)
def pFr (F F1 : Nat → Nat → Int) : Prop := ∀ a b, ¬ (a = 235 ∧ 2 ≤ b ∧ b ≤ 4) → a ≠ 236 → F1 a b = F a b
def qFr (G G1 : Nat → Int → Int) : Prop := ∀ a, a ≠ 237 → G1 a = G a
theorem pFr_tr {F F1 F2 : Nat → Nat → Int} (h : pFr F F1) (h2 : pFr F1 F2) : pFr F F2 := fun a b q1 q2 => (h2 a b q1 q2).trans (h a b q1 q2)
theorem qFr_tr {G G1 G2 : Nat → Int → Int} (h : qFr G G1) (h2 : qFr G1 G2) : qFr G G2 := fun a q => (h2 a q).trans (h a q)
theorem add_fr {F F1 : Nat → Nat → Int} (hF : F1 = (if F 236 1 < 4000 then fU F 236 1 (F 236 1 + 1) else fU F 236 2 1)) (a b : Nat) (ha : a ≠ 236) : F1 a b = F a b := by
  rw [hF]
  split
  · exact fU_ka ha
  · exact fU_ka ha
theorem add_gr {F : Nat → Nat → Int} {G G1 : Nat → Int → Int} {v : Int} (hG : G1 = (if F 236 1 < 4000 then gU G 237 (F 236 1) v else G)) (a : Nat) (ha : a ≠ 237) : G1 a = G a := by
  rw [hG]
  split
  · exact gU_k _ _ _ ha
  · rfl
theorem rcOk_mk {x y z : Int} (h : -121 ≤ x ∧ x ≤ 121) (h2 : -121 ≤ y ∧ y ≤ 121) (h3 : 0 ≤ z ∧ z < 4) : rcOk (x, y, z) := ⟨h, h2, h3⟩
theorem pmR_eq {F : Nat → Nat → Int} {G : Nat → Int → Int} {s : PS} (h : pmR F G s) : s = (F 235 2, F 235 3, F 235 4, s.2.2.2) := by
  obtain ⟨h1, h2, h3, -⟩ := h
  rw [h1, h2, h3]
theorem al_end {x y u v : Int} (h : inR x y) (h2 : inR u v) : al x u (nst x y u v) (nst x y u v) = u ∧ al y v (nst x y u v) (nst x y u v) = v := by
  have r := nst_rng h h2
  by_cases c : nst x y u v = 0
  · have q := nst_0 h h2 c
    rw [c, al_0, al_0]
    exact ⟨q.1.symm, q.2.symm⟩
  · exact ⟨al_n (by omega), al_n (by omega)⟩
theorem d_Pm_stepsTo_0 : decode b_Pm_stepsTo 0 = .ok (.iload_n 1, 1) := by decide +kernel
theorem d_Pm_stepsTo_1 : decode b_Pm_stepsTo 1 = .ok (.aload_n 0, 1) := by decide +kernel
theorem d_Pm_stepsTo_2 : decode b_Pm_stepsTo 2 = .ok (.getfield 21, 3) := by decide +kernel
theorem d_Pm_stepsTo_5 : decode b_Pm_stepsTo 5 = .ok (.isub, 1) := by decide +kernel
theorem d_Pm_stepsTo_6 : decode b_Pm_stepsTo 6 = .ok (.invokestatic 68, 3) := by decide +kernel
theorem d_Pm_stepsTo_9 : decode b_Pm_stepsTo 9 = .ok (.iload_n 2, 1) := by decide +kernel
theorem d_Pm_stepsTo_10 : decode b_Pm_stepsTo 10 = .ok (.aload_n 0, 1) := by decide +kernel
theorem d_Pm_stepsTo_11 : decode b_Pm_stepsTo 11 = .ok (.getfield 25, 3) := by decide +kernel
theorem d_Pm_stepsTo_14 : decode b_Pm_stepsTo 14 = .ok (.isub, 1) := by decide +kernel
theorem d_Pm_stepsTo_15 : decode b_Pm_stepsTo 15 = .ok (.invokestatic 68, 3) := by decide +kernel
theorem d_Pm_stepsTo_18 : decode b_Pm_stepsTo 18 = .ok (.invokestatic 74, 3) := by decide +kernel
theorem d_Pm_stepsTo_21 : decode b_Pm_stepsTo 21 = .ok (.istore_n 3, 1) := by decide +kernel
theorem d_Pm_stepsTo_22 : decode b_Pm_stepsTo 22 = .ok (.iload_n 3, 1) := by decide +kernel
theorem d_Pm_stepsTo_23 : decode b_Pm_stepsTo 23 = .ok (.bipush 70, 2) := by decide +kernel
theorem d_Pm_stepsTo_25 : decode b_Pm_stepsTo 25 = .ok (.iadd, 1) := by decide +kernel
theorem d_Pm_stepsTo_26 : decode b_Pm_stepsTo 26 = .ok (.iconst 1, 1) := by decide +kernel
theorem d_Pm_stepsTo_27 : decode b_Pm_stepsTo 27 = .ok (.isub, 1) := by decide +kernel
theorem d_Pm_stepsTo_28 : decode b_Pm_stepsTo 28 = .ok (.bipush 70, 2) := by decide +kernel
theorem d_Pm_stepsTo_30 : decode b_Pm_stepsTo 30 = .ok (.idiv, 1) := by decide +kernel
theorem d_Pm_stepsTo_31 : decode b_Pm_stepsTo 31 = .ok (.ireturn, 1) := by decide +kernel
set_option maxHeartbeats 1000000 in
set_option maxRecDepth 100000 in
theorem c_Pm_stepsTo (F : Nat → Nat → Int) (G : Nat → Int → Int) (u v : Int) (hX : inR (F 235 2) (F 235 3)) (hU : inR u v) : cP y_Pm_stepsTo b_Pm_stepsTo 4 (some .int) 1 21 F G (fun ad => [.ref (ad 235), .int (iI u), .int (iI v)]) (fun r => r = nst (F 235 2) (F 235 3) u v) := by
  have hxy := hX
  have huv := hU
  unfold inR at hxy huv
  have hfa := far_rng hX hU
  intro s0 a0 D t ad
  refine g_startP (by decide +kernel) (Nat.le_of_ble_eq_true rfl) (fun p l e R s m args below meth c A ok => ?_)
  show gW p l e R s m args below meth c _ D A 4 (gZ0 s) 0 0 ad 265 (mem ad t F G) 0 [(0, .ref (ad 235)), (1, .int (iI u)), (2, .int (iI v))] []
  refine g_iload_n ok d_Pm_stepsTo_0 rfl 1 rfl ?_
  refine g_aload_n ok d_Pm_stepsTo_1 rfl 0 rfl ?_
  refine gI_Pm_x ok _ rfl k_272 d_Pm_stepsTo_2 ?_
  refine g_isub ok d_Pm_stepsTo_5 ?_
  refine g_callPS (As := [.int (iI (u - (F 235 2)))]) (st := []) ok (c_Ma_abs F G _ (by omega) s0 a0 D t ad) k_494 k_18 k_492 k_493 q_Ma_abs (by decide) (Nat.le_of_ble_eq_true rfl) (by decide) d_Pm_stepsTo_6 (fun z1 hc1 => ?_)
  subst hc1
  refine g_top (y := iab (u - (F 235 2))) rfl ?_
  have hab1 := iab_rng (a := u - (F 235 2)) (by omega)
  refine g_iload_n ok d_Pm_stepsTo_9 rfl 2 rfl ?_
  refine g_aload_n ok d_Pm_stepsTo_10 rfl 0 rfl ?_
  refine gI_Pm_y ok _ rfl k_273 d_Pm_stepsTo_11 ?_
  refine g_isub ok d_Pm_stepsTo_14 ?_
  refine g_callPS (As := [.int (iI (v - (F 235 3)))]) (st := [.int (iI (iab (u - (F 235 2))))]) ok (c_Ma_abs F G _ (by omega) s0 a0 D t ad) k_494 k_18 k_492 k_493 q_Ma_abs (by decide) (Nat.le_of_ble_eq_true rfl) (by decide) d_Pm_stepsTo_15 (fun z2 hc2 => ?_)
  subst hc2
  refine g_top (y := iab (v - (F 235 3))) rfl ?_
  have hab2 := iab_rng (a := v - (F 235 3)) (by omega)
  refine g_callPS (As := [.int (iI (iab (u - (F 235 2)))), .int (iI (iab (v - (F 235 3))))]) (st := []) ok (c_Ma_max F G _ _ (by omega) (by omega) s0 a0 D t ad) k_414 k_18 k_495 k_413 q_Ma_max (by decide) (Nat.le_of_ble_eq_true rfl) (by decide) d_Pm_stepsTo_18 (fun z3 hc3 => ?_)
  subst hc3
  refine g_top (y := far (F 235 2) (F 235 3) u v) rfl ?_
  refine g_istore_n (lv' := [(3, .int (iI (far (F 235 2) (F 235 3) u v))), (0, .ref (ad 235)), (1, .int (iI u)), (2, .int (iI v))]) ok d_Pm_stepsTo_21 rfl (by decide) rfl ?_
  refine g_iload_n ok d_Pm_stepsTo_22 rfl 0 rfl ?_
  refine g_bipush ok (by decide) d_Pm_stepsTo_23 ?_
  refine g_iadd ok d_Pm_stepsTo_25 ?_
  refine g_iconst ok d_Pm_stepsTo_26 ?_
  refine g_isub ok d_Pm_stepsTo_27 ?_
  refine g_bipush ok (by decide) d_Pm_stepsTo_28 ?_
  refine g_idiv (z := nst (F 235 2) (F 235 3) u v) ok (iI_ne0 (by decide)) (by have h := iI_divN (x := ((far (F 235 2) (F 235 3) u v) + 70) - 1) (y := 70) (by omega) (by decide); rw [show (((far (F 235 2) (F 235 3) u v) + 70) - 1) / 70 = nst (F 235 2) (F 235 3) u v by unfold nst; omega] at h; exact h) d_Pm_stepsTo_30 ?_
  exact g_ipret ok d_Pm_stepsTo_31 (rfl)
theorem d_Pm_move_0 : decode b_Pm_move 0 = .ok (.aload_n 0, 1) := by decide +kernel
theorem d_Pm_move_1 : decode b_Pm_move 1 = .ok (.getfield 21, 3) := by decide +kernel
theorem d_Pm_move_4 : decode b_Pm_move 4 = .ok (.istore 4, 2) := by decide +kernel
theorem d_Pm_move_6 : decode b_Pm_move 6 = .ok (.aload_n 0, 1) := by decide +kernel
theorem d_Pm_move_7 : decode b_Pm_move 7 = .ok (.getfield 25, 3) := by decide +kernel
theorem d_Pm_move_10 : decode b_Pm_move 10 = .ok (.istore 5, 2) := by decide +kernel
theorem d_Pm_move_12 : decode b_Pm_move 12 = .ok (.aload_n 0, 1) := by decide +kernel
theorem d_Pm_move_13 : decode b_Pm_move 13 = .ok (.iload_n 1, 1) := by decide +kernel
theorem d_Pm_move_14 : decode b_Pm_move 14 = .ok (.iload_n 2, 1) := by decide +kernel
theorem d_Pm_move_15 : decode b_Pm_move 15 = .ok (.invokevirtual 78, 3) := by decide +kernel
theorem d_Pm_move_18 : decode b_Pm_move 18 = .ok (.istore 6, 2) := by decide +kernel
theorem d_Pm_move_20 : decode b_Pm_move 20 = .ok (.iconst 1, 1) := by decide +kernel
theorem d_Pm_move_21 : decode b_Pm_move 21 = .ok (.istore 7, 2) := by decide +kernel
theorem d_Pm_move_23 : decode b_Pm_move 23 = .ok (.iload 7, 2) := by decide +kernel
theorem d_Pm_move_25 : decode b_Pm_move 25 = .ok (.iload 6, 2) := by decide +kernel
theorem d_Pm_move_27 : decode b_Pm_move 27 = .ok (.if_icmp .gt 67, 3) := by decide +kernel
theorem d_Pm_move_30 : decode b_Pm_move 30 = .ok (.iload 4, 2) := by decide +kernel
theorem d_Pm_move_32 : decode b_Pm_move 32 = .ok (.iload_n 1, 1) := by decide +kernel
theorem d_Pm_move_33 : decode b_Pm_move 33 = .ok (.iload 7, 2) := by decide +kernel
theorem d_Pm_move_35 : decode b_Pm_move 35 = .ok (.iload 6, 2) := by decide +kernel
theorem d_Pm_move_37 : decode b_Pm_move 37 = .ok (.invokestatic 81, 3) := by decide +kernel
theorem d_Pm_move_40 : decode b_Pm_move 40 = .ok (.istore 8, 2) := by decide +kernel
theorem d_Pm_move_42 : decode b_Pm_move 42 = .ok (.iload 5, 2) := by decide +kernel
theorem d_Pm_move_44 : decode b_Pm_move 44 = .ok (.iload_n 2, 1) := by decide +kernel
theorem d_Pm_move_45 : decode b_Pm_move 45 = .ok (.iload 7, 2) := by decide +kernel
theorem d_Pm_move_47 : decode b_Pm_move 47 = .ok (.iload 6, 2) := by decide +kernel
theorem d_Pm_move_49 : decode b_Pm_move 49 = .ok (.invokestatic 81, 3) := by decide +kernel
theorem d_Pm_move_52 : decode b_Pm_move 52 = .ok (.istore 9, 2) := by decide +kernel
theorem d_Pm_move_54 : decode b_Pm_move 54 = .ok (.aload_n 0, 1) := by decide +kernel
theorem d_Pm_move_55 : decode b_Pm_move 55 = .ok (.getfield 12, 3) := by decide +kernel
theorem d_Pm_move_58 : decode b_Pm_move 58 = .ok (.iload 8, 2) := by decide +kernel
theorem d_Pm_move_60 : decode b_Pm_move 60 = .ok (.aload_n 0, 1) := by decide +kernel
theorem d_Pm_move_61 : decode b_Pm_move 61 = .ok (.getfield 21, 3) := by decide +kernel
theorem d_Pm_move_64 : decode b_Pm_move 64 = .ok (.isub, 1) := by decide +kernel
theorem d_Pm_move_65 : decode b_Pm_move 65 = .ok (.iload 9, 2) := by decide +kernel
theorem d_Pm_move_67 : decode b_Pm_move 67 = .ok (.aload_n 0, 1) := by decide +kernel
theorem d_Pm_move_68 : decode b_Pm_move 68 = .ok (.getfield 25, 3) := by decide +kernel
theorem d_Pm_move_71 : decode b_Pm_move 71 = .ok (.isub, 1) := by decide +kernel
theorem d_Pm_move_72 : decode b_Pm_move 72 = .ok (.iload_n 3, 1) := by decide +kernel
theorem d_Pm_move_73 : decode b_Pm_move 73 = .ok (.invokevirtual 65, 3) := by decide +kernel
theorem d_Pm_move_76 : decode b_Pm_move 76 = .ok (.aload_n 0, 1) := by decide +kernel
theorem d_Pm_move_77 : decode b_Pm_move 77 = .ok (.iload 8, 2) := by decide +kernel
theorem d_Pm_move_79 : decode b_Pm_move 79 = .ok (.putfield 21, 3) := by decide +kernel
theorem d_Pm_move_82 : decode b_Pm_move 82 = .ok (.aload_n 0, 1) := by decide +kernel
theorem d_Pm_move_83 : decode b_Pm_move 83 = .ok (.iload 9, 2) := by decide +kernel
theorem d_Pm_move_85 : decode b_Pm_move 85 = .ok (.putfield 25, 3) := by decide +kernel
theorem d_Pm_move_88 : decode b_Pm_move 88 = .ok (.iinc 7 1, 3) := by decide +kernel
theorem d_Pm_move_91 : decode b_Pm_move 91 = .ok (.goto (-68), 3) := by decide +kernel
theorem d_Pm_move_94 : decode b_Pm_move 94 = .ok (.return_, 1) := by decide +kernel
set_option maxHeartbeats 1000000 in
set_option maxRecDepth 100000 in
theorem c_Pm_move (F : Nat → Nat → Int) (G : Nat → Int → Int) (u v kd : Int) (L : List Rc) (hR : pmR F G (F 235 2, F 235 3, F 235 4, L)) (hU : inR u v) (hk0 : 0 ≤ kd ∧ kd < 4) : cV y_Pm_move b_Pm_move 10 none 2 45 F G (fun ad => [.ref (ad 235), .int (iI u), .int (iI v), .int (iI kd)]) (fun F' G' => pmR F' G' (mvS kd u v (F 235 2, F 235 3, F 235 4, L)) ∧ pFr F F' ∧ qFr G G') := by
  obtain ⟨-, -, -, hp0, hX, ht⟩ := hR
  simp only at hp0 hX ht
  have hxy := hX
  have huv := hU
  unfold inR at hxy huv
  have hfa := far_rng hX hU
  have hns := nst_rng hX hU
  have hen := al_end hX hU
  intro s0 a0 D t ad
  refine g_startV (by decide +kernel) (Nat.le_of_ble_eq_true rfl) (fun p l e R s m args below meth c A ok => ?_)
  show gW p l e R s m args below meth c _ D A 10 (gZ0 s) 0 0 ad 265 (mem ad t F G) 0 [(0, .ref (ad 235)), (1, .int (iI u)), (2, .int (iI v)), (3, .int (iI kd))] []
  refine g_aload_n ok d_Pm_move_0 rfl 0 rfl ?_
  refine gI_Pm_x ok _ rfl k_272 d_Pm_move_1 ?_
  refine g_istore (lv' := [(4, .int (iI (F 235 2))), (0, .ref (ad 235)), (1, .int (iI u)), (2, .int (iI v)), (3, .int (iI kd))]) ok d_Pm_move_4 (by decide) rfl ?_
  refine g_aload_n ok d_Pm_move_6 rfl 1 rfl ?_
  refine gI_Pm_y ok _ rfl k_273 d_Pm_move_7 ?_
  refine g_istore (lv' := [(5, .int (iI (F 235 3))), (4, .int (iI (F 235 2))), (0, .ref (ad 235)), (1, .int (iI u)), (2, .int (iI v)), (3, .int (iI kd))]) ok d_Pm_move_10 (by decide) rfl ?_
  refine g_aload_n ok d_Pm_move_12 rfl 2 rfl ?_
  refine g_iload_n ok d_Pm_move_13 rfl 3 rfl ?_
  refine g_iload_n ok d_Pm_move_14 rfl 4 rfl ?_
  refine g_callPV (As := [.int (iI u), .int (iI v)]) (st := []) ok _ (c_Pm_stepsTo F G _ _ hX hU s0 a0 D t ad) k_491 k_8 k_488 cl_Pm (m_Pm (ad := ad) (t := t) (F := F) (G := G) rfl).1 (m_Pm rfl).2 k_490 s_Pm_stepsTo q_Pm_stepsTo (by decide) (Nat.le_of_ble_eq_true rfl) (by decide) d_Pm_move_15 (fun z1 hc1 => ?_)
  subst hc1
  refine g_istore (lv' := [(6, .int (iI (nst (F 235 2) (F 235 3) u v))), (5, .int (iI (F 235 3))), (4, .int (iI (F 235 2))), (0, .ref (ad 235)), (1, .int (iI u)), (2, .int (iI v)), (3, .int (iI kd))]) ok d_Pm_move_18 (by decide) rfl ?_
  refine g_iconst ok d_Pm_move_20 ?_
  refine g_istore (lv' := [(7, .int (iI 1)), (6, .int (iI (nst (F 235 2) (F 235 3) u v))), (5, .int (iI (F 235 3))), (4, .int (iI (F 235 2))), (0, .ref (ad 235)), (1, .int (iI u)), (2, .int (iI v)), (3, .int (iI kd))]) ok d_Pm_move_21 (by decide) rfl ?_
  have L_k : ∀ (n_k : Nat) (k : Int) (F1 : Nat → Nat → Int) (G1 : Nat → Int → Int), (1 ≤ k ∧ k ≤ (nst (F 235 2) (F 235 3) u v) + 1) → (F1 235 2 = al (F 235 2) u (k - 1) (nst (F 235 2) (F 235 3) u v) ∧ F1 235 3 = al (F 235 3) v (k - 1) (nst (F 235 2) (F 235 3) u v)) → ((∀ a b, ¬ (a = 235 ∧ (b = 2 ∨ b = 3)) → a ≠ 236 → F1 a b = F a b) ∧ qFr G G1) → (pathR F1 G1 (L ++ mvL (F 235 2) (F 235 3) u v kd (nst (F 235 2) (F 235 3) u v) (k - 1).toNat)) → ((nst (F 235 2) (F 235 3) u v) + 2 - k) < (n_k : Int) → gW p l e R s m args below meth c (MQ below (gQv D A ad 265 (fun ce' => ∃ F' G', ce' = mem ad t F' G' ∧ (fun F' G' => pmR F' G' (mvS kd u v (F 235 2, F 235 3, F 235 4, L)) ∧ pFr F F' ∧ qFr G G') F' G')) args s 0 0 A) D A 10 (gZ) 0 0 ad 265 (mem ad t F1 G1) 23 [(0, .ref (ad 235)), (1, .int (iI u)), (2, .int (iI v)), (3, .int (iI kd)), (4, .int (iI (F 235 2))), (5, .int (iI (F 235 3))), (6, .int (iI (nst (F 235 2) (F 235 3) u v))), (7, .int (iI k))] [] := by
    intro n_k
    induction n_k with
    | zero =>
      intro k F1 G1 hk hF hfr hp hm_k
      exact absurd hm_k (by omega)
    | succ n_k ih_k =>
      intro k F1 G1 hk hF hfr hp hm_k
      refine g_iload ok d_Pm_move_23 7 rfl ?_
      refine g_iload ok d_Pm_move_25 6 rfl ?_
      refine g_icmp_gt ok 94 d_Pm_move_27 (by decide) (by omega) (by omega) (fun h2 => ?_) (fun h2 => ?_)
      · exact g_vret ok d_Pm_move_94 ⟨_, _, rfl, ⟨by rw [hF.1, show k - 1 = (nst (F 235 2) (F 235 3) u v) by omega]; exact hen.1, by rw [hF.2, show k - 1 = (nst (F 235 2) (F 235 3) u v) by omega]; exact hen.2, hfr.1 _ _ (by omega) (by omega), by rw [show k - 1 = (nst (F 235 2) (F 235 3) u v) by omega] at hp; exact hp, hU, ht⟩, fun a b q1 q2 => hfr.1 a b (by omega) q2, hfr.2⟩
      · have st1 := al_step (a := F 235 2) (b := u) (k := k - 1) (n := (nst (F 235 2) (F 235 3) u v)) (by omega) (by omega)
        have st2 := al_step (a := F 235 3) (b := v) (k := k - 1) (n := (nst (F 235 2) (F 235 3) u v)) (by omega) (by omega)
        rw [show k - 1 + 1 = k by omega] at st1 st2
        refine g_iload ok d_Pm_move_30 4 rfl ?_
        refine g_iload_n ok d_Pm_move_32 rfl 1 rfl ?_
        refine g_iload ok d_Pm_move_33 7 rfl ?_
        refine g_iload ok d_Pm_move_35 6 rfl ?_
        have hpr2 : -2147483648 ≤ k * (u - F 235 2) ∧ k * (u - F 235 2) < 2147483648 := by have h := mul_rng (a := k) (b := u - F 235 2) (by omega) (by omega); omega
        refine g_callPSN (As := [.int (iI (F 235 2)), .int (iI u), .int (iI k), .int (iI (nst (F 235 2) (F 235 3) u v))]) (st := []) ok (c_Dk_along F1 G1 _ _ _ _ (by omega) (by omega) (by omega) (by omega) hpr2 s0 a0 D t ad) k_498 k_1 k_496 k_497 q_Dk_along (by decide) (Nat.le_of_ble_eq_true rfl) (by decide) d_Pm_move_37 (fun z3 hc3 => ?_)
        subst hc3
        refine g_top (y := al (F 235 2) u k (nst (F 235 2) (F 235 3) u v)) rfl ?_
        refine g_istore (lv' := [(8, .int (iI (al (F 235 2) u k (nst (F 235 2) (F 235 3) u v)))), (0, .ref (ad 235)), (1, .int (iI u)), (2, .int (iI v)), (3, .int (iI kd)), (4, .int (iI (F 235 2))), (5, .int (iI (F 235 3))), (6, .int (iI (nst (F 235 2) (F 235 3) u v))), (7, .int (iI k))]) ok d_Pm_move_40 (by decide) rfl ?_
        refine g_iload ok d_Pm_move_42 6 rfl ?_
        refine g_iload_n ok d_Pm_move_44 rfl 3 rfl ?_
        refine g_iload ok d_Pm_move_45 8 rfl ?_
        refine g_iload ok d_Pm_move_47 7 rfl ?_
        have hpr3 : -2147483648 ≤ k * (v - F 235 3) ∧ k * (v - F 235 3) < 2147483648 := by have h := mul_rng (a := k) (b := v - F 235 3) (by omega) (by omega); omega
        refine g_callPSN (As := [.int (iI (F 235 3)), .int (iI v), .int (iI k), .int (iI (nst (F 235 2) (F 235 3) u v))]) (st := []) ok (c_Dk_along F1 G1 _ _ _ _ (by omega) (by omega) (by omega) (by omega) hpr3 s0 a0 D t ad) k_498 k_1 k_496 k_497 q_Dk_along (by decide) (Nat.le_of_ble_eq_true rfl) (by decide) d_Pm_move_49 (fun z4 hc4 => ?_)
        subst hc4
        refine g_top (y := al (F 235 3) v k (nst (F 235 2) (F 235 3) u v)) rfl ?_
        refine g_istore (lv' := [(9, .int (iI (al (F 235 3) v k (nst (F 235 2) (F 235 3) u v)))), (8, .int (iI (al (F 235 2) u k (nst (F 235 2) (F 235 3) u v)))), (0, .ref (ad 235)), (1, .int (iI u)), (2, .int (iI v)), (3, .int (iI kd)), (4, .int (iI (F 235 2))), (5, .int (iI (F 235 3))), (6, .int (iI (nst (F 235 2) (F 235 3) u v))), (7, .int (iI k))]) ok d_Pm_move_52 (by decide) rfl ?_
        refine g_aload_n ok d_Pm_move_54 rfl 2 rfl ?_
        refine gI_Pm_path ok _ rfl k_269 d_Pm_move_55 ?_
        refine g_iload ok d_Pm_move_58 1 rfl ?_
        refine g_aload_n ok d_Pm_move_60 rfl 2 rfl ?_
        refine gI_Pm_x ok _ rfl k_272 d_Pm_move_61 ?_
        refine g_isub ok d_Pm_move_64 ?_
        refine g_iload ok d_Pm_move_65 0 rfl ?_
        refine g_aload_n ok d_Pm_move_67 rfl 2 rfl ?_
        refine gI_Pm_y ok _ rfl k_273 d_Pm_move_68 ?_
        refine g_isub ok d_Pm_move_71 ?_
        refine g_iload_n ok d_Pm_move_72 rfl 5 rfl ?_
        refine g_callVVN (As := [.int (iI ((al (F 235 2) u k (nst (F 235 2) (F 235 3) u v)) - (F1 235 2))), .int (iI ((al (F 235 3) v k (nst (F 235 2) (F 235 3) u v)) - (F1 235 3))), .int (iI kd)]) (st := []) ok _ (c_Pa_add F1 G1 _ _ _ (pathR_rng hp).1 (by omega) (by omega) (by omega) s0 a0 D t ad) k_503 k_9 k_500 cl_Pa (m_Pa (ad := ad) (t := t) (F := F1) (G := G1) rfl).1 (m_Pa rfl).2 k_502 s_Pa_add q_Pa_add (by decide) (Nat.le_of_ble_eq_true rfl) (by decide) d_Pm_move_73 (fun ce1 hc5 => ?_)
        obtain ⟨F2, G2, rfl, hF2, hG2⟩ := hc5
        rw [hF.1, hF.2] at hG2
        refine g_aload_n ok d_Pm_move_76 rfl 2 rfl ?_
        refine g_iload ok d_Pm_move_77 1 rfl ?_
        refine pI_Pm_x ok _ rfl k_272 d_Pm_move_79 ?_
        refine g_aload_n ok d_Pm_move_82 rfl 2 rfl ?_
        refine g_iload ok d_Pm_move_83 0 rfl ?_
        refine pI_Pm_y ok _ rfl k_273 d_Pm_move_85 ?_
        refine g_iinc (lv' := [(7, .int (iI (k + 1))), (9, .int (iI (al (F 235 3) v k (nst (F 235 2) (F 235 3) u v)))), (8, .int (iI (al (F 235 2) u k (nst (F 235 2) (F 235 3) u v)))), (0, .ref (ad 235)), (1, .int (iI u)), (2, .int (iI v)), (3, .int (iI kd)), (4, .int (iI (F 235 2))), (5, .int (iI (F 235 3))), (6, .int (iI (nst (F 235 2) (F 235 3) u v)))]) ok d_Pm_move_88 9 rfl (by decide) rfl ?_
        refine g_goto ok 23 d_Pm_move_91 (by decide) ?_
        refine g_lv [3, 4, 5, 6, 7, 8, 9, 0] rfl ?_
        exact ih_k (k + 1) (fU (fU F2 235 2 (al (F 235 2) u k (nst (F 235 2) (F 235 3) u v))) 235 3 (al (F 235 3) v k (nst (F 235 2) (F 235 3) u v))) G2 (by omega) (by rw [show k + 1 - 1 = k by omega, fU_ja (by decide), fU_hit, fU_hit]; exact ⟨rfl, rfl⟩) (⟨fun a b q1 q2 => by rw [show fU (fU F2 235 2 _) 235 3 _ a b = F2 a b from by unfold fU; rw [if_neg (by omega), if_neg (by omega)], add_fr hF2 a b q2]; exact hfr.1 a b q1 q2, fun a q => (add_gr hG2 a q).trans (hfr.2 a q)⟩) (by rw [show k + 1 - 1 = k by omega, mvL_step hk.1, ← List.append_assoc]; exact pathR_cong (pathR_add hp (rcOk_mk (by omega) (by omega) hk0) hF2 hG2) (fun b => by rw [fU_ka (by decide), fU_ka (by decide)]) rfl) (by omega)
  refine g_z ?_
  refine g_lv [4, 5, 6, 7, 3, 2, 1, 0] rfl ?_
  exact L_k (((nst (F 235 2) (F 235 3) u v) + 2 - 1 : Int).toNat + 1) 1 F G (by omega) (by rw [show (1 : Int) - 1 = 0 by decide, al_0, al_0]; exact ⟨rfl, rfl⟩) (⟨fun _ _ _ _ => rfl, fun _ _ => rfl⟩) (by rw [show ((1 : Int) - 1).toNat = 0 from rfl]; show pathR F G (L ++ []); rw [List.append_nil]; exact hp0) (by omega)
