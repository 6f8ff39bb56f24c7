/-! the reference's order -/
def mtM (G : Nat → Int → Int) (a b : Int) : Prop := G 249 (4 * a) ≤ G 249 (4 * b + 2) ∧ G 249 (4 * b) ≤ G 249 (4 * a + 2) ∧ G 249 (4 * a + 1) ≤ G 249 (4 * b + 3) ∧ G 249 (4 * b + 1) ≤ G 249 (4 * a + 3)
def prM (G : Nat → Int → Int) (k j : Nat) : Prop := j < k ∧ mtM G (G 250 (j : Int)) (G 250 (k : Int))
def clM (G : Nat → Int → Int) (k : Nat) : Int := G 245 (4 * G 250 (k : Int))
def sqM (G : Nat → Int → Int) (n : Int) : Prop := ∀ k : Int, 0 ≤ k → k < n → (0 ≤ G 250 k ∧ G 250 k < 10) ∧ bx4 G (G 250 k) ∧ (0 ≤ G 245 (4 * G 250 k) ∧ G 245 (4 * G 250 k) ≤ 7)
def lfM (G : Nat → Int → Int) (S c : Int) : Int := G 262 (9 * S + c)
theorem d_Mo_mayCome_0 : decode b_Mo_mayCome 0 = .ok (.iload_n 2, 1) := by decide +kernel
theorem d_Mo_mayCome_1 : decode b_Mo_mayCome 1 = .ok (.iload_n 1, 1) := by decide +kernel
theorem d_Mo_mayCome_2 : decode b_Mo_mayCome 2 = .ok (.ishr, 1) := by decide +kernel
theorem d_Mo_mayCome_3 : decode b_Mo_mayCome 3 = .ok (.iconst 1, 1) := by decide +kernel
theorem d_Mo_mayCome_4 : decode b_Mo_mayCome 4 = .ok (.iand, 1) := by decide +kernel
theorem d_Mo_mayCome_5 : decode b_Mo_mayCome 5 = .ok (.iconst 1, 1) := by decide +kernel
theorem d_Mo_mayCome_6 : decode b_Mo_mayCome 6 = .ok (.if_icmp .ne 5, 3) := by decide +kernel
theorem d_Mo_mayCome_9 : decode b_Mo_mayCome 9 = .ok (.iconst 0, 1) := by decide +kernel
theorem d_Mo_mayCome_10 : decode b_Mo_mayCome 10 = .ok (.ireturn, 1) := by decide +kernel
theorem d_Mo_mayCome_11 : decode b_Mo_mayCome 11 = .ok (.iconst 0, 1) := by decide +kernel
theorem d_Mo_mayCome_12 : decode b_Mo_mayCome 12 = .ok (.istore_n 3, 1) := by decide +kernel
theorem d_Mo_mayCome_13 : decode b_Mo_mayCome 13 = .ok (.iload_n 3, 1) := by decide +kernel
theorem d_Mo_mayCome_14 : decode b_Mo_mayCome 14 = .ok (.iload_n 1, 1) := by decide +kernel
theorem d_Mo_mayCome_15 : decode b_Mo_mayCome 15 = .ok (.if_icmp .ge 38, 3) := by decide +kernel
theorem d_Mo_mayCome_18 : decode b_Mo_mayCome 18 = .ok (.iload_n 2, 1) := by decide +kernel
theorem d_Mo_mayCome_19 : decode b_Mo_mayCome 19 = .ok (.iload_n 3, 1) := by decide +kernel
theorem d_Mo_mayCome_20 : decode b_Mo_mayCome 20 = .ok (.ishr, 1) := by decide +kernel
theorem d_Mo_mayCome_21 : decode b_Mo_mayCome 21 = .ok (.iconst 1, 1) := by decide +kernel
theorem d_Mo_mayCome_22 : decode b_Mo_mayCome 22 = .ok (.iand, 1) := by decide +kernel
theorem d_Mo_mayCome_23 : decode b_Mo_mayCome 23 = .ok (.ifCond .ne 24, 3) := by decide +kernel
theorem d_Mo_mayCome_26 : decode b_Mo_mayCome 26 = .ok (.aload_n 0, 1) := by decide +kernel
theorem d_Mo_mayCome_27 : decode b_Mo_mayCome 27 = .ok (.aload_n 0, 1) := by decide +kernel
theorem d_Mo_mayCome_28 : decode b_Mo_mayCome 28 = .ok (.getfield 36, 3) := by decide +kernel
theorem d_Mo_mayCome_31 : decode b_Mo_mayCome 31 = .ok (.iload_n 3, 1) := by decide +kernel
theorem d_Mo_mayCome_32 : decode b_Mo_mayCome 32 = .ok (.iaload, 1) := by decide +kernel
theorem d_Mo_mayCome_33 : decode b_Mo_mayCome 33 = .ok (.aload_n 0, 1) := by decide +kernel
theorem d_Mo_mayCome_34 : decode b_Mo_mayCome 34 = .ok (.getfield 36, 3) := by decide +kernel
theorem d_Mo_mayCome_37 : decode b_Mo_mayCome 37 = .ok (.iload_n 1, 1) := by decide +kernel
theorem d_Mo_mayCome_38 : decode b_Mo_mayCome 38 = .ok (.iaload, 1) := by decide +kernel
theorem d_Mo_mayCome_39 : decode b_Mo_mayCome 39 = .ok (.invokevirtual 214, 3) := by decide +kernel
theorem d_Mo_mayCome_42 : decode b_Mo_mayCome 42 = .ok (.ifCond .eq 5, 3) := by decide +kernel
theorem d_Mo_mayCome_45 : decode b_Mo_mayCome 45 = .ok (.iconst 0, 1) := by decide +kernel
theorem d_Mo_mayCome_46 : decode b_Mo_mayCome 46 = .ok (.ireturn, 1) := by decide +kernel
theorem d_Mo_mayCome_47 : decode b_Mo_mayCome 47 = .ok (.iinc 3 1, 3) := by decide +kernel
theorem d_Mo_mayCome_50 : decode b_Mo_mayCome 50 = .ok (.goto (-37), 3) := by decide +kernel
theorem d_Mo_mayCome_53 : decode b_Mo_mayCome 53 = .ok (.iconst 1, 1) := by decide +kernel
theorem d_Mo_mayCome_54 : decode b_Mo_mayCome 54 = .ok (.ireturn, 1) := by decide +kernel
set_option maxHeartbeats 1000000 in
set_option maxRecDepth 100000 in
theorem c_Mo_mayCome (F : Nat → Nat → Int) (G : Nat → Int → Int) (k sv n : Int) (hn : n ≤ 10) (hk : 0 ≤ k ∧ k < n) (hs : sqM G n) (hS : 0 ≤ sv ∧ sv < 1024) : cP y_Mo_mayCome b_Mo_mayCome 4 (some .boolean) 1 22 F G (fun ad => [.ref (ad 244), .int (iI k), .int (iI sv)]) (fun r => (r = 0 ∨ r = 1) ∧ (r = 1 ↔ may (prM G) sv k.toNat)) := by
  have hbk := bt_div hS.1 k.toNat
  have hbk0 := bt_div0 hS.1 k.toNat
  have hm2 := mod2 (sv / 2 ^ k.toNat)
  have hkk : ((k.toNat : Nat) : Int) = k := by omega
  have hsk := hs k hk.1 hk.2
  intro s0 a0 D t ad
  refine g_startP (by decide +kernel) (Nat.le_of_ble_eq_true rfl) (fun p l e R s m args below meth c A ok => ?_)
  show gW p l e R s m args below meth c _ D A 4 (gZ0 s) 0 0 ad 265 (mem ad t F G) 0 [(0, .ref (ad 244)), (1, .int (iI k)), (2, .int (iI sv))] []
  refine g_iload_n ok d_Mo_mayCome_0 rfl 2 rfl ?_
  refine g_iload_n ok d_Mo_mayCome_1 rfl 1 rfl ?_
  refine g_ishr (z := sv / 2 ^ k.toNat) ok (iI_shr k.toNat (by omega) (by omega) (by omega)) d_Mo_mayCome_2 ?_
  refine g_iconst ok d_Mo_mayCome_3 ?_
  refine g_iand (z := sv / 2 ^ k.toNat % 2) ok (iI_and1 _) d_Mo_mayCome_4 ?_
  refine g_iconst ok d_Mo_mayCome_5 ?_
  refine g_icmp_ne ok 11 d_Mo_mayCome_6 (by decide) (by omega) (by omega) (fun h1 => ?_) (fun h1 => ?_)
  · refine g_iconst ok d_Mo_mayCome_11 ?_
    refine g_istore_n (lv' := [(3, .int (iI 0)), (0, .ref (ad 244)), (1, .int (iI k)), (2, .int (iI sv))]) ok d_Mo_mayCome_12 rfl (by decide) rfl ?_
    have L_i : ∀ (n_i : Nat) (i : Int), (0 ≤ i ∧ i ≤ k) → (∀ j : Nat, (j : Int) < i → prM G k.toNat j → bt sv j) → (k + 1 - i) < (n_i : Int) → gW p l e R s m args below meth c (MQ below (gQp (fun r => (r = 0 ∨ r = 1) ∧ (r = 1 ↔ may (prM G) sv k.toNat))) args s 0 0 (fun _ => False)) D A 4 (gZ0 s) 0 0 ad 265 (mem ad t F G) 13 [(0, .ref (ad 244)), (1, .int (iI k)), (2, .int (iI sv)), (3, .int (iI i))] [] := by
      intro n_i
      induction n_i with
      | zero =>
        intro i hi ho hm_i
        exact absurd hm_i (by omega)
      | succ n_i ih_i =>
        intro i hi ho hm_i
        refine g_iload_n ok d_Mo_mayCome_13 rfl 3 rfl ?_
        refine g_iload_n ok d_Mo_mayCome_14 rfl 1 rfl ?_
        refine g_icmp_ge ok 53 d_Mo_mayCome_15 (by decide) (by omega) (by omega) (fun h2 => ?_) (fun h2 => ?_)
        · refine g_iconst ok d_Mo_mayCome_53 ?_
          exact g_zpret ok d_Mo_mayCome_54 (Or.inr rfl) ⟨Or.inr rfl, fun _ => ⟨hbk0.mp (by omega), fun j hj hp => ho j (by omega) hp⟩, fun _ => rfl⟩
        · have hbi := bt_div hS.1 i.toNat
          have hbi0 := bt_div0 hS.1 i.toNat
          have hm3 := mod2 (sv / 2 ^ i.toNat)
          have hii : ((i.toNat : Nat) : Int) = i := by omega
          have hsi := hs i hi.1 (by omega)
          refine g_iload_n ok d_Mo_mayCome_18 rfl 2 rfl ?_
          refine g_iload_n ok d_Mo_mayCome_19 rfl 3 rfl ?_
          refine g_ishr (z := sv / 2 ^ i.toNat) ok (iI_shr i.toNat (by omega) (by omega) (by omega)) d_Mo_mayCome_20 ?_
          refine g_iconst ok d_Mo_mayCome_21 ?_
          refine g_iand (z := sv / 2 ^ i.toNat % 2) ok (iI_and1 _) d_Mo_mayCome_22 ?_
          refine g_if_ne ok 47 d_Mo_mayCome_23 (by decide) (by omega) (fun h3 => ?_) (fun h3 => ?_)
          · refine g_iinc (lv' := [(3, .int (iI (i + 1))), (0, .ref (ad 244)), (1, .int (iI k)), (2, .int (iI sv))]) ok d_Mo_mayCome_47 3 rfl (by decide) rfl ?_
            refine g_goto ok 13 d_Mo_mayCome_50 (by decide) ?_
            refine g_lv [1, 2, 3, 0] rfl ?_
            exact ih_i (i + 1) (by omega) (fun j z y => by by_cases x : j = i.toNat; subst x; exact hbi.mp (by omega); exact ho j (by omega) y) (by omega)
          · refine g_aload_n ok d_Mo_mayCome_26 rfl 0 rfl ?_
            refine g_aload_n ok d_Mo_mayCome_27 rfl 0 rfl ?_
            refine gI_Mo_order ok _ rfl k_997 d_Mo_mayCome_28 ?_
            refine g_iload_n ok d_Mo_mayCome_31 rfl 3 rfl ?_
            refine h_iald ok _ a_250 (by omega) d_Mo_mayCome_32 ?_
            refine g_aload_n ok d_Mo_mayCome_33 rfl 0 rfl ?_
            refine gI_Mo_order ok _ rfl k_997 d_Mo_mayCome_34 ?_
            refine g_iload_n ok d_Mo_mayCome_37 rfl 1 rfl ?_
            refine h_iald ok _ a_250 (by omega) d_Mo_mayCome_38 ?_
            refine g_callPV (As := [.int (iI (G 250 i)), .int (iI (G 250 k))]) (st := []) ok _ (c_Mo_meetBoxes F G (G 250 i) (G 250 k) (by omega) (by omega) (by have y1 := hsi.2.1; have y2 := hsk.2.1; unfold bx4 at y1 y2; exact ⟨y1.1, y1.2.1, y1.2.2.1, y1.2.2.2, y2⟩) s0 a0 D t ad) k_1290 k_11 k_1287 cl_Mo (m_Mo (ad := ad) (t := t) (F := F) (G := G) rfl).1 (m_Mo rfl).2 k_1289 s_Mo_meetBoxes q_Mo_meetBoxes (by decide) (Nat.le_of_ble_eq_true rfl) (by decide) d_Mo_mayCome_39 (fun z4 hc4 => ?_)
            have hmt : z4 = 0 ∨ z4 = 1 := by rw [hc4]; split <;> omega
            refine g_if_eq ok 47 d_Mo_mayCome_42 (by decide) (by omega) (fun h5 => ?_) (fun h5 => ?_)
            · have hno : ¬ mtM G (G 250 ((i.toNat : Nat) : Int)) (G 250 ((k.toNat : Nat) : Int)) := by rw [hii, hkk]; exact fun q => by have y : z4 = 1 := hc4.trans (if_pos q); omega
              refine g_iinc (lv' := [(3, .int (iI (i + 1))), (0, .ref (ad 244)), (1, .int (iI k)), (2, .int (iI sv))]) ok d_Mo_mayCome_47 3 rfl (by decide) rfl ?_
              refine g_goto ok 13 d_Mo_mayCome_50 (by decide) ?_
              refine g_lv [1, 2, 3, 0] rfl ?_
              exact ih_i (i + 1) (by omega) (fun j z y => by by_cases x : j = i.toNat; subst x; exact absurd y.2 hno; exact ho j (by omega) y) (by omega)
            · have hyes : mtM G (G 250 ((i.toNat : Nat) : Int)) (G 250 ((k.toNat : Nat) : Int)) := by rw [hii, hkk]; by_cases q : mtM G (G 250 i) (G 250 k); exact q; have y : z4 = 0 := hc4.trans (if_neg q); omega
              refine g_iconst ok d_Mo_mayCome_45 ?_
              exact g_zpret ok d_Mo_mayCome_46 (Or.inl rfl) ⟨Or.inl rfl, fun z => by omega, fun z => absurd (z.2 i.toNat (by omega) ⟨by omega, hyes⟩) (hbi0.mp (by omega))⟩
    refine g_lv [1, 2, 3, 0] rfl ?_
    exact L_i ((k + 1 - 0 : Int).toNat + 1) 0 (by omega) (fun j z => by omega) (by omega)
  · refine g_iconst ok d_Mo_mayCome_9 ?_
    exact g_zpret ok d_Mo_mayCome_10 (Or.inl rfl) ⟨Or.inl rfl, fun z => by omega, fun z => absurd (hbk.mp (by omega)) z.1⟩
theorem d_Mo_costOf_0 : decode b_Mo_costOf 0 = .ok (.aload_n 0, 1) := by decide +kernel
theorem d_Mo_costOf_1 : decode b_Mo_costOf 1 = .ok (.getfield 20, 3) := by decide +kernel
theorem d_Mo_costOf_4 : decode b_Mo_costOf 4 = .ok (.iconst 4, 1) := by decide +kernel
theorem d_Mo_costOf_5 : decode b_Mo_costOf 5 = .ok (.aload_n 0, 1) := by decide +kernel
theorem d_Mo_costOf_6 : decode b_Mo_costOf 6 = .ok (.getfield 36, 3) := by decide +kernel
theorem d_Mo_costOf_9 : decode b_Mo_costOf 9 = .ok (.iload_n 1, 1) := by decide +kernel
theorem d_Mo_costOf_10 : decode b_Mo_costOf 10 = .ok (.iaload, 1) := by decide +kernel
theorem d_Mo_costOf_11 : decode b_Mo_costOf 11 = .ok (.imul, 1) := by decide +kernel
theorem d_Mo_costOf_12 : decode b_Mo_costOf 12 = .ok (.iaload, 1) := by decide +kernel
theorem d_Mo_costOf_13 : decode b_Mo_costOf 13 = .ok (.istore 4, 2) := by decide +kernel
theorem d_Mo_costOf_15 : decode b_Mo_costOf 15 = .ok (.aload_n 0, 1) := by decide +kernel
theorem d_Mo_costOf_16 : decode b_Mo_costOf 16 = .ok (.getfield 109, 3) := by decide +kernel
theorem d_Mo_costOf_19 : decode b_Mo_costOf 19 = .ok (.bipush 9, 2) := by decide +kernel
theorem d_Mo_costOf_21 : decode b_Mo_costOf 21 = .ok (.iload_n 2, 1) := by decide +kernel
theorem d_Mo_costOf_22 : decode b_Mo_costOf 22 = .ok (.iconst 1, 1) := by decide +kernel
theorem d_Mo_costOf_23 : decode b_Mo_costOf 23 = .ok (.iload_n 1, 1) := by decide +kernel
theorem d_Mo_costOf_24 : decode b_Mo_costOf 24 = .ok (.ishl, 1) := by decide +kernel
theorem d_Mo_costOf_25 : decode b_Mo_costOf 25 = .ok (.ior, 1) := by decide +kernel
theorem d_Mo_costOf_26 : decode b_Mo_costOf 26 = .ok (.imul, 1) := by decide +kernel
theorem d_Mo_costOf_27 : decode b_Mo_costOf 27 = .ok (.iload 4, 2) := by decide +kernel
theorem d_Mo_costOf_29 : decode b_Mo_costOf 29 = .ok (.iadd, 1) := by decide +kernel
theorem d_Mo_costOf_30 : decode b_Mo_costOf 30 = .ok (.iaload, 1) := by decide +kernel
theorem d_Mo_costOf_31 : decode b_Mo_costOf 31 = .ok (.iload_n 3, 1) := by decide +kernel
theorem d_Mo_costOf_32 : decode b_Mo_costOf 32 = .ok (.bipush 8, 2) := by decide +kernel
theorem d_Mo_costOf_34 : decode b_Mo_costOf 34 = .ok (.if_icmp .ge 13, 3) := by decide +kernel
theorem d_Mo_costOf_37 : decode b_Mo_costOf 37 = .ok (.iload_n 3, 1) := by decide +kernel
theorem d_Mo_costOf_38 : decode b_Mo_costOf 38 = .ok (.iload 4, 2) := by decide +kernel
theorem d_Mo_costOf_40 : decode b_Mo_costOf 40 = .ok (.if_icmp .eq 7, 3) := by decide +kernel
theorem d_Mo_costOf_43 : decode b_Mo_costOf 43 = .ok (.iconst 1, 1) := by decide +kernel
theorem d_Mo_costOf_44 : decode b_Mo_costOf 44 = .ok (.goto 4, 3) := by decide +kernel
theorem d_Mo_costOf_47 : decode b_Mo_costOf 47 = .ok (.iconst 0, 1) := by decide +kernel
theorem d_Mo_costOf_48 : decode b_Mo_costOf 48 = .ok (.iadd, 1) := by decide +kernel
theorem d_Mo_costOf_49 : decode b_Mo_costOf 49 = .ok (.ireturn, 1) := by decide +kernel
set_option maxHeartbeats 1000000 in
set_option maxRecDepth 100000 in
theorem c_Mo_costOf (F : Nat → Nat → Int) (G : Nat → Int → Int) (k sv c0 n : Int) (hn : n ≤ 10) (hk : 0 ≤ k ∧ k < n) (hs : sqM G n) (hS : 0 ≤ sv ∧ sv < 1024) (hb : ¬ bt sv k.toNat) (hc : 0 ≤ c0 ∧ c0 ≤ 8) : cP y_Mo_costOf b_Mo_costOf 5 (some .int) 0 0 F G (fun ad => [.ref (ad 244), .int (iI k), .int (iI sv), .int (iI c0)]) (fun r => r = lfM G (sv + 2 ^ k.toNat) (clM G k.toNat) + chg c0 (clM G k.toNat)) := by
  have hkk : ((k.toNat : Nat) : Int) = k := by omega
  have hsk := hs k hk.1 hk.2
  have hu := bt_up (k := k.toNat) hS (by omega) hb
  have hur := hu.2.1
  intro s0 a0 D t ad
  refine g_startP (by decide +kernel) (Nat.le_of_ble_eq_true rfl) (fun p l e R s m args below meth c A ok => ?_)
  show gW p l e R s m args below meth c _ D A 5 (gZ0 s) 0 0 ad 265 (mem ad t F G) 0 [(0, .ref (ad 244)), (1, .int (iI k)), (2, .int (iI sv)), (3, .int (iI c0))] []
  refine g_aload_n ok d_Mo_costOf_0 rfl 0 rfl ?_
  refine gI_Mo_told ok _ rfl k_992 d_Mo_costOf_1 ?_
  refine g_iconst ok d_Mo_costOf_4 ?_
  refine g_aload_n ok d_Mo_costOf_5 rfl 0 rfl ?_
  refine gI_Mo_order ok _ rfl k_997 d_Mo_costOf_6 ?_
  refine g_iload_n ok d_Mo_costOf_9 rfl 1 rfl ?_
  refine h_iald ok _ a_250 (by omega) d_Mo_costOf_10 ?_
  refine g_imul ok d_Mo_costOf_11 ?_
  refine h_iald ok _ a_245 (by omega) d_Mo_costOf_12 ?_
  refine g_istore (lv' := [(4, .int (iI (G 245 (4 * (G 250 k))))), (0, .ref (ad 244)), (1, .int (iI k)), (2, .int (iI sv)), (3, .int (iI c0))]) ok d_Mo_costOf_13 (by decide) rfl ?_
  refine g_aload_n ok d_Mo_costOf_15 rfl 1 rfl ?_
  refine gI_Mo_left ok _ rfl k_1021 d_Mo_costOf_16 ?_
  refine g_bipush ok (by decide) d_Mo_costOf_19 ?_
  refine g_iload_n ok d_Mo_costOf_21 rfl 3 rfl ?_
  refine g_iconst ok d_Mo_costOf_22 ?_
  refine g_iload_n ok d_Mo_costOf_23 rfl 2 rfl ?_
  refine g_ishl (z := 1 * 2 ^ k.toNat) ok (iI_shl k.toNat (by omega) (by decide) (by have := pw_le (k := k.toNat) (by omega); omega) (by omega)) d_Mo_costOf_24 ?_
  refine g_ior (z := sv + 2 ^ k.toNat) ok (by rw [Int.one_mul]; exact hu.1) d_Mo_costOf_25 ?_
  refine g_imul ok d_Mo_costOf_26 ?_
  refine g_iload ok d_Mo_costOf_27 0 rfl ?_
  refine g_iadd ok d_Mo_costOf_29 ?_
  refine h_iald ok _ a_262 (by omega) d_Mo_costOf_30 ?_
  refine g_iload_n ok d_Mo_costOf_31 rfl 4 rfl ?_
  refine g_bipush ok (by decide) d_Mo_costOf_32 ?_
  refine g_icmp_ge ok 47 d_Mo_costOf_34 (by decide) (by omega) (by omega) (fun h1 => ?_) (fun h1 => ?_)
  · refine g_iconst ok d_Mo_costOf_47 ?_
    refine g_iadd ok d_Mo_costOf_48 ?_
    exact g_ipret ok d_Mo_costOf_49 (by unfold lfM clM chg; rw [hkk, if_neg (by omega)])
  · refine g_iload_n ok d_Mo_costOf_37 rfl 4 rfl ?_
    refine g_iload ok d_Mo_costOf_38 0 rfl ?_
    refine g_icmp_eq ok 47 d_Mo_costOf_40 (by decide) (by omega) (by omega) (fun h2 => ?_) (fun h2 => ?_)
    · refine g_iconst ok d_Mo_costOf_47 ?_
      refine g_iadd ok d_Mo_costOf_48 ?_
      exact g_ipret ok d_Mo_costOf_49 (by unfold lfM clM chg; rw [hkk, if_neg (by omega)])
    · refine g_iconst ok d_Mo_costOf_43 ?_
      refine g_goto ok 48 d_Mo_costOf_44 (by decide) ?_
      refine g_iadd ok d_Mo_costOf_48 ?_
      exact g_ipret ok d_Mo_costOf_49 (by unfold lfM clM chg; rw [hkk, if_pos (by omega)])
/-- the table at a set and a colour -/
def lfC (n : Nat) (pr : Nat → Nat → Prop) (col : Nat → Int) (lf : Int → Int → Int) (S c : Int) : Prop :=
  (0 ≤ lf S c ∧ lf S c ≤ (n : Int) - pop S n) ∧ (S = 2 ^ n - 1 → lf S c = 0) ∧ (S ≠ 2 ^ n - 1 → (∃ k, k < n ∧ may pr S k ∧ lf (S + 2 ^ k) (col k) + chg c (col k) = lf S c) ∧ ∀ k, k < n → may pr S k → lf S c ≤ lf (S + 2 ^ k) (col k) + chg c (col k))
theorem lfS_of {n : Nat} {pr : Nat → Nat → Prop} {col : Nat → Int} {lf : Int → Int → Int} {S : Int} (h : ∀ c : Int, 0 ≤ c → c ≤ 8 → lfC n pr col lf S c) : lfS n pr col lf S :=
  ⟨fun e c h1 h2 => (h c h1 h2).2.1 e, fun e c h1 h2 => (h c h1 h2).2.2 e⟩
theorem lfC_cong {n : Nat} {pr : Nat → Nat → Prop} {col : Nat → Int} {lf lf' : Int → Int → Int} {S c : Int} (hcol : ∀ k, k < n → 0 ≤ col k ∧ col k < 8) (h : ∀ T d : Int, S < T → 0 ≤ d → d ≤ 8 → lf' T d = lf T d) (h0 : lf' S c = lf S c) (hd : lfC n pr col lf S c) : lfC n pr col lf' S c := by
  have ev : ∀ k : Nat, k < n → lf' (S + 2 ^ k) (col k) = lf (S + 2 ^ k) (col k) := fun k hk => by
    have hp := pw_pos k
    have hc := hcol k hk
    exact h _ _ (by omega) hc.1 (by omega)
  obtain ⟨h1, h2, h3⟩ := hd
  rw [← h0] at h1 h2
  refine ⟨h1, h2, fun e => ?_⟩
  obtain ⟨⟨k, a, b, d⟩, g⟩ := h3 e
  exact ⟨⟨k, a, b, by rw [ev k a, h0]; exact d⟩, fun j hj hm => by rw [ev j hj, h0]; exact g j hj hm⟩
def lsI (n : Nat) (pr : Nat → Nat → Prop) (co : Nat → Int) (S : Int) (m : Nat) (ls : Int) : Prop := (S = 2 ^ n - 1 → ls = 0) ∧ (S ≠ 2 ^ n - 1 → (0 ≤ ls ∧ ls ≤ 1000) ∧ (ls = 1000 ∨ ∃ j, j < m ∧ may pr S j ∧ co j = ls) ∧ ∀ j, j < m → may pr S j → ls ≤ co j)
theorem ls_no {n : Nat} {pr : Nat → Nat → Prop} {co : Nat → Int} {S ls : Int} {m : Nat} (h : lsI n pr co S m ls) (hm : may pr S m → ls ≤ co m) : lsI n pr co S (m + 1) ls := by
  refine ⟨h.1, fun e => ?_⟩
  obtain ⟨h1, h2, h3⟩ := h.2 e
  refine ⟨h1, ?_, fun j hj ho => ?_⟩
  · rcases h2 with z | ⟨j, a, b⟩
    · exact Or.inl z
    · exact Or.inr ⟨j, by omega, b⟩
  · by_cases q : j = m
    · subst q
      exact hm ho
    · exact h3 j (by omega) ho
theorem ls_yes {n : Nat} {pr : Nat → Nat → Prop} {co : Nat → Int} {S ls v : Int} {m : Nat} (h : lsI n pr co S m ls) (hne : S ≠ 2 ^ n - 1) (hm : may pr S m) (hv : co m = v) (hl : v < ls) (h0 : 0 ≤ v) : lsI n pr co S (m + 1) v := by
  refine ⟨fun e => absurd e hne, fun e => ?_⟩
  obtain ⟨h1, h2, h3⟩ := h.2 e
  refine ⟨by omega, Or.inr ⟨m, by omega, hm, hv⟩, fun j hj ho => ?_⟩
  by_cases q : j = m
  · subst q
    omega
  · have := h3 j (by omega) ho
    omega
theorem ls_cong {n : Nat} {pr : Nat → Nat → Prop} {co co' : Nat → Int} {S ls : Int} {m : Nat} (h : ∀ k, k < m → co' k = co k) (hl : lsI n pr co S m ls) : lsI n pr co' S m ls := by
  refine ⟨hl.1, fun e => ?_⟩
  obtain ⟨h1, h2, h3⟩ := hl.2 e
  refine ⟨h1, ?_, fun j hj ho => by rw [h j hj]; exact h3 j hj ho⟩
  rcases h2 with z | ⟨j, a, b, d⟩
  · exact Or.inl z
  · exact Or.inr ⟨j, a, b, by rw [h j a]; exact d⟩
theorem ls_end {n : Nat} {pr : Nat → Nat → Prop} {col : Nat → Int} {lf : Int → Int → Int} {S c ls : Int} (hn : n ≤ 10) (hS : 0 ≤ S ∧ S ≤ 2 ^ n - 1) (hc : 0 ≤ c ∧ c ≤ 8) (hcol : ∀ k, k < n → 0 ≤ col k ∧ col k < 8) (hT : ∀ T : Int, S < T → T ≤ 2 ^ n - 1 → ∀ d : Int, 0 ≤ d → d ≤ 8 → lfC n pr col lf T d) (h : lsI n pr (fun k => lf (S + 2 ^ k) (col k) + chg c (col k)) S n ls) (hls : lf S c = ls) : lfC n pr col lf S c := by
  have hpr := pop_rng S n
  by_cases e : S = 2 ^ n - 1
  · have z := h.1 e
    exact ⟨by omega, fun _ => by omega, fun y => absurd e y⟩
  · obtain ⟨h1, h2, h3⟩ := h.2 e
    have bd : ∀ k, k < n → may pr S k → 0 ≤ lf (S + 2 ^ k) (col k) + chg c (col k) ∧ lf (S + 2 ^ k) (col k) + chg c (col k) ≤ (n : Int) - pop S n := fun k hk hm => by
      have hp := pw_pos k
      have hle := pw_le hn
      have hin := bt_in hn hS hk hm.1
      have hc8 := hcol k hk
      have z := (hT (S + 2 ^ k) (by omega) hin.2 (col k) hc8.1 (by omega)).1
      rw [pop_add (by omega) (by omega) hm.1 n, if_pos hk] at z
      have y : 0 ≤ chg c (col k) ∧ chg c (col k) ≤ 1 := by
        unfold chg
        split <;> omega
      omega
    obtain ⟨k, hk, hm⟩ := may_ex (pr := pr) hn hS e
    have b1 := bd k hk hm
    have b2 : ls ≤ lf (S + 2 ^ k) (col k) + chg c (col k) := h3 k hk hm
    rw [← hls] at b2 h1 h2 h3
    refine ⟨by omega, fun y => absurd y e, fun _ => ⟨?_, h3⟩⟩
    rcases h2 with z | z
    · omega
    · exact z
theorem lf_bd {n : Nat} {pr : Nat → Nat → Prop} {col : Nat → Int} {lf : Int → Int → Int} {S c : Int} {k : Nat} (hn : n ≤ 10) (hS : 0 ≤ S ∧ S ≤ 2 ^ n - 1) (hcol : ∀ k, k < n → 0 ≤ col k ∧ col k < 8) (hk : k < n) (hm : may pr S k) (hc : 0 ≤ c ∧ c ≤ 8) (hT : S < S + 2 ^ k → S + 2 ^ k ≤ 2 ^ n - 1 → ∀ d : Int, 0 ≤ d → d ≤ 8 → lfC n pr col lf (S + 2 ^ k) d) : 0 ≤ lf (S + 2 ^ k) (col k) + chg c (col k) ∧ lf (S + 2 ^ k) (col k) + chg c (col k) ≤ 20 := by
  have hp := pw_pos k
  have hin := bt_in hn hS hk hm.1
  have hc8 := hcol k hk
  have z := (hT (by omega) hin.2 (col k) hc8.1 (by omega)).1
  have hpr := pop_rng (S + 2 ^ k) n
  have y : 0 ≤ chg c (col k) ∧ chg c (col k) ≤ 1 := by
    unfold chg
    split <;> omega
  omega
theorem d_Mo_findLeft_0 : decode b_Mo_findLeft 0 = .ok (.iconst 1, 1) := by decide +kernel
theorem d_Mo_findLeft_1 : decode b_Mo_findLeft 1 = .ok (.aload_n 0, 1) := by decide +kernel
theorem d_Mo_findLeft_2 : decode b_Mo_findLeft 2 = .ok (.getfield 13, 3) := by decide +kernel
theorem d_Mo_findLeft_5 : decode b_Mo_findLeft 5 = .ok (.ishl, 1) := by decide +kernel
theorem d_Mo_findLeft_6 : decode b_Mo_findLeft 6 = .ok (.iconst 1, 1) := by decide +kernel
theorem d_Mo_findLeft_7 : decode b_Mo_findLeft 7 = .ok (.isub, 1) := by decide +kernel
theorem d_Mo_findLeft_8 : decode b_Mo_findLeft 8 = .ok (.istore_n 1, 1) := by decide +kernel
theorem d_Mo_findLeft_9 : decode b_Mo_findLeft 9 = .ok (.iload_n 1, 1) := by decide +kernel
theorem d_Mo_findLeft_10 : decode b_Mo_findLeft 10 = .ok (.istore_n 2, 1) := by decide +kernel
theorem d_Mo_findLeft_11 : decode b_Mo_findLeft 11 = .ok (.iload_n 2, 1) := by decide +kernel
theorem d_Mo_findLeft_12 : decode b_Mo_findLeft 12 = .ok (.ifCond .lt 101, 3) := by decide +kernel
theorem d_Mo_findLeft_15 : decode b_Mo_findLeft 15 = .ok (.iconst 0, 1) := by decide +kernel
theorem d_Mo_findLeft_16 : decode b_Mo_findLeft 16 = .ok (.istore_n 3, 1) := by decide +kernel
theorem d_Mo_findLeft_17 : decode b_Mo_findLeft 17 = .ok (.iload_n 3, 1) := by decide +kernel
theorem d_Mo_findLeft_18 : decode b_Mo_findLeft 18 = .ok (.bipush 9, 2) := by decide +kernel
theorem d_Mo_findLeft_20 : decode b_Mo_findLeft 20 = .ok (.if_icmp .ge 87, 3) := by decide +kernel
theorem d_Mo_findLeft_23 : decode b_Mo_findLeft 23 = .ok (.iload_n 2, 1) := by decide +kernel
theorem d_Mo_findLeft_24 : decode b_Mo_findLeft 24 = .ok (.iload_n 1, 1) := by decide +kernel
theorem d_Mo_findLeft_25 : decode b_Mo_findLeft 25 = .ok (.if_icmp .ne 7, 3) := by decide +kernel
theorem d_Mo_findLeft_28 : decode b_Mo_findLeft 28 = .ok (.iconst 0, 1) := by decide +kernel
theorem d_Mo_findLeft_29 : decode b_Mo_findLeft 29 = .ok (.goto 6, 3) := by decide +kernel
theorem d_Mo_findLeft_32 : decode b_Mo_findLeft 32 = .ok (.sipush 1000, 3) := by decide +kernel
theorem d_Mo_findLeft_35 : decode b_Mo_findLeft 35 = .ok (.istore 4, 2) := by decide +kernel
theorem d_Mo_findLeft_37 : decode b_Mo_findLeft 37 = .ok (.iconst 0, 1) := by decide +kernel
theorem d_Mo_findLeft_38 : decode b_Mo_findLeft 38 = .ok (.istore 5, 2) := by decide +kernel
theorem d_Mo_findLeft_40 : decode b_Mo_findLeft 40 = .ok (.iload 5, 2) := by decide +kernel
theorem d_Mo_findLeft_42 : decode b_Mo_findLeft 42 = .ok (.aload_n 0, 1) := by decide +kernel
theorem d_Mo_findLeft_43 : decode b_Mo_findLeft 43 = .ok (.getfield 13, 3) := by decide +kernel
theorem d_Mo_findLeft_46 : decode b_Mo_findLeft 46 = .ok (.if_icmp .ge 42, 3) := by decide +kernel
theorem d_Mo_findLeft_49 : decode b_Mo_findLeft 49 = .ok (.aload_n 0, 1) := by decide +kernel
theorem d_Mo_findLeft_50 : decode b_Mo_findLeft 50 = .ok (.iload 5, 2) := by decide +kernel
theorem d_Mo_findLeft_52 : decode b_Mo_findLeft 52 = .ok (.iload_n 2, 1) := by decide +kernel
theorem d_Mo_findLeft_53 : decode b_Mo_findLeft 53 = .ok (.invokevirtual 217, 3) := by decide +kernel
theorem d_Mo_findLeft_56 : decode b_Mo_findLeft 56 = .ok (.ifCond .eq 26, 3) := by decide +kernel
theorem d_Mo_findLeft_59 : decode b_Mo_findLeft 59 = .ok (.aload_n 0, 1) := by decide +kernel
theorem d_Mo_findLeft_60 : decode b_Mo_findLeft 60 = .ok (.iload 5, 2) := by decide +kernel
theorem d_Mo_findLeft_62 : decode b_Mo_findLeft 62 = .ok (.iload_n 2, 1) := by decide +kernel
theorem d_Mo_findLeft_63 : decode b_Mo_findLeft 63 = .ok (.iload_n 3, 1) := by decide +kernel
theorem d_Mo_findLeft_64 : decode b_Mo_findLeft 64 = .ok (.invokevirtual 220, 3) := by decide +kernel
theorem d_Mo_findLeft_67 : decode b_Mo_findLeft 67 = .ok (.iload 4, 2) := by decide +kernel
theorem d_Mo_findLeft_69 : decode b_Mo_findLeft 69 = .ok (.if_icmp .ge 13, 3) := by decide +kernel
theorem d_Mo_findLeft_72 : decode b_Mo_findLeft 72 = .ok (.aload_n 0, 1) := by decide +kernel
theorem d_Mo_findLeft_73 : decode b_Mo_findLeft 73 = .ok (.iload 5, 2) := by decide +kernel
theorem d_Mo_findLeft_75 : decode b_Mo_findLeft 75 = .ok (.iload_n 2, 1) := by decide +kernel
theorem d_Mo_findLeft_76 : decode b_Mo_findLeft 76 = .ok (.iload_n 3, 1) := by decide +kernel
theorem d_Mo_findLeft_77 : decode b_Mo_findLeft 77 = .ok (.invokevirtual 220, 3) := by decide +kernel
theorem d_Mo_findLeft_80 : decode b_Mo_findLeft 80 = .ok (.istore 4, 2) := by decide +kernel
theorem d_Mo_findLeft_82 : decode b_Mo_findLeft 82 = .ok (.iinc 5 1, 3) := by decide +kernel
theorem d_Mo_findLeft_85 : decode b_Mo_findLeft 85 = .ok (.goto (-45), 3) := by decide +kernel
theorem d_Mo_findLeft_88 : decode b_Mo_findLeft 88 = .ok (.aload_n 0, 1) := by decide +kernel
theorem d_Mo_findLeft_89 : decode b_Mo_findLeft 89 = .ok (.getfield 109, 3) := by decide +kernel
theorem d_Mo_findLeft_92 : decode b_Mo_findLeft 92 = .ok (.bipush 9, 2) := by decide +kernel
theorem d_Mo_findLeft_94 : decode b_Mo_findLeft 94 = .ok (.iload_n 2, 1) := by decide +kernel
theorem d_Mo_findLeft_95 : decode b_Mo_findLeft 95 = .ok (.imul, 1) := by decide +kernel
theorem d_Mo_findLeft_96 : decode b_Mo_findLeft 96 = .ok (.iload_n 3, 1) := by decide +kernel
theorem d_Mo_findLeft_97 : decode b_Mo_findLeft 97 = .ok (.iadd, 1) := by decide +kernel
theorem d_Mo_findLeft_98 : decode b_Mo_findLeft 98 = .ok (.iload 4, 2) := by decide +kernel
theorem d_Mo_findLeft_100 : decode b_Mo_findLeft 100 = .ok (.iastore, 1) := by decide +kernel
theorem d_Mo_findLeft_101 : decode b_Mo_findLeft 101 = .ok (.iinc 3 1, 3) := by decide +kernel
theorem d_Mo_findLeft_104 : decode b_Mo_findLeft 104 = .ok (.goto (-87), 3) := by decide +kernel
theorem d_Mo_findLeft_107 : decode b_Mo_findLeft 107 = .ok (.iinc 2 (-1), 3) := by decide +kernel
theorem d_Mo_findLeft_110 : decode b_Mo_findLeft 110 = .ok (.goto (-99), 3) := by decide +kernel
theorem d_Mo_findLeft_113 : decode b_Mo_findLeft 113 = .ok (.return_, 1) := by decide +kernel
set_option maxHeartbeats 1000000 in
set_option maxRecDepth 100000 in
theorem c_Mo_findLeft (F : Nat → Nat → Int) (G : Nat → Int → Int) (hn : 0 ≤ F 244 1 ∧ F 244 1 ≤ 10) (hs : sqM G (F 244 1)) : cV y_Mo_findLeft b_Mo_findLeft 6 none 2 45 F G (fun ad => [.ref (ad 244)]) (fun F' G' => F' = F ∧ (∀ a, a ≠ 262 → G' a = G a) ∧ ∀ T : Int, 0 ≤ T → T ≤ 2 ^ (F 244 1).toNat - 1 → ∀ d : Int, 0 ≤ d → d ≤ 8 → lfC (F 244 1).toNat (prM G) (clM G) (lfM G') T d) := by
  have hpp := pw_pos (F 244 1).toNat
  have hple := pw_le (k := (F 244 1).toNat) (by omega)
  have hn10 : (F 244 1).toNat ≤ 10 := by omega
  have hcol : ∀ k, k < (F 244 1).toNat → 0 ≤ clM G k ∧ clM G k < 8 := fun k hk => by have y := (hs (k : Int) (by omega) (by omega)).2.2; unfold clM; omega
  intro s0 a0 D t ad
  refine g_startV (by decide +kernel) (Nat.le_of_ble_eq_true rfl) (fun p l e R s m args below meth c A ok => ?_)
  show gW p l e R s m args below meth c _ D A 6 (gZ0 s) 0 0 ad 265 (mem ad t F G) 0 [(0, .ref (ad 244))] []
  refine g_iconst ok d_Mo_findLeft_0 ?_
  refine g_aload_n ok d_Mo_findLeft_1 rfl 0 rfl ?_
  refine gI_Mo_shapes ok _ rfl k_990 d_Mo_findLeft_2 ?_
  refine g_ishl (z := 1 * 2 ^ (F 244 1).toNat) ok (iI_shl (F 244 1).toNat (by omega) (by decide) (by omega) (by omega)) d_Mo_findLeft_5 ?_
  refine g_iconst ok d_Mo_findLeft_6 ?_
  refine g_isub ok d_Mo_findLeft_7 ?_
  refine g_istore_n (lv' := [(1, .int (iI ((1 * 2 ^ (F 244 1).toNat) - 1))), (0, .ref (ad 244))]) ok d_Mo_findLeft_8 rfl (by decide) rfl ?_
  refine g_iload_n ok d_Mo_findLeft_9 rfl 0 rfl ?_
  refine g_istore_n (lv' := [(2, .int (iI ((1 * 2 ^ (F 244 1).toNat) - 1))), (1, .int (iI ((1 * 2 ^ (F 244 1).toNat) - 1))), (0, .ref (ad 244))]) ok d_Mo_findLeft_10 rfl (by decide) rfl ?_
  have L_s : ∀ (n_s : Nat) (sv : Int) (G1 : Nat → Int → Int), (-1 ≤ sv ∧ sv ≤ 1 * 2 ^ (F 244 1).toNat - 1) → (∀ a, a ≠ 262 → G1 a = G a) → (∀ T : Int, sv < T → T ≤ 1 * 2 ^ (F 244 1).toNat - 1 → ∀ d : Int, 0 ≤ d → d ≤ 8 → lfC (F 244 1).toNat (prM G) (clM G) (lfM G1) T d) → (sv + 2) < (n_s : Int) → gW p l e R s m args below meth c (MQ below (gQv D A ad 265 (fun ce' => ∃ F' G', ce' = mem ad t F' G' ∧ (fun F' G' => F' = F ∧ (∀ a, a ≠ 262 → G' a = G a) ∧ ∀ T : Int, 0 ≤ T → T ≤ 2 ^ (F 244 1).toNat - 1 → ∀ d : Int, 0 ≤ d → d ≤ 8 → lfC (F 244 1).toNat (prM G) (clM G) (lfM G') T d) F' G')) args s 0 0 A) D A 6 (gZ) 0 0 ad 265 (mem ad t F G1) 11 [(0, .ref (ad 244)), (1, .int (iI (1 * 2 ^ (F 244 1).toNat - 1))), (2, .int (iI sv))] [] := by
    intro n_s
    induction n_s with
    | zero =>
      intro sv G1 hsv hg1 hT1 hm_s
      exact absurd hm_s (by omega)
    | succ n_s ih_s =>
      intro sv G1 hsv hg1 hT1 hm_s
      refine g_iload_n ok d_Mo_findLeft_11 rfl 2 rfl ?_
      refine g_if_lt ok 113 d_Mo_findLeft_12 (by decide) (by omega) (fun h1 => ?_) (fun h1 => ?_)
      · exact g_vret ok d_Mo_findLeft_113 ⟨_, _, rfl, rfl, hg1, fun T z1 z2 => hT1 T (by omega) (by omega)⟩
      · have hdr : 0 ≤ sv ∧ sv ≤ 2 ^ (F 244 1).toNat - 1 := by omega
        refine g_iconst ok d_Mo_findLeft_15 ?_
        refine g_istore_n (lv' := [(3, .int (iI 0)), (0, .ref (ad 244)), (1, .int (iI (1 * 2 ^ (F 244 1).toNat - 1))), (2, .int (iI sv))]) ok d_Mo_findLeft_16 rfl (by decide) rfl ?_
        have L_c : ∀ (n_c : Nat) (cc0 : Int) (G2 : Nat → Int → Int), (0 ≤ cc0 ∧ cc0 ≤ 9) → (∀ a, a ≠ 262 → G2 a = G a) → (∀ T : Int, sv < T → T ≤ 1 * 2 ^ (F 244 1).toNat - 1 → ∀ d : Int, 0 ≤ d → d ≤ 8 → lfC (F 244 1).toNat (prM G) (clM G) (lfM G2) T d) → (∀ d : Int, 0 ≤ d → d < cc0 → lfC (F 244 1).toNat (prM G) (clM G) (lfM G2) sv d) → (10 - cc0) < (n_c : Int) → gW p l e R s m args below meth c (MQ below (gQv D A ad 265 (fun ce' => ∃ F' G', ce' = mem ad t F' G' ∧ (fun F' G' => F' = F ∧ (∀ a, a ≠ 262 → G' a = G a) ∧ ∀ T : Int, 0 ≤ T → T ≤ 2 ^ (F 244 1).toNat - 1 → ∀ d : Int, 0 ≤ d → d ≤ 8 → lfC (F 244 1).toNat (prM G) (clM G) (lfM G') T d) F' G')) args s 0 0 A) D A 6 (gZ) 0 0 ad 265 (mem ad t F G2) 17 [(0, .ref (ad 244)), (1, .int (iI (1 * 2 ^ (F 244 1).toNat - 1))), (2, .int (iI sv)), (3, .int (iI cc0))] [] := by
          intro n_c
          induction n_c with
          | zero =>
            intro cc0 G2 hcc hg2 hT2 hC2 hm_c
            exact absurd hm_c (by omega)
          | succ n_c ih_c =>
            intro cc0 G2 hcc hg2 hT2 hC2 hm_c
            refine g_iload_n ok d_Mo_findLeft_17 rfl 3 rfl ?_
            refine g_bipush ok (by decide) d_Mo_findLeft_18 ?_
            refine g_icmp_ge ok 107 d_Mo_findLeft_20 (by decide) (by omega) (by omega) (fun h2 => ?_) (fun h2 => ?_)
            · refine g_iinc (lv' := [(2, .int (iI (sv + (-1)))), (0, .ref (ad 244)), (1, .int (iI (1 * 2 ^ (F 244 1).toNat - 1))), (3, .int (iI cc0))]) ok d_Mo_findLeft_107 2 rfl (by decide) rfl ?_
              refine g_goto ok 11 d_Mo_findLeft_110 (by decide) ?_
              refine g_lv [1, 2, 0] rfl ?_
              exact ih_s (sv + (-1)) G2 (by omega) (hg2) (fun T z1 z2 d z3 z4 => by by_cases y : T = sv; subst y; exact hC2 d z3 (by omega); exact hT2 T (by omega) z2 d z3 z4) (by omega)
            · refine g_iload_n ok d_Mo_findLeft_23 rfl 2 rfl ?_
              refine g_iload_n ok d_Mo_findLeft_24 rfl 1 rfl ?_
              refine g_icmp_ne ok 32 d_Mo_findLeft_25 (by decide) (by omega) (by omega) (fun h3 => ?_) (fun h3 => ?_)
              · refine g_sipush ok (by decide) d_Mo_findLeft_32 ?_
                refine g_istore (lv' := [(4, .int (iI 1000)), (0, .ref (ad 244)), (1, .int (iI (1 * 2 ^ (F 244 1).toNat - 1))), (2, .int (iI sv)), (3, .int (iI cc0))]) ok d_Mo_findLeft_35 (by decide) rfl ?_
                refine g_iconst ok d_Mo_findLeft_37 ?_
                refine g_istore (lv' := [(5, .int (iI 0)), (4, .int (iI 1000)), (0, .ref (ad 244)), (1, .int (iI (1 * 2 ^ (F 244 1).toNat - 1))), (2, .int (iI sv)), (3, .int (iI cc0))]) ok d_Mo_findLeft_38 (by decide) rfl ?_
                have L_q : ∀ (n_q : Nat) (q : Int) (ls : Int), (0 ≤ q ∧ q ≤ F 244 1) → (0 ≤ ls ∧ ls ≤ 1000) → (lsI (F 244 1).toNat (prM G) (fun k => lfM G2 (sv + 2 ^ k) (clM G k) + chg cc0 (clM G k)) sv q.toNat ls) → (F 244 1 + 1 - q) < (n_q : Int) → gW p l e R s m args below meth c (MQ below (gQv D A ad 265 (fun ce' => ∃ F' G', ce' = mem ad t F' G' ∧ (fun F' G' => F' = F ∧ (∀ a, a ≠ 262 → G' a = G a) ∧ ∀ T : Int, 0 ≤ T → T ≤ 2 ^ (F 244 1).toNat - 1 → ∀ d : Int, 0 ≤ d → d ≤ 8 → lfC (F 244 1).toNat (prM G) (clM G) (lfM G') T d) F' G')) args s 0 0 A) D A 6 (gZ) 0 0 ad 265 (mem ad t F G2) 40 [(0, .ref (ad 244)), (1, .int (iI (1 * 2 ^ (F 244 1).toNat - 1))), (2, .int (iI sv)), (3, .int (iI cc0)), (4, .int (iI ls)), (5, .int (iI q))] [] := by
                  intro n_q
                  induction n_q with
                  | zero =>
                    intro q ls hq hlr hls hm_q
                    exact absurd hm_q (by omega)
                  | succ n_q ih_q =>
                    intro q ls hq hlr hls hm_q
                    refine g_iload ok d_Mo_findLeft_40 5 rfl ?_
                    refine g_aload_n ok d_Mo_findLeft_42 rfl 0 rfl ?_
                    refine gI_Mo_shapes ok _ rfl k_990 d_Mo_findLeft_43 ?_
                    refine g_icmp_ge ok 88 d_Mo_findLeft_46 (by decide) (by omega) (by omega) (fun h4 => ?_) (fun h4 => ?_)
                    · refine g_aload_n ok d_Mo_findLeft_88 rfl 0 rfl ?_
                      refine gI_Mo_left ok _ rfl k_1021 d_Mo_findLeft_89 ?_
                      refine g_bipush ok (by decide) d_Mo_findLeft_92 ?_
                      refine g_iload_n ok d_Mo_findLeft_94 rfl 2 rfl ?_
                      refine g_imul ok d_Mo_findLeft_95 ?_
                      refine g_iload_n ok d_Mo_findLeft_96 rfl 3 rfl ?_
                      refine g_iadd ok d_Mo_findLeft_97 ?_
                      refine g_iload ok d_Mo_findLeft_98 4 rfl ?_
                      refine h_iast ok _ a_262 (by omega) d_Mo_findLeft_100 ?_
                      refine g_iinc (lv' := [(3, .int (iI (cc0 + 1))), (0, .ref (ad 244)), (1, .int (iI (1 * 2 ^ (F 244 1).toNat - 1))), (2, .int (iI sv)), (4, .int (iI ls)), (5, .int (iI q))]) ok d_Mo_findLeft_101 3 rfl (by decide) rfl ?_
                      refine g_goto ok 17 d_Mo_findLeft_104 (by decide) ?_
                      refine g_lv [1, 2, 3, 0] rfl ?_
                      exact ih_c (cc0 + 1) (gU G2 262 ((9 * sv) + cc0) ls) (by omega) (fun a z => (gU_k _ _ _ z).trans (hg2 a z)) (fun T z1 z2 d z3 z4 => lfC_cong hcol (fun U e u1 u2 u3 => gU_i (by omega)) (gU_i (by omega)) (hT2 T z1 z2 d z3 z4)) (fun d z1 z2 => by by_cases y : d = cc0; subst y; exact ls_end hn10 hdr (by omega) hcol (fun T y1 y2 e y3 y4 => lfC_cong hcol (fun U e u1 u2 u3 => gU_i (by omega)) (gU_i (by omega)) (hT2 T y1 (by omega) e y3 y4)) (by rw [show q.toNat = (F 244 1).toNat by omega] at hls; exact ls_cong (fun k x => by have hc8 := hcol k x; have hp := pw_pos k; show gU G2 262 (9 * sv + d) ls 262 (9 * (sv + 2 ^ k) + clM G k) + chg d (clM G k) = _; rw [gU_i (by omega)]; rfl) hls) gU_hit; exact lfC_cong hcol (fun U e u1 u2 u3 => gU_i (by omega)) (gU_i (by omega)) (hC2 d z1 (by omega))) (by omega)
                    · refine g_aload_n ok d_Mo_findLeft_49 rfl 0 rfl ?_
                      refine g_iload ok d_Mo_findLeft_50 5 rfl ?_
                      refine g_iload_n ok d_Mo_findLeft_52 rfl 2 rfl ?_
                      refine g_callPV (As := [.int (iI q), .int (iI sv)]) (st := []) ok _ (c_Mo_mayCome F G2 _ _ (F 244 1) hn.2 (by omega) (by unfold sqM bx4 at hs ⊢; rw [hg2 250 (by decide), hg2 249 (by decide), hg2 245 (by decide)]; exact hs) (by omega) s0 a0 D t ad) k_1286 k_11 k_1283 cl_Mo (m_Mo (ad := ad) (t := t) (F := F) (G := G2) rfl).1 (m_Mo rfl).2 k_1285 s_Mo_mayCome q_Mo_mayCome (by decide) (Nat.le_of_ble_eq_true rfl) (by decide) d_Mo_findLeft_53 (fun z5 hc5 => ?_)
                      have hmz := hc5.1
                      have hmy : z5 = 1 ↔ may (prM G) sv q.toNat := by have y := hc5.2; unfold may prM mtM at y ⊢; rw [hg2 250 (by decide), hg2 249 (by decide)] at y; exact y
                      refine g_if_eq ok 82 d_Mo_findLeft_56 (by decide) (by omega) (fun h6 => ?_) (fun h6 => ?_)
                      · have hmay : ¬ may (prM G) sv q.toNat := fun y => absurd (hmy.mpr y) (by omega)
                        refine g_iinc (lv' := [(5, .int (iI (q + 1))), (0, .ref (ad 244)), (1, .int (iI (1 * 2 ^ (F 244 1).toNat - 1))), (2, .int (iI sv)), (3, .int (iI cc0)), (4, .int (iI ls))]) ok d_Mo_findLeft_82 5 rfl (by decide) rfl ?_
                        refine g_goto ok 40 d_Mo_findLeft_85 (by decide) ?_
                        refine g_lv [1, 2, 3, 4, 5, 0] rfl ?_
                        exact ih_q (q + 1) ls (by omega) (by omega) (by rw [show (q + 1).toNat = q.toNat + 1 by omega]; exact ls_no hls (fun y => absurd y hmay)) (by omega)
                      · have hmay := hmy.mp (by omega)
                        refine g_aload_n ok d_Mo_findLeft_59 rfl 0 rfl ?_
                        refine g_iload ok d_Mo_findLeft_60 5 rfl ?_
                        refine g_iload_n ok d_Mo_findLeft_62 rfl 2 rfl ?_
                        refine g_iload_n ok d_Mo_findLeft_63 rfl 3 rfl ?_
                        refine g_callPV (As := [.int (iI q), .int (iI sv), .int (iI cc0)]) (st := []) ok _ (c_Mo_costOf F G2 _ _ _ (F 244 1) hn.2 (by omega) (by unfold sqM bx4 at hs ⊢; rw [hg2 250 (by decide), hg2 249 (by decide), hg2 245 (by decide)]; exact hs) (by omega) hmay.1 (by omega) s0 a0 D t ad) k_1294 k_11 k_1291 cl_Mo (m_Mo (ad := ad) (t := t) (F := F) (G := G2) rfl).1 (m_Mo rfl).2 k_1293 s_Mo_costOf q_Mo_costOf (by decide) (Nat.le_of_ble_eq_true rfl) (by decide) d_Mo_findLeft_64 (fun z7 hc7 => ?_)
                        subst hc7
                        refine g_top (y := lfM G2 (sv + 2 ^ q.toNat) (clM G q.toNat) + chg cc0 (clM G q.toNat)) (by rw [show clM G2 = clM G from by funext k; unfold clM; rw [hg2 245 (by decide), hg2 250 (by decide)]]) ?_
                        have hcr7 : 0 ≤ lfM G2 (sv + 2 ^ q.toNat) (clM G q.toNat) + chg cc0 (clM G q.toNat) ∧ lfM G2 (sv + 2 ^ q.toNat) (clM G q.toNat) + chg cc0 (clM G q.toNat) ≤ 20 := lf_bd hn10 hdr hcol (by omega) hmay (by omega) (fun e1 e2 => hT2 _ e1 (by omega))
                        refine g_iload ok d_Mo_findLeft_67 4 rfl ?_
                        refine g_icmp_ge ok 82 d_Mo_findLeft_69 (by decide) (by omega) (by omega) (fun h8 => ?_) (fun h8 => ?_)
                        · refine g_iinc (lv' := [(5, .int (iI (q + 1))), (0, .ref (ad 244)), (1, .int (iI (1 * 2 ^ (F 244 1).toNat - 1))), (2, .int (iI sv)), (3, .int (iI cc0)), (4, .int (iI ls))]) ok d_Mo_findLeft_82 5 rfl (by decide) rfl ?_
                          refine g_goto ok 40 d_Mo_findLeft_85 (by decide) ?_
                          refine g_lv [1, 2, 3, 4, 5, 0] rfl ?_
                          exact ih_q (q + 1) ls (by omega) (by omega) (by rw [show (q + 1).toNat = q.toNat + 1 by omega]; exact ls_no hls (fun _ => by show ls ≤ (lfM G2 (sv + 2 ^ q.toNat) (clM G q.toNat) + chg cc0 (clM G q.toNat)); omega)) (by omega)
                        · refine g_aload_n ok d_Mo_findLeft_72 rfl 0 rfl ?_
                          refine g_iload ok d_Mo_findLeft_73 5 rfl ?_
                          refine g_iload_n ok d_Mo_findLeft_75 rfl 2 rfl ?_
                          refine g_iload_n ok d_Mo_findLeft_76 rfl 3 rfl ?_
                          refine g_callPV (As := [.int (iI q), .int (iI sv), .int (iI cc0)]) (st := []) ok _ (c_Mo_costOf F G2 _ _ _ (F 244 1) hn.2 (by omega) (by unfold sqM bx4 at hs ⊢; rw [hg2 250 (by decide), hg2 249 (by decide), hg2 245 (by decide)]; exact hs) (by omega) hmay.1 (by omega) s0 a0 D t ad) k_1294 k_11 k_1291 cl_Mo (m_Mo (ad := ad) (t := t) (F := F) (G := G2) rfl).1 (m_Mo rfl).2 k_1293 s_Mo_costOf q_Mo_costOf (by decide) (Nat.le_of_ble_eq_true rfl) (by decide) d_Mo_findLeft_77 (fun z9 hc9 => ?_)
                          subst hc9
                          refine g_top (y := lfM G2 (sv + 2 ^ q.toNat) (clM G q.toNat) + chg cc0 (clM G q.toNat)) (by rw [show clM G2 = clM G from by funext k; unfold clM; rw [hg2 245 (by decide), hg2 250 (by decide)]]) ?_
                          have hcr9 : 0 ≤ lfM G2 (sv + 2 ^ q.toNat) (clM G q.toNat) + chg cc0 (clM G q.toNat) ∧ lfM G2 (sv + 2 ^ q.toNat) (clM G q.toNat) + chg cc0 (clM G q.toNat) ≤ 20 := lf_bd hn10 hdr hcol (by omega) hmay (by omega) (fun e1 e2 => hT2 _ e1 (by omega))
                          refine g_istore (lv' := [(4, .int (iI (lfM G2 (sv + 2 ^ q.toNat) (clM G q.toNat) + chg cc0 (clM G q.toNat)))), (0, .ref (ad 244)), (1, .int (iI (1 * 2 ^ (F 244 1).toNat - 1))), (2, .int (iI sv)), (3, .int (iI cc0)), (5, .int (iI q))]) ok d_Mo_findLeft_80 (by decide) rfl ?_
                          refine g_iinc (lv' := [(5, .int (iI (q + 1))), (4, .int (iI (lfM G2 (sv + 2 ^ q.toNat) (clM G q.toNat) + chg cc0 (clM G q.toNat)))), (0, .ref (ad 244)), (1, .int (iI (1 * 2 ^ (F 244 1).toNat - 1))), (2, .int (iI sv)), (3, .int (iI cc0))]) ok d_Mo_findLeft_82 5 rfl (by decide) rfl ?_
                          refine g_goto ok 40 d_Mo_findLeft_85 (by decide) ?_
                          refine g_lv [2, 3, 4, 5, 1, 0] rfl ?_
                          exact ih_q (q + 1) (lfM G2 (sv + 2 ^ q.toNat) (clM G q.toNat) + chg cc0 (clM G q.toNat)) (by omega) (by omega) (by rw [show (q + 1).toNat = q.toNat + 1 by omega]; exact ls_yes hls (fun y => by have z2 := hls.1 y; omega) hmay rfl (by omega) (by omega)) (by omega)
                refine g_z ?_
                refine g_lv [2, 3, 4, 5, 1, 0] rfl ?_
                exact L_q ((F 244 1 + 1 - 0 : Int).toNat + 1) 0 1000 (by omega) (by omega) (⟨fun e => by omega, fun e => ⟨by decide, Or.inl rfl, fun j hj => by omega⟩⟩) (by omega)
              · refine g_iconst ok d_Mo_findLeft_28 ?_
                refine g_goto ok 35 d_Mo_findLeft_29 (by decide) ?_
                refine g_istore (lv' := [(4, .int (iI 0)), (0, .ref (ad 244)), (1, .int (iI (1 * 2 ^ (F 244 1).toNat - 1))), (2, .int (iI sv)), (3, .int (iI cc0))]) ok d_Mo_findLeft_35 (by decide) rfl ?_
                refine g_iconst ok d_Mo_findLeft_37 ?_
                refine g_istore (lv' := [(5, .int (iI 0)), (4, .int (iI 0)), (0, .ref (ad 244)), (1, .int (iI (1 * 2 ^ (F 244 1).toNat - 1))), (2, .int (iI sv)), (3, .int (iI cc0))]) ok d_Mo_findLeft_38 (by decide) rfl ?_
                have L_q : ∀ (n_q : Nat) (q : Int) (ls : Int), (0 ≤ q ∧ q ≤ F 244 1) → (0 ≤ ls ∧ ls ≤ 1000) → (lsI (F 244 1).toNat (prM G) (fun k => lfM G2 (sv + 2 ^ k) (clM G k) + chg cc0 (clM G k)) sv q.toNat ls) → (F 244 1 + 1 - q) < (n_q : Int) → gW p l e R s m args below meth c (MQ below (gQv D A ad 265 (fun ce' => ∃ F' G', ce' = mem ad t F' G' ∧ (fun F' G' => F' = F ∧ (∀ a, a ≠ 262 → G' a = G a) ∧ ∀ T : Int, 0 ≤ T → T ≤ 2 ^ (F 244 1).toNat - 1 → ∀ d : Int, 0 ≤ d → d ≤ 8 → lfC (F 244 1).toNat (prM G) (clM G) (lfM G') T d) F' G')) args s 0 0 A) D A 6 (gZ) 0 0 ad 265 (mem ad t F G2) 40 [(0, .ref (ad 244)), (1, .int (iI (1 * 2 ^ (F 244 1).toNat - 1))), (2, .int (iI sv)), (3, .int (iI cc0)), (4, .int (iI ls)), (5, .int (iI q))] [] := by
                  intro n_q
                  induction n_q with
                  | zero =>
                    intro q ls hq hlr hls hm_q
                    exact absurd hm_q (by omega)
                  | succ n_q ih_q =>
                    intro q ls hq hlr hls hm_q
                    refine g_iload ok d_Mo_findLeft_40 5 rfl ?_
                    refine g_aload_n ok d_Mo_findLeft_42 rfl 0 rfl ?_
                    refine gI_Mo_shapes ok _ rfl k_990 d_Mo_findLeft_43 ?_
                    refine g_icmp_ge ok 88 d_Mo_findLeft_46 (by decide) (by omega) (by omega) (fun h10 => ?_) (fun h10 => ?_)
                    · refine g_aload_n ok d_Mo_findLeft_88 rfl 0 rfl ?_
                      refine gI_Mo_left ok _ rfl k_1021 d_Mo_findLeft_89 ?_
                      refine g_bipush ok (by decide) d_Mo_findLeft_92 ?_
                      refine g_iload_n ok d_Mo_findLeft_94 rfl 2 rfl ?_
                      refine g_imul ok d_Mo_findLeft_95 ?_
                      refine g_iload_n ok d_Mo_findLeft_96 rfl 3 rfl ?_
                      refine g_iadd ok d_Mo_findLeft_97 ?_
                      refine g_iload ok d_Mo_findLeft_98 4 rfl ?_
                      refine h_iast ok _ a_262 (by omega) d_Mo_findLeft_100 ?_
                      refine g_iinc (lv' := [(3, .int (iI (cc0 + 1))), (0, .ref (ad 244)), (1, .int (iI (1 * 2 ^ (F 244 1).toNat - 1))), (2, .int (iI sv)), (4, .int (iI ls)), (5, .int (iI q))]) ok d_Mo_findLeft_101 3 rfl (by decide) rfl ?_
                      refine g_goto ok 17 d_Mo_findLeft_104 (by decide) ?_
                      refine g_lv [1, 2, 3, 0] rfl ?_
                      exact ih_c (cc0 + 1) (gU G2 262 ((9 * sv) + cc0) ls) (by omega) (fun a z => (gU_k _ _ _ z).trans (hg2 a z)) (fun T z1 z2 d z3 z4 => lfC_cong hcol (fun U e u1 u2 u3 => gU_i (by omega)) (gU_i (by omega)) (hT2 T z1 z2 d z3 z4)) (fun d z1 z2 => by by_cases y : d = cc0; subst y; exact ls_end hn10 hdr (by omega) hcol (fun T y1 y2 e y3 y4 => lfC_cong hcol (fun U e u1 u2 u3 => gU_i (by omega)) (gU_i (by omega)) (hT2 T y1 (by omega) e y3 y4)) (by rw [show q.toNat = (F 244 1).toNat by omega] at hls; exact ls_cong (fun k x => by have hc8 := hcol k x; have hp := pw_pos k; show gU G2 262 (9 * sv + d) ls 262 (9 * (sv + 2 ^ k) + clM G k) + chg d (clM G k) = _; rw [gU_i (by omega)]; rfl) hls) gU_hit; exact lfC_cong hcol (fun U e u1 u2 u3 => gU_i (by omega)) (gU_i (by omega)) (hC2 d z1 (by omega))) (by omega)
                    · refine g_aload_n ok d_Mo_findLeft_49 rfl 0 rfl ?_
                      refine g_iload ok d_Mo_findLeft_50 5 rfl ?_
                      refine g_iload_n ok d_Mo_findLeft_52 rfl 2 rfl ?_
                      refine g_callPV (As := [.int (iI q), .int (iI sv)]) (st := []) ok _ (c_Mo_mayCome F G2 _ _ (F 244 1) hn.2 (by omega) (by unfold sqM bx4 at hs ⊢; rw [hg2 250 (by decide), hg2 249 (by decide), hg2 245 (by decide)]; exact hs) (by omega) s0 a0 D t ad) k_1286 k_11 k_1283 cl_Mo (m_Mo (ad := ad) (t := t) (F := F) (G := G2) rfl).1 (m_Mo rfl).2 k_1285 s_Mo_mayCome q_Mo_mayCome (by decide) (Nat.le_of_ble_eq_true rfl) (by decide) d_Mo_findLeft_53 (fun z11 hc11 => ?_)
                      have hmz := hc11.1
                      have hmy : z11 = 1 ↔ may (prM G) sv q.toNat := by have y := hc11.2; unfold may prM mtM at y ⊢; rw [hg2 250 (by decide), hg2 249 (by decide)] at y; exact y
                      refine g_if_eq ok 82 d_Mo_findLeft_56 (by decide) (by omega) (fun h12 => ?_) (fun h12 => ?_)
                      · have hmay : ¬ may (prM G) sv q.toNat := fun y => absurd (hmy.mpr y) (by omega)
                        refine g_iinc (lv' := [(5, .int (iI (q + 1))), (0, .ref (ad 244)), (1, .int (iI (1 * 2 ^ (F 244 1).toNat - 1))), (2, .int (iI sv)), (3, .int (iI cc0)), (4, .int (iI ls))]) ok d_Mo_findLeft_82 5 rfl (by decide) rfl ?_
                        refine g_goto ok 40 d_Mo_findLeft_85 (by decide) ?_
                        refine g_lv [1, 2, 3, 4, 5, 0] rfl ?_
                        exact ih_q (q + 1) ls (by omega) (by omega) (by rw [show (q + 1).toNat = q.toNat + 1 by omega]; exact ls_no hls (fun y => absurd y hmay)) (by omega)
                      · have hmay := hmy.mp (by omega)
                        refine g_aload_n ok d_Mo_findLeft_59 rfl 0 rfl ?_
                        refine g_iload ok d_Mo_findLeft_60 5 rfl ?_
                        refine g_iload_n ok d_Mo_findLeft_62 rfl 2 rfl ?_
                        refine g_iload_n ok d_Mo_findLeft_63 rfl 3 rfl ?_
                        refine g_callPV (As := [.int (iI q), .int (iI sv), .int (iI cc0)]) (st := []) ok _ (c_Mo_costOf F G2 _ _ _ (F 244 1) hn.2 (by omega) (by unfold sqM bx4 at hs ⊢; rw [hg2 250 (by decide), hg2 249 (by decide), hg2 245 (by decide)]; exact hs) (by omega) hmay.1 (by omega) s0 a0 D t ad) k_1294 k_11 k_1291 cl_Mo (m_Mo (ad := ad) (t := t) (F := F) (G := G2) rfl).1 (m_Mo rfl).2 k_1293 s_Mo_costOf q_Mo_costOf (by decide) (Nat.le_of_ble_eq_true rfl) (by decide) d_Mo_findLeft_64 (fun z13 hc13 => ?_)
                        subst hc13
                        refine g_top (y := lfM G2 (sv + 2 ^ q.toNat) (clM G q.toNat) + chg cc0 (clM G q.toNat)) (by rw [show clM G2 = clM G from by funext k; unfold clM; rw [hg2 245 (by decide), hg2 250 (by decide)]]) ?_
                        have hcr13 : 0 ≤ lfM G2 (sv + 2 ^ q.toNat) (clM G q.toNat) + chg cc0 (clM G q.toNat) ∧ lfM G2 (sv + 2 ^ q.toNat) (clM G q.toNat) + chg cc0 (clM G q.toNat) ≤ 20 := lf_bd hn10 hdr hcol (by omega) hmay (by omega) (fun e1 e2 => hT2 _ e1 (by omega))
                        refine g_iload ok d_Mo_findLeft_67 4 rfl ?_
                        refine g_icmp_ge ok 82 d_Mo_findLeft_69 (by decide) (by omega) (by omega) (fun h14 => ?_) (fun h14 => ?_)
                        · refine g_iinc (lv' := [(5, .int (iI (q + 1))), (0, .ref (ad 244)), (1, .int (iI (1 * 2 ^ (F 244 1).toNat - 1))), (2, .int (iI sv)), (3, .int (iI cc0)), (4, .int (iI ls))]) ok d_Mo_findLeft_82 5 rfl (by decide) rfl ?_
                          refine g_goto ok 40 d_Mo_findLeft_85 (by decide) ?_
                          refine g_lv [1, 2, 3, 4, 5, 0] rfl ?_
                          exact ih_q (q + 1) ls (by omega) (by omega) (by rw [show (q + 1).toNat = q.toNat + 1 by omega]; exact ls_no hls (fun _ => by show ls ≤ (lfM G2 (sv + 2 ^ q.toNat) (clM G q.toNat) + chg cc0 (clM G q.toNat)); omega)) (by omega)
                        · refine g_aload_n ok d_Mo_findLeft_72 rfl 0 rfl ?_
                          refine g_iload ok d_Mo_findLeft_73 5 rfl ?_
                          refine g_iload_n ok d_Mo_findLeft_75 rfl 2 rfl ?_
                          refine g_iload_n ok d_Mo_findLeft_76 rfl 3 rfl ?_
                          refine g_callPV (As := [.int (iI q), .int (iI sv), .int (iI cc0)]) (st := []) ok _ (c_Mo_costOf F G2 _ _ _ (F 244 1) hn.2 (by omega) (by unfold sqM bx4 at hs ⊢; rw [hg2 250 (by decide), hg2 249 (by decide), hg2 245 (by decide)]; exact hs) (by omega) hmay.1 (by omega) s0 a0 D t ad) k_1294 k_11 k_1291 cl_Mo (m_Mo (ad := ad) (t := t) (F := F) (G := G2) rfl).1 (m_Mo rfl).2 k_1293 s_Mo_costOf q_Mo_costOf (by decide) (Nat.le_of_ble_eq_true rfl) (by decide) d_Mo_findLeft_77 (fun z15 hc15 => ?_)
                          subst hc15
                          refine g_top (y := lfM G2 (sv + 2 ^ q.toNat) (clM G q.toNat) + chg cc0 (clM G q.toNat)) (by rw [show clM G2 = clM G from by funext k; unfold clM; rw [hg2 245 (by decide), hg2 250 (by decide)]]) ?_
                          have hcr15 : 0 ≤ lfM G2 (sv + 2 ^ q.toNat) (clM G q.toNat) + chg cc0 (clM G q.toNat) ∧ lfM G2 (sv + 2 ^ q.toNat) (clM G q.toNat) + chg cc0 (clM G q.toNat) ≤ 20 := lf_bd hn10 hdr hcol (by omega) hmay (by omega) (fun e1 e2 => hT2 _ e1 (by omega))
                          refine g_istore (lv' := [(4, .int (iI (lfM G2 (sv + 2 ^ q.toNat) (clM G q.toNat) + chg cc0 (clM G q.toNat)))), (0, .ref (ad 244)), (1, .int (iI (1 * 2 ^ (F 244 1).toNat - 1))), (2, .int (iI sv)), (3, .int (iI cc0)), (5, .int (iI q))]) ok d_Mo_findLeft_80 (by decide) rfl ?_
                          refine g_iinc (lv' := [(5, .int (iI (q + 1))), (4, .int (iI (lfM G2 (sv + 2 ^ q.toNat) (clM G q.toNat) + chg cc0 (clM G q.toNat)))), (0, .ref (ad 244)), (1, .int (iI (1 * 2 ^ (F 244 1).toNat - 1))), (2, .int (iI sv)), (3, .int (iI cc0))]) ok d_Mo_findLeft_82 5 rfl (by decide) rfl ?_
                          refine g_goto ok 40 d_Mo_findLeft_85 (by decide) ?_
                          refine g_lv [2, 3, 4, 5, 1, 0] rfl ?_
                          exact ih_q (q + 1) (lfM G2 (sv + 2 ^ q.toNat) (clM G q.toNat) + chg cc0 (clM G q.toNat)) (by omega) (by omega) (by rw [show (q + 1).toNat = q.toNat + 1 by omega]; exact ls_yes hls (fun y => by have z2 := hls.1 y; omega) hmay rfl (by omega) (by omega)) (by omega)
                refine g_z ?_
                refine g_lv [2, 3, 4, 5, 1, 0] rfl ?_
                exact L_q ((F 244 1 + 1 - 0 : Int).toNat + 1) 0 0 (by omega) (by omega) (⟨fun e => rfl, fun e => by omega⟩) (by omega)
        refine g_z ?_
        refine g_lv [1, 2, 3, 0] rfl ?_
        exact L_c ((10 - 0 : Int).toNat + 1) 0 G1 (by omega) (hg1) (hT1) (fun d z1 z2 => by omega) (by omega)
  refine g_z ?_
  refine g_lv [2, 1, 0] rfl ?_
  exact L_s ((((1 * 2 ^ (F 244 1).toNat) - 1) + 2 : Int).toNat + 1) ((1 * 2 ^ (F 244 1).toNat) - 1) G (by omega) (fun _ _ => rfl) (fun T z1 z2 => by omega) (by omega)
