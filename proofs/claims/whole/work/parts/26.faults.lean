def rInside (xs ys : Int → Int) (sz x y : Int) : Prop := (∀ i : Int, 0 ≤ i → i < sz → ¬ rOn xs ys sz x y i) ∧ oddN (rCr xs ys sz x y) sz.toNat
theorem rSide_in {xs ys : Int → Int} {sz x y r : Int} (h : rSide xs ys sz x y r) : r = 1 ↔ rInside xs ys sz x y := by
  rcases h with ⟨h, i, h1, h2, h3⟩ | ⟨h0, h | h⟩
  · exact ⟨fun q => by omega, fun q => absurd h3 (q.1 i h1 h2)⟩
  · exact ⟨fun _ => ⟨h0, h.2⟩, fun _ => h.1⟩
  · exact ⟨fun q => by omega, fun q => absurd q.2 h.2⟩
/-- corner 0 of the ring at h is inside the ring at q -/
def bIn (F : Nat → Nat → Int) (G : Nat → Int → Int) (h q : Nat) : Prop := rInside (G (q + 1)) (G (q + 2)) (F q 2) (G (h + 1) 0) (G (h + 2) 0)
def rFlat (F : Nat → Nat → Int) (G : Nat → Int → Int) (k : Nat) : Prop := ∀ a b : Int, 1 ≤ a → a < b → b < F k 2 → rTurn (G (k + 1)) (G (k + 2)) a b = 0
theorem fU_fU (F : Nat → Nat → Int) (k j : Nat) (v w : Int) : fU (fU F k j v) k j w = fU F k j w := by
  funext a b
  unfold fU
  split <;> rfl
theorem d_In_beginsInside_0 : decode b_In_beginsInside 0 = .ok (.aload_n 1, 1) := by decide +kernel
theorem d_In_beginsInside_1 : decode b_In_beginsInside 1 = .ok (.aload_n 0, 1) := by decide +kernel
theorem d_In_beginsInside_2 : decode b_In_beginsInside 2 = .ok (.getfield 89, 3) := by decide +kernel
theorem d_In_beginsInside_5 : decode b_In_beginsInside 5 = .ok (.iconst 0, 1) := by decide +kernel
theorem d_In_beginsInside_6 : decode b_In_beginsInside 6 = .ok (.iaload, 1) := by decide +kernel
theorem d_In_beginsInside_7 : decode b_In_beginsInside 7 = .ok (.aload_n 0, 1) := by decide +kernel
theorem d_In_beginsInside_8 : decode b_In_beginsInside 8 = .ok (.getfield 92, 3) := by decide +kernel
theorem d_In_beginsInside_11 : decode b_In_beginsInside 11 = .ok (.iconst 0, 1) := by decide +kernel
theorem d_In_beginsInside_12 : decode b_In_beginsInside 12 = .ok (.iaload, 1) := by decide +kernel
theorem d_In_beginsInside_13 : decode b_In_beginsInside 13 = .ok (.invokevirtual 127, 3) := by decide +kernel
theorem d_In_beginsInside_16 : decode b_In_beginsInside 16 = .ok (.iconst 1, 1) := by decide +kernel
theorem d_In_beginsInside_17 : decode b_In_beginsInside 17 = .ok (.if_icmp .ne 7, 3) := by decide +kernel
theorem d_In_beginsInside_20 : decode b_In_beginsInside 20 = .ok (.iconst 1, 1) := by decide +kernel
theorem d_In_beginsInside_21 : decode b_In_beginsInside 21 = .ok (.goto 4, 3) := by decide +kernel
theorem d_In_beginsInside_24 : decode b_In_beginsInside 24 = .ok (.iconst 0, 1) := by decide +kernel
theorem d_In_beginsInside_25 : decode b_In_beginsInside 25 = .ok (.ireturn, 1) := by decide +kernel
set_option maxHeartbeats 4000000 in
set_option maxRecDepth 100000 in
theorem c_In_beginsInside (F : Nat → Nat → Int) (G : Nat → Int → Int) (h q : Nat) (hH : isRg h) (hQ : isRg q) (hRh : rIn F G h) (hRq : rIn F G q) (hs : 0 < F h 2) : cP y_In_beginsInside b_In_beginsInside 2 (some .boolean) 1 31 F G (fun ad => [.ref (ad h), .ref (ad q)]) (fun r => (r = 0 ∨ r = 1) ∧ (r = 1 ↔ bIn F G h q)) := by
  have a1 : isA (h + 1) (rRoom ((h - 2) % 22)) := a_rg hH (Or.inl rfl) rfl
  have a2 : isA (h + 2) (rRoom ((h - 2) % 22)) := a_rg hH (Or.inr rfl) rfl
  obtain ⟨hs2, hX⟩ := hRh
  obtain ⟨x0, y0⟩ := hX 0 (by omega) hs
  intro s0 a0 D t ad
  refine g_startP (by decide +kernel) (Nat.le_of_ble_eq_true rfl) (fun p l e R s m args below meth c A ok => ?_)
  show gW p l e R s m args below meth c _ D A 2 (gZ0 s) 0 0 ad 265 (mem ad t F G) 0 [(0, .ref (ad h)), (1, .ref (ad q))] []
  refine g_aload_n ok d_In_beginsInside_0 rfl 1 rfl ?_
  refine g_aload_n ok d_In_beginsInside_1 rfl 0 rfl ?_
  refine gN_Rg_xs ok _ hH k_48 d_In_beginsInside_2 ?_
  refine g_iconst ok d_In_beginsInside_5 ?_
  refine h_iald ok _ a1 (by omega) d_In_beginsInside_6 ?_
  refine g_aload_n ok d_In_beginsInside_7 rfl 0 rfl ?_
  refine gN_Rg_ys ok _ hH k_53 d_In_beginsInside_8 ?_
  refine g_iconst ok d_In_beginsInside_11 ?_
  refine h_iald ok _ a2 (by omega) d_In_beginsInside_12 ?_
  refine g_callPVN (As := [.int (iI (G (h + 1) 0)), .int (iI (G (h + 2) 0))]) (st := []) ok _ (c_Rg_sideOf F G _ _ _ hQ hRq x0 y0 s0 a0 D t ad) k_523 k_3 k_871 cl_Rg (m_Rg (ad := ad) (t := t) (F := F) (G := G) hQ).1 (m_Rg hQ).2 k_522 s_Rg_sideOf q_Rg_sideOf (by decide) (Nat.le_of_ble_eq_true rfl) (by decide) d_In_beginsInside_13 (fun z1 hc1 => ?_)
  have hz := rSide_rng hc1
  have hi := rSide_in hc1
  refine g_iconst ok d_In_beginsInside_16 ?_
  refine g_icmp_ne ok 24 d_In_beginsInside_17 (by decide) (by omega) (by omega) (fun h2 => ?_) (fun h2 => ?_)
  · refine g_iconst ok d_In_beginsInside_24 ?_
    exact g_zpret ok d_In_beginsInside_25 (Or.inl rfl) ⟨Or.inl rfl, ⟨fun q => by omega, fun q => absurd (hi.mpr q) (by omega)⟩⟩
  · refine g_iconst ok d_In_beginsInside_20 ?_
    refine g_goto ok 25 d_In_beginsInside_21 (by decide) ?_
    exact g_zpret ok d_In_beginsInside_25 (Or.inr rfl) ⟨Or.inr rfl, ⟨fun _ => hi.mp (by omega), fun _ => rfl⟩⟩
theorem rl_of {k : Nat} (h : isSh k) {z : Int} (hz : 0 ≤ z ∧ z < 2) : isRg (k + 15 + 3 * z.toNat) := by
  have := rg_of (q := 4 + z.toNat) h (by omega)
  rw [show k + 15 + 3 * z.toNat = k + 3 + 3 * (4 + z.toNat) by omega]
  exact this
theorem d_In_faultOfRails_0 : decode b_In_faultOfRails 0 = .ok (.aload_n 1, 1) := by decide +kernel
theorem d_In_faultOfRails_1 : decode b_In_faultOfRails 1 = .ok (.getfield 49, 3) := by decide +kernel
theorem d_In_faultOfRails_4 : decode b_In_faultOfRails 4 = .ok (.iconst 0, 1) := by decide +kernel
theorem d_In_faultOfRails_5 : decode b_In_faultOfRails 5 = .ok (.aaload, 1) := by decide +kernel
theorem d_In_faultOfRails_6 : decode b_In_faultOfRails 6 = .ok (.getfield 53, 3) := by decide +kernel
theorem d_In_faultOfRails_9 : decode b_In_faultOfRails 9 = .ok (.istore_n 2, 1) := by decide +kernel
theorem d_In_faultOfRails_10 : decode b_In_faultOfRails 10 = .ok (.iload_n 2, 1) := by decide +kernel
theorem d_In_faultOfRails_11 : decode b_In_faultOfRails 11 = .ok (.iconst 2, 1) := by decide +kernel
theorem d_In_faultOfRails_12 : decode b_In_faultOfRails 12 = .ok (.if_icmp .lt 16, 3) := by decide +kernel
theorem d_In_faultOfRails_15 : decode b_In_faultOfRails 15 = .ok (.iload_n 2, 1) := by decide +kernel
theorem d_In_faultOfRails_16 : decode b_In_faultOfRails 16 = .ok (.aload_n 1, 1) := by decide +kernel
theorem d_In_faultOfRails_17 : decode b_In_faultOfRails 17 = .ok (.getfield 49, 3) := by decide +kernel
theorem d_In_faultOfRails_20 : decode b_In_faultOfRails 20 = .ok (.iconst 1, 1) := by decide +kernel
theorem d_In_faultOfRails_21 : decode b_In_faultOfRails 21 = .ok (.aaload, 1) := by decide +kernel
theorem d_In_faultOfRails_22 : decode b_In_faultOfRails 22 = .ok (.getfield 53, 3) := by decide +kernel
theorem d_In_faultOfRails_25 : decode b_In_faultOfRails 25 = .ok (.if_icmp .eq 7, 3) := by decide +kernel
theorem d_In_faultOfRails_28 : decode b_In_faultOfRails 28 = .ok (.iconst 1, 1) := by decide +kernel
theorem d_In_faultOfRails_29 : decode b_In_faultOfRails 29 = .ok (.goto 4, 3) := by decide +kernel
theorem d_In_faultOfRails_32 : decode b_In_faultOfRails 32 = .ok (.iconst 0, 1) := by decide +kernel
theorem d_In_faultOfRails_33 : decode b_In_faultOfRails 33 = .ok (.ireturn, 1) := by decide +kernel
set_option maxHeartbeats 4000000 in
set_option maxRecDepth 100000 in
theorem c_In_faultOfRails (F : Nat → Nat → Int) (G : Nat → Int → Int) (k : Nat) (hK : isSh k) (h0 : 0 ≤ F (k + 15 + 3 * (0 : Int).toNat) 2 ∧ F (k + 15 + 3 * (0 : Int).toNat) 2 ≤ 16) (h1 : 0 ≤ F (k + 15 + 3 * (1 : Int).toNat) 2 ∧ F (k + 15 + 3 * (1 : Int).toNat) 2 ≤ 16) : cP y_In_faultOfRails b_In_faultOfRails 3 (some .int) 0 0 F G (fun ad => [.ref (ad 224), .ref (ad k)]) (fun r => r = if F (k + 15 + 3 * (0 : Int).toNat) 2 < 2 ∨ ¬ F (k + 15 + 3 * (0 : Int).toNat) 2 = F (k + 15 + 3 * (1 : Int).toNat) 2 then 1 else 0) := by
  intro s0 a0 D t ad
  refine g_startP (by decide +kernel) (Nat.le_of_ble_eq_true rfl) (fun p l e R s m args below meth c A ok => ?_)
  show gW p l e R s m args below meth c _ D A 3 (gZ0 s) 0 0 ad 265 (mem ad t F G) 0 [(0, .ref (ad 224)), (1, .ref (ad k))] []
  refine g_aload_n ok d_In_faultOfRails_0 rfl 1 rfl ?_
  refine gN_Sh_rails ok _ hK k_89 d_In_faultOfRails_1 ?_
  refine g_iconst ok d_In_faultOfRails_4 ?_
  refine h_rails ok _ hK (by omega) d_In_faultOfRails_5 ?_
  refine gN_Rg_size ok _ (rl_of hK (by omega)) k_55 d_In_faultOfRails_6 ?_
  refine g_istore_n (lv' := [(2, .int (iI (F (k + 15 + 3 * (0 : Int).toNat) 2))), (0, .ref (ad 224)), (1, .ref (ad k))]) ok d_In_faultOfRails_9 rfl (by decide) rfl ?_
  refine g_iload_n ok d_In_faultOfRails_10 rfl 0 rfl ?_
  refine g_iconst ok d_In_faultOfRails_11 ?_
  refine g_icmp_lt ok 28 d_In_faultOfRails_12 (by decide) (by omega) (by omega) (fun h1 => ?_) (fun h1 => ?_)
  · refine g_iconst ok d_In_faultOfRails_28 ?_
    refine g_goto ok 33 d_In_faultOfRails_29 (by decide) ?_
    exact g_ipret ok d_In_faultOfRails_33 (by split <;> omega)
  · refine g_iload_n ok d_In_faultOfRails_15 rfl 0 rfl ?_
    refine g_aload_n ok d_In_faultOfRails_16 rfl 2 rfl ?_
    refine gN_Sh_rails ok _ hK k_89 d_In_faultOfRails_17 ?_
    refine g_iconst ok d_In_faultOfRails_20 ?_
    refine h_rails ok _ hK (by omega) d_In_faultOfRails_21 ?_
    refine gN_Rg_size ok _ (rl_of hK (by omega)) k_55 d_In_faultOfRails_22 ?_
    refine g_icmp_eq ok 32 d_In_faultOfRails_25 (by decide) (by omega) (by omega) (fun h2 => ?_) (fun h2 => ?_)
    · refine g_iconst ok d_In_faultOfRails_32 ?_
      exact g_ipret ok d_In_faultOfRails_33 (by split <;> omega)
    · refine g_iconst ok d_In_faultOfRails_28 ?_
      refine g_goto ok 33 d_In_faultOfRails_29 (by decide) ?_
      exact g_ipret ok d_In_faultOfRails_33 (by split <;> omega)
theorem d_In_hasFlatRing_0 : decode b_In_hasFlatRing 0 = .ok (.iconst 0, 1) := by decide +kernel
theorem d_In_hasFlatRing_1 : decode b_In_hasFlatRing 1 = .ok (.istore_n 2, 1) := by decide +kernel
theorem d_In_hasFlatRing_2 : decode b_In_hasFlatRing 2 = .ok (.iload_n 2, 1) := by decide +kernel
theorem d_In_hasFlatRing_3 : decode b_In_hasFlatRing 3 = .ok (.iconst 4, 1) := by decide +kernel
theorem d_In_hasFlatRing_4 : decode b_In_hasFlatRing 4 = .ok (.if_icmp .ge 48, 3) := by decide +kernel
theorem d_In_hasFlatRing_7 : decode b_In_hasFlatRing 7 = .ok (.aload_n 1, 1) := by decide +kernel
theorem d_In_hasFlatRing_8 : decode b_In_hasFlatRing 8 = .ok (.getfield 76, 3) := by decide +kernel
theorem d_In_hasFlatRing_11 : decode b_In_hasFlatRing 11 = .ok (.iload_n 2, 1) := by decide +kernel
theorem d_In_hasFlatRing_12 : decode b_In_hasFlatRing 12 = .ok (.aaload, 1) := by decide +kernel
theorem d_In_hasFlatRing_13 : decode b_In_hasFlatRing 13 = .ok (.astore_n 3, 1) := by decide +kernel
theorem d_In_hasFlatRing_14 : decode b_In_hasFlatRing 14 = .ok (.iload_n 2, 1) := by decide +kernel
theorem d_In_hasFlatRing_15 : decode b_In_hasFlatRing 15 = .ok (.ifCond .eq 10, 3) := by decide +kernel
theorem d_In_hasFlatRing_18 : decode b_In_hasFlatRing 18 = .ok (.aload_n 3, 1) := by decide +kernel
theorem d_In_hasFlatRing_19 : decode b_In_hasFlatRing 19 = .ok (.getfield 53, 3) := by decide +kernel
theorem d_In_hasFlatRing_22 : decode b_In_hasFlatRing 22 = .ok (.ifCond .le 7, 3) := by decide +kernel
theorem d_In_hasFlatRing_25 : decode b_In_hasFlatRing 25 = .ok (.iconst 1, 1) := by decide +kernel
theorem d_In_hasFlatRing_26 : decode b_In_hasFlatRing 26 = .ok (.goto 4, 3) := by decide +kernel
theorem d_In_hasFlatRing_29 : decode b_In_hasFlatRing 29 = .ok (.iconst 0, 1) := by decide +kernel
theorem d_In_hasFlatRing_30 : decode b_In_hasFlatRing 30 = .ok (.istore 4, 2) := by decide +kernel
theorem d_In_hasFlatRing_32 : decode b_In_hasFlatRing 32 = .ok (.iload 4, 2) := by decide +kernel
theorem d_In_hasFlatRing_34 : decode b_In_hasFlatRing 34 = .ok (.ifCond .eq 12, 3) := by decide +kernel
theorem d_In_hasFlatRing_37 : decode b_In_hasFlatRing 37 = .ok (.aload_n 3, 1) := by decide +kernel
theorem d_In_hasFlatRing_38 : decode b_In_hasFlatRing 38 = .ok (.invokevirtual 79, 3) := by decide +kernel
theorem d_In_hasFlatRing_41 : decode b_In_hasFlatRing 41 = .ok (.ifCond .eq 5, 3) := by decide +kernel
theorem d_In_hasFlatRing_44 : decode b_In_hasFlatRing 44 = .ok (.iconst 1, 1) := by decide +kernel
theorem d_In_hasFlatRing_45 : decode b_In_hasFlatRing 45 = .ok (.ireturn, 1) := by decide +kernel
theorem d_In_hasFlatRing_46 : decode b_In_hasFlatRing 46 = .ok (.iinc 2 1, 3) := by decide +kernel
theorem d_In_hasFlatRing_49 : decode b_In_hasFlatRing 49 = .ok (.goto (-47), 3) := by decide +kernel
theorem d_In_hasFlatRing_52 : decode b_In_hasFlatRing 52 = .ok (.iconst 0, 1) := by decide +kernel
theorem d_In_hasFlatRing_53 : decode b_In_hasFlatRing 53 = .ok (.ireturn, 1) := by decide +kernel
set_option maxHeartbeats 4000000 in
set_option maxRecDepth 100000 in
theorem c_In_hasFlatRing (F : Nat → Nat → Int) (G : Nat → Int → Int) (k : Nat) (hK : isSh k) (hRs : sRg F G k) : cP y_In_hasFlatRing b_In_hasFlatRing 5 (some .boolean) 1 23 F G (fun ad => [.ref (ad 224), .ref (ad k)]) (fun z => (z = 0 ∨ z = 1) ∧ (z = 1 ↔ ∃ q : Int, (0 ≤ q ∧ q < 4) ∧ (q = 0 ∨ 0 < F (k + 3 + 3 * q.toNat) 2) ∧ rFlat F G (k + 3 + 3 * q.toNat))) := by
  intro s0 a0 D t ad
  refine g_startP (by decide +kernel) (Nat.le_of_ble_eq_true rfl) (fun p l e R s m args below meth c A ok => ?_)
  show gW p l e R s m args below meth c _ D A 5 (gZ0 s) 0 0 ad 265 (mem ad t F G) 0 [(0, .ref (ad 224)), (1, .ref (ad k))] []
  refine g_iconst ok d_In_hasFlatRing_0 ?_
  refine g_istore_n (lv' := [(2, .int (iI 0)), (0, .ref (ad 224)), (1, .ref (ad k))]) ok d_In_hasFlatRing_1 rfl (by decide) rfl ?_
  have L_r : ∀ (n_r : Nat) (r : Int), (0 ≤ r ∧ r ≤ 4) → (∀ q : Int, 0 ≤ q → q < r → (q = 0 ∨ 0 < F (k + 3 + 3 * q.toNat) 2) → ¬ rFlat F G (k + 3 + 3 * q.toNat)) → (5 - r) < (n_r : Int) → gW p l e R s m args below meth c (MQ below (gQp (fun z => (z = 0 ∨ z = 1) ∧ (z = 1 ↔ ∃ q : Int, (0 ≤ q ∧ q < 4) ∧ (q = 0 ∨ 0 < F (k + 3 + 3 * q.toNat) 2) ∧ rFlat F G (k + 3 + 3 * q.toNat)))) args s 0 0 (fun _ => False)) D A 5 (gZ0 s) 0 0 ad 265 (mem ad t F G) 2 [(0, .ref (ad 224)), (1, .ref (ad k)), (2, .int (iI r))] [] := by
    intro n_r
    induction n_r with
    | zero =>
      intro r hr ho hm_r
      exact absurd hm_r (by omega)
    | succ n_r ih_r =>
      intro r hr ho hm_r
      refine g_iload_n ok d_In_hasFlatRing_2 rfl 2 rfl ?_
      refine g_iconst ok d_In_hasFlatRing_3 ?_
      refine g_icmp_ge ok 52 d_In_hasFlatRing_4 (by decide) (by omega) (by omega) (fun h1 => ?_) (fun h1 => ?_)
      · refine g_iconst ok d_In_hasFlatRing_52 ?_
        exact g_zpret ok d_In_hasFlatRing_53 (Or.inl rfl) ⟨Or.inl rfl, ⟨fun q => by omega, fun ⟨q, q1, q2, q3⟩ => absurd q3 (ho q q1.1 (by omega) q2)⟩⟩
      · refine g_aload_n ok d_In_hasFlatRing_7 rfl 1 rfl ?_
        refine gN_Sh_rings ok _ hK k_87 d_In_hasFlatRing_8 ?_
        refine g_iload_n ok d_In_hasFlatRing_11 rfl 2 rfl ?_
        refine h_rings ok _ hK (by omega) d_In_hasFlatRing_12 ?_
        refine g_astore_n (lv' := [(3, .ref (ad (k + 3 + 3 * (r : Int).toNat))), (0, .ref (ad 224)), (1, .ref (ad k)), (2, .int (iI r))]) ok d_In_hasFlatRing_13 rfl (by decide) rfl ?_
        have hsz := (hRs r.toNat (by omega)).1
        have hr32 := rRoom_le ((k + 3 + 3 * r.toNat - 2) % 22)
        have J_30 : ∀ (b : Int), ((b = 0 ∨ b = 1) ∧ (b = 1 ↔ (r = 0 ∨ 0 < F (k + 3 + 3 * r.toNat) 2))) → gW p l e R s m args below meth c (MQ below (gQp (fun z => (z = 0 ∨ z = 1) ∧ (z = 1 ↔ ∃ q : Int, (0 ≤ q ∧ q < 4) ∧ (q = 0 ∨ 0 < F (k + 3 + 3 * q.toNat) 2) ∧ rFlat F G (k + 3 + 3 * q.toNat)))) args s 0 0 (fun _ => False)) D A 5 (gZ0 s) 0 0 ad 265 (mem ad t F G) 30 [(0, .ref (ad 224)), (1, .ref (ad k)), (2, .int (iI r)), (3, .ref (ad (k + 3 + 3 * (r : Int).toNat)))] [.int (iI b)] := by
          intro b hb
          refine g_istore (lv' := [(4, .int (iI b)), (0, .ref (ad 224)), (1, .ref (ad k)), (2, .int (iI r)), (3, .ref (ad (k + 3 + 3 * (r : Int).toNat)))]) ok d_In_hasFlatRing_30 (by decide) rfl ?_
          refine g_iload ok d_In_hasFlatRing_32 0 rfl ?_
          refine g_if_eq ok 46 d_In_hasFlatRing_34 (by decide) (by omega) (fun h2 => ?_) (fun h2 => ?_)
          · have hb3 : ¬ (r = 0 ∨ 0 < F (k + 3 + 3 * r.toNat) 2) := by omega
            refine g_iinc (lv' := [(2, .int (iI (r + 1))), (4, .int (iI b)), (0, .ref (ad 224)), (1, .ref (ad k)), (3, .ref (ad (k + 3 + 3 * (r : Int).toNat)))]) ok d_In_hasFlatRing_46 3 rfl (by decide) rfl ?_
            refine g_goto ok 2 d_In_hasFlatRing_49 (by decide) ?_
            refine g_lv [2, 3, 0] rfl ?_
            exact ih_r (r + 1) (by omega) (fun q q1 q2 q3 => (Int.lt_or_eq_of_le (show q ≤ r by omega)).elim (fun z => ho q q1 z q3) (fun z => by subst z; first | exact absurd q3 (by omega) | exact fun z => absurd (hr.2.mpr z) (by omega))) (by omega)
          · refine g_aload_n ok d_In_hasFlatRing_37 rfl 4 rfl ?_
            refine g_callPVN (As := []) (st := []) ok _ (c_Rg_isFlat F G _ (rg_of hK (by omega)) (hRs _ (by omega)) s0 a0 D t ad) k_833 k_3 k_830 cl_Rg (m_Rg (ad := ad) (t := t) (F := F) (G := G) (rg_of hK (by omega))).1 (m_Rg (rg_of hK (by omega))).2 k_832 s_Rg_isFlat q_Rg_isFlat (by decide) (Nat.le_of_ble_eq_true rfl) (by decide) d_In_hasFlatRing_38 (fun z3 hc3 => ?_)
            refine g_if_eq ok 46 d_In_hasFlatRing_41 (by decide) (by omega) (fun h4 => ?_) (fun h4 => ?_)
            · refine g_iinc (lv' := [(2, .int (iI (r + 1))), (4, .int (iI b)), (0, .ref (ad 224)), (1, .ref (ad k)), (3, .ref (ad (k + 3 + 3 * (r : Int).toNat)))]) ok d_In_hasFlatRing_46 3 rfl (by decide) rfl ?_
              refine g_goto ok 2 d_In_hasFlatRing_49 (by decide) ?_
              refine g_lv [2, 3, 0] rfl ?_
              exact ih_r (r + 1) (by omega) (fun q q1 q2 q3 => (Int.lt_or_eq_of_le (show q ≤ r by omega)).elim (fun z => ho q q1 z q3) (fun z => by subst z; first | exact absurd q3 (by omega) | exact fun z => absurd (hc3.2.mpr z) (by omega))) (by omega)
            · refine g_iconst ok d_In_hasFlatRing_44 ?_
              exact g_zpret ok d_In_hasFlatRing_45 (Or.inr rfl) ⟨Or.inr rfl, ⟨fun _ => ⟨r, by omega, by omega, hc3.2.mp (by omega)⟩, fun _ => rfl⟩⟩
        refine g_iload_n ok d_In_hasFlatRing_14 rfl 3 rfl ?_
        refine g_if_eq ok 25 d_In_hasFlatRing_15 (by decide) (by omega) (fun h5 => ?_) (fun h5 => ?_)
        · refine g_iconst ok d_In_hasFlatRing_25 ?_
          refine g_goto ok 30 d_In_hasFlatRing_26 (by decide) ?_
          refine g_lv [1, 2, 3, 0] rfl ?_
          exact J_30 1 (by omega)
        · refine g_aload_n ok d_In_hasFlatRing_18 rfl 0 rfl ?_
          refine gN_Rg_size ok _ (rg_of hK (by omega)) k_55 d_In_hasFlatRing_19 ?_
          refine g_if_le ok 29 d_In_hasFlatRing_22 (by decide) (by omega) (fun h6 => ?_) (fun h6 => ?_)
          · refine g_iconst ok d_In_hasFlatRing_29 ?_
            refine g_lv [1, 2, 3, 0] rfl ?_
            exact J_30 0 (by omega)
          · refine g_iconst ok d_In_hasFlatRing_25 ?_
            refine g_goto ok 30 d_In_hasFlatRing_26 (by decide) ?_
            refine g_lv [1, 2, 3, 0] rfl ?_
            exact J_30 1 (by omega)
  refine g_lv [1, 2, 0] rfl ?_
  exact L_r ((5 - 0 : Int).toNat + 1) 0 (by omega) (fun q q1 q2 => by omega) (by omega)
theorem d_In_hasHoleOutside_0 : decode b_In_hasHoleOutside 0 = .ok (.iconst 1, 1) := by decide +kernel
theorem d_In_hasHoleOutside_1 : decode b_In_hasHoleOutside 1 = .ok (.istore_n 2, 1) := by decide +kernel
theorem d_In_hasHoleOutside_2 : decode b_In_hasHoleOutside 2 = .ok (.iload_n 2, 1) := by decide +kernel
theorem d_In_hasHoleOutside_3 : decode b_In_hasHoleOutside 3 = .ok (.iconst 4, 1) := by decide +kernel
theorem d_In_hasHoleOutside_4 : decode b_In_hasHoleOutside 4 = .ok (.if_icmp .ge 38, 3) := by decide +kernel
theorem d_In_hasHoleOutside_7 : decode b_In_hasHoleOutside 7 = .ok (.aload_n 1, 1) := by decide +kernel
theorem d_In_hasHoleOutside_8 : decode b_In_hasHoleOutside 8 = .ok (.getfield 76, 3) := by decide +kernel
theorem d_In_hasHoleOutside_11 : decode b_In_hasHoleOutside 11 = .ok (.iload_n 2, 1) := by decide +kernel
theorem d_In_hasHoleOutside_12 : decode b_In_hasHoleOutside 12 = .ok (.aaload, 1) := by decide +kernel
theorem d_In_hasHoleOutside_13 : decode b_In_hasHoleOutside 13 = .ok (.astore_n 3, 1) := by decide +kernel
theorem d_In_hasHoleOutside_14 : decode b_In_hasHoleOutside 14 = .ok (.aload_n 3, 1) := by decide +kernel
theorem d_In_hasHoleOutside_15 : decode b_In_hasHoleOutside 15 = .ok (.getfield 53, 3) := by decide +kernel
theorem d_In_hasHoleOutside_18 : decode b_In_hasHoleOutside 18 = .ok (.ifCond .le 18, 3) := by decide +kernel
theorem d_In_hasHoleOutside_21 : decode b_In_hasHoleOutside 21 = .ok (.aload_n 3, 1) := by decide +kernel
theorem d_In_hasHoleOutside_22 : decode b_In_hasHoleOutside 22 = .ok (.aload_n 1, 1) := by decide +kernel
theorem d_In_hasHoleOutside_23 : decode b_In_hasHoleOutside 23 = .ok (.getfield 76, 3) := by decide +kernel
theorem d_In_hasHoleOutside_26 : decode b_In_hasHoleOutside 26 = .ok (.iconst 0, 1) := by decide +kernel
theorem d_In_hasHoleOutside_27 : decode b_In_hasHoleOutside 27 = .ok (.aaload, 1) := by decide +kernel
theorem d_In_hasHoleOutside_28 : decode b_In_hasHoleOutside 28 = .ok (.invokestatic 123, 3) := by decide +kernel
theorem d_In_hasHoleOutside_31 : decode b_In_hasHoleOutside 31 = .ok (.ifCond .ne 5, 3) := by decide +kernel
theorem d_In_hasHoleOutside_34 : decode b_In_hasHoleOutside 34 = .ok (.iconst 1, 1) := by decide +kernel
theorem d_In_hasHoleOutside_35 : decode b_In_hasHoleOutside 35 = .ok (.ireturn, 1) := by decide +kernel
theorem d_In_hasHoleOutside_36 : decode b_In_hasHoleOutside 36 = .ok (.iinc 2 1, 3) := by decide +kernel
theorem d_In_hasHoleOutside_39 : decode b_In_hasHoleOutside 39 = .ok (.goto (-37), 3) := by decide +kernel
theorem d_In_hasHoleOutside_42 : decode b_In_hasHoleOutside 42 = .ok (.iconst 0, 1) := by decide +kernel
theorem d_In_hasHoleOutside_43 : decode b_In_hasHoleOutside 43 = .ok (.ireturn, 1) := by decide +kernel
set_option maxHeartbeats 4000000 in
set_option maxRecDepth 100000 in
theorem c_In_hasHoleOutside (F : Nat → Nat → Int) (G : Nat → Int → Int) (k : Nat) (hK : isSh k) (hRs : sRg F G k) : cP y_In_hasHoleOutside b_In_hasHoleOutside 4 (some .boolean) 2 52 F G (fun ad => [.ref (ad 224), .ref (ad k)]) (fun z => (z = 0 ∨ z = 1) ∧ (z = 1 ↔ ∃ q : Int, (1 ≤ q ∧ q < 4) ∧ 0 < F (k + 3 + 3 * q.toNat) 2 ∧ ¬ bIn F G (k + 3 + 3 * q.toNat) (k + 3 + 3 * (0 : Int).toNat))) := by
  intro s0 a0 D t ad
  refine g_startP (by decide +kernel) (Nat.le_of_ble_eq_true rfl) (fun p l e R s m args below meth c A ok => ?_)
  show gW p l e R s m args below meth c _ D A 4 (gZ0 s) 0 0 ad 265 (mem ad t F G) 0 [(0, .ref (ad 224)), (1, .ref (ad k))] []
  refine g_iconst ok d_In_hasHoleOutside_0 ?_
  refine g_istore_n (lv' := [(2, .int (iI 1)), (0, .ref (ad 224)), (1, .ref (ad k))]) ok d_In_hasHoleOutside_1 rfl (by decide) rfl ?_
  have L_r : ∀ (n_r : Nat) (r : Int), (1 ≤ r ∧ r ≤ 4) → (∀ q : Int, 1 ≤ q → q < r → 0 < F (k + 3 + 3 * q.toNat) 2 → bIn F G (k + 3 + 3 * q.toNat) (k + 3 + 3 * (0 : Int).toNat)) → (5 - r) < (n_r : Int) → gW p l e R s m args below meth c (MQ below (gQp (fun z => (z = 0 ∨ z = 1) ∧ (z = 1 ↔ ∃ q : Int, (1 ≤ q ∧ q < 4) ∧ 0 < F (k + 3 + 3 * q.toNat) 2 ∧ ¬ bIn F G (k + 3 + 3 * q.toNat) (k + 3 + 3 * (0 : Int).toNat)))) args s 0 0 (fun _ => False)) D A 4 (gZ0 s) 0 0 ad 265 (mem ad t F G) 2 [(0, .ref (ad 224)), (1, .ref (ad k)), (2, .int (iI r))] [] := by
    intro n_r
    induction n_r with
    | zero =>
      intro r hr ho hm_r
      exact absurd hm_r (by omega)
    | succ n_r ih_r =>
      intro r hr ho hm_r
      refine g_iload_n ok d_In_hasHoleOutside_2 rfl 2 rfl ?_
      refine g_iconst ok d_In_hasHoleOutside_3 ?_
      refine g_icmp_ge ok 42 d_In_hasHoleOutside_4 (by decide) (by omega) (by omega) (fun h1 => ?_) (fun h1 => ?_)
      · refine g_iconst ok d_In_hasHoleOutside_42 ?_
        exact g_zpret ok d_In_hasHoleOutside_43 (Or.inl rfl) ⟨Or.inl rfl, ⟨fun q => by omega, fun ⟨q, q1, q2, q3⟩ => absurd (ho q q1.1 (by omega) q2) q3⟩⟩
      · refine g_aload_n ok d_In_hasHoleOutside_7 rfl 1 rfl ?_
        refine gN_Sh_rings ok _ hK k_87 d_In_hasHoleOutside_8 ?_
        refine g_iload_n ok d_In_hasHoleOutside_11 rfl 2 rfl ?_
        refine h_rings ok _ hK (by omega) d_In_hasHoleOutside_12 ?_
        refine g_astore_n (lv' := [(3, .ref (ad (k + 3 + 3 * (r : Int).toNat))), (0, .ref (ad 224)), (1, .ref (ad k)), (2, .int (iI r))]) ok d_In_hasHoleOutside_13 rfl (by decide) rfl ?_
        have hsz := (hRs r.toNat (by omega)).1
        have hr32 := rRoom_le ((k + 3 + 3 * r.toNat - 2) % 22)
        refine g_aload_n ok d_In_hasHoleOutside_14 rfl 0 rfl ?_
        refine gN_Rg_size ok _ (rg_of hK (by omega)) k_55 d_In_hasHoleOutside_15 ?_
        refine g_if_le ok 36 d_In_hasHoleOutside_18 (by decide) (by omega) (fun h2 => ?_) (fun h2 => ?_)
        · refine g_iinc (lv' := [(2, .int (iI (r + 1))), (3, .ref (ad (k + 3 + 3 * (r : Int).toNat))), (0, .ref (ad 224)), (1, .ref (ad k))]) ok d_In_hasHoleOutside_36 3 rfl (by decide) rfl ?_
          refine g_goto ok 2 d_In_hasHoleOutside_39 (by decide) ?_
          refine g_lv [2, 3, 0] rfl ?_
          exact ih_r (r + 1) (by omega) (fun q q1 q2 q3 => (Int.lt_or_eq_of_le (show q ≤ r by omega)).elim (fun z => ho q q1 z q3) (fun z => by subst z; exact absurd q3 (by omega))) (by omega)
        · refine g_aload_n ok d_In_hasHoleOutside_21 rfl 0 rfl ?_
          refine g_aload_n ok d_In_hasHoleOutside_22 rfl 2 rfl ?_
          refine gN_Sh_rings ok _ hK k_87 d_In_hasHoleOutside_23 ?_
          refine g_iconst ok d_In_hasHoleOutside_26 ?_
          refine h_rings ok _ hK (by omega) d_In_hasHoleOutside_27 ?_
          refine g_callPS (As := [.ref (ad (k + 3 + 3 * (r : Int).toNat)), .ref (ad (k + 3 + 3 * (0 : Int).toNat))]) (st := []) ok (c_In_beginsInside F G _ _ (rg_of hK (by omega)) (rg_of hK (by omega)) (hRs _ (by omega)) (hRs _ (by omega)) (by omega) s0 a0 D t ad) k_870 k_5 k_868 k_869 q_In_beginsInside (by decide) (Nat.le_of_ble_eq_true rfl) (by decide) d_In_hasHoleOutside_28 (fun z3 hc3 => ?_)
          refine g_if_ne ok 36 d_In_hasHoleOutside_31 (by decide) (by omega) (fun h4 => ?_) (fun h4 => ?_)
          · refine g_iinc (lv' := [(2, .int (iI (r + 1))), (3, .ref (ad (k + 3 + 3 * (r : Int).toNat))), (0, .ref (ad 224)), (1, .ref (ad k))]) ok d_In_hasHoleOutside_36 3 rfl (by decide) rfl ?_
            refine g_goto ok 2 d_In_hasHoleOutside_39 (by decide) ?_
            refine g_lv [2, 3, 0] rfl ?_
            exact ih_r (r + 1) (by omega) (fun q q1 q2 q3 => (Int.lt_or_eq_of_le (show q ≤ r by omega)).elim (fun z => ho q q1 z q3) (fun z => by subst z; first | exact absurd q3 (by omega) | exact hc3.2.mp (by omega))) (by omega)
          · refine g_iconst ok d_In_hasHoleOutside_34 ?_
            exact g_zpret ok d_In_hasHoleOutside_35 (Or.inr rfl) ⟨Or.inr rfl, ⟨fun _ => ⟨r, by omega, by omega, fun z => absurd (hc3.2.mpr z) (by omega)⟩, fun _ => rfl⟩⟩
  refine g_lv [1, 2, 0] rfl ?_
  exact L_r ((5 - 1 : Int).toNat + 1) 1 (by omega) (fun q q1 q2 => by omega) (by omega)
theorem d_In_hasHoleWithin_0 : decode b_In_hasHoleWithin 0 = .ok (.iconst 1, 1) := by decide +kernel
theorem d_In_hasHoleWithin_1 : decode b_In_hasHoleWithin 1 = .ok (.istore_n 2, 1) := by decide +kernel
theorem d_In_hasHoleWithin_2 : decode b_In_hasHoleWithin 2 = .ok (.iload_n 2, 1) := by decide +kernel
theorem d_In_hasHoleWithin_3 : decode b_In_hasHoleWithin 3 = .ok (.iconst 4, 1) := by decide +kernel
theorem d_In_hasHoleWithin_4 : decode b_In_hasHoleWithin 4 = .ok (.if_icmp .ge 60, 3) := by decide +kernel
theorem d_In_hasHoleWithin_7 : decode b_In_hasHoleWithin 7 = .ok (.aload_n 1, 1) := by decide +kernel
theorem d_In_hasHoleWithin_8 : decode b_In_hasHoleWithin 8 = .ok (.getfield 76, 3) := by decide +kernel
theorem d_In_hasHoleWithin_11 : decode b_In_hasHoleWithin 11 = .ok (.iload_n 2, 1) := by decide +kernel
theorem d_In_hasHoleWithin_12 : decode b_In_hasHoleWithin 12 = .ok (.aaload, 1) := by decide +kernel
theorem d_In_hasHoleWithin_13 : decode b_In_hasHoleWithin 13 = .ok (.astore_n 3, 1) := by decide +kernel
theorem d_In_hasHoleWithin_14 : decode b_In_hasHoleWithin 14 = .ok (.iconst 1, 1) := by decide +kernel
theorem d_In_hasHoleWithin_15 : decode b_In_hasHoleWithin 15 = .ok (.istore 4, 2) := by decide +kernel
theorem d_In_hasHoleWithin_17 : decode b_In_hasHoleWithin 17 = .ok (.iload 4, 2) := by decide +kernel
theorem d_In_hasHoleWithin_19 : decode b_In_hasHoleWithin 19 = .ok (.iconst 4, 1) := by decide +kernel
theorem d_In_hasHoleWithin_20 : decode b_In_hasHoleWithin 20 = .ok (.if_icmp .ge 38, 3) := by decide +kernel
theorem d_In_hasHoleWithin_23 : decode b_In_hasHoleWithin 23 = .ok (.iload_n 2, 1) := by decide +kernel
theorem d_In_hasHoleWithin_24 : decode b_In_hasHoleWithin 24 = .ok (.iload 4, 2) := by decide +kernel
theorem d_In_hasHoleWithin_26 : decode b_In_hasHoleWithin 26 = .ok (.if_icmp .eq 26, 3) := by decide +kernel
theorem d_In_hasHoleWithin_29 : decode b_In_hasHoleWithin 29 = .ok (.aload_n 3, 1) := by decide +kernel
theorem d_In_hasHoleWithin_30 : decode b_In_hasHoleWithin 30 = .ok (.getfield 53, 3) := by decide +kernel
theorem d_In_hasHoleWithin_33 : decode b_In_hasHoleWithin 33 = .ok (.ifCond .le 19, 3) := by decide +kernel
theorem d_In_hasHoleWithin_36 : decode b_In_hasHoleWithin 36 = .ok (.aload_n 3, 1) := by decide +kernel
theorem d_In_hasHoleWithin_37 : decode b_In_hasHoleWithin 37 = .ok (.aload_n 1, 1) := by decide +kernel
theorem d_In_hasHoleWithin_38 : decode b_In_hasHoleWithin 38 = .ok (.getfield 76, 3) := by decide +kernel
theorem d_In_hasHoleWithin_41 : decode b_In_hasHoleWithin 41 = .ok (.iload 4, 2) := by decide +kernel
theorem d_In_hasHoleWithin_43 : decode b_In_hasHoleWithin 43 = .ok (.aaload, 1) := by decide +kernel
theorem d_In_hasHoleWithin_44 : decode b_In_hasHoleWithin 44 = .ok (.invokestatic 123, 3) := by decide +kernel
theorem d_In_hasHoleWithin_47 : decode b_In_hasHoleWithin 47 = .ok (.ifCond .eq 5, 3) := by decide +kernel
theorem d_In_hasHoleWithin_50 : decode b_In_hasHoleWithin 50 = .ok (.iconst 1, 1) := by decide +kernel
theorem d_In_hasHoleWithin_51 : decode b_In_hasHoleWithin 51 = .ok (.ireturn, 1) := by decide +kernel
theorem d_In_hasHoleWithin_52 : decode b_In_hasHoleWithin 52 = .ok (.iinc 4 1, 3) := by decide +kernel
theorem d_In_hasHoleWithin_55 : decode b_In_hasHoleWithin 55 = .ok (.goto (-38), 3) := by decide +kernel
theorem d_In_hasHoleWithin_58 : decode b_In_hasHoleWithin 58 = .ok (.iinc 2 1, 3) := by decide +kernel
theorem d_In_hasHoleWithin_61 : decode b_In_hasHoleWithin 61 = .ok (.goto (-59), 3) := by decide +kernel
theorem d_In_hasHoleWithin_64 : decode b_In_hasHoleWithin 64 = .ok (.iconst 0, 1) := by decide +kernel
theorem d_In_hasHoleWithin_65 : decode b_In_hasHoleWithin 65 = .ok (.ireturn, 1) := by decide +kernel
set_option maxHeartbeats 4000000 in
set_option maxRecDepth 100000 in
theorem c_In_hasHoleWithin (F : Nat → Nat → Int) (G : Nat → Int → Int) (k : Nat) (hK : isSh k) (hRs : sRg F G k) : cP y_In_hasHoleWithin b_In_hasHoleWithin 5 (some .boolean) 2 52 F G (fun ad => [.ref (ad 224), .ref (ad k)]) (fun z => (z = 0 ∨ z = 1) ∧ (z = 1 ↔ ∃ q v : Int, (1 ≤ q ∧ q < 4) ∧ (1 ≤ v ∧ v < 4) ∧ ¬ q = v ∧ 0 < F (k + 3 + 3 * q.toNat) 2 ∧ bIn F G (k + 3 + 3 * q.toNat) (k + 3 + 3 * v.toNat))) := by
  intro s0 a0 D t ad
  refine g_startP (by decide +kernel) (Nat.le_of_ble_eq_true rfl) (fun p l e R s m args below meth c A ok => ?_)
  show gW p l e R s m args below meth c _ D A 5 (gZ0 s) 0 0 ad 265 (mem ad t F G) 0 [(0, .ref (ad 224)), (1, .ref (ad k))] []
  refine g_iconst ok d_In_hasHoleWithin_0 ?_
  refine g_istore_n (lv' := [(2, .int (iI 1)), (0, .ref (ad 224)), (1, .ref (ad k))]) ok d_In_hasHoleWithin_1 rfl (by decide) rfl ?_
  have L_r : ∀ (n_r : Nat) (r : Int), (1 ≤ r ∧ r ≤ 4) → (∀ q v : Int, 1 ≤ q → q < r → 1 ≤ v → v < 4 → ¬ q = v → 0 < F (k + 3 + 3 * q.toNat) 2 → ¬ bIn F G (k + 3 + 3 * q.toNat) (k + 3 + 3 * v.toNat)) → (5 - r) < (n_r : Int) → gW p l e R s m args below meth c (MQ below (gQp (fun z => (z = 0 ∨ z = 1) ∧ (z = 1 ↔ ∃ q v : Int, (1 ≤ q ∧ q < 4) ∧ (1 ≤ v ∧ v < 4) ∧ ¬ q = v ∧ 0 < F (k + 3 + 3 * q.toNat) 2 ∧ bIn F G (k + 3 + 3 * q.toNat) (k + 3 + 3 * v.toNat)))) args s 0 0 (fun _ => False)) D A 5 (gZ0 s) 0 0 ad 265 (mem ad t F G) 2 [(0, .ref (ad 224)), (1, .ref (ad k)), (2, .int (iI r))] [] := by
    intro n_r
    induction n_r with
    | zero =>
      intro r hr ho hm_r
      exact absurd hm_r (by omega)
    | succ n_r ih_r =>
      intro r hr ho hm_r
      refine g_iload_n ok d_In_hasHoleWithin_2 rfl 2 rfl ?_
      refine g_iconst ok d_In_hasHoleWithin_3 ?_
      refine g_icmp_ge ok 64 d_In_hasHoleWithin_4 (by decide) (by omega) (by omega) (fun h1 => ?_) (fun h1 => ?_)
      · refine g_iconst ok d_In_hasHoleWithin_64 ?_
        exact g_zpret ok d_In_hasHoleWithin_65 (Or.inl rfl) ⟨Or.inl rfl, ⟨fun q => by omega, fun ⟨q, v, q1, q2, q3, q4, q5⟩ => (ho q v q1.1 (by omega) q2.1 q2.2 q3 q4 q5).elim⟩⟩
      · refine g_aload_n ok d_In_hasHoleWithin_7 rfl 1 rfl ?_
        refine gN_Sh_rings ok _ hK k_87 d_In_hasHoleWithin_8 ?_
        refine g_iload_n ok d_In_hasHoleWithin_11 rfl 2 rfl ?_
        refine h_rings ok _ hK (by omega) d_In_hasHoleWithin_12 ?_
        refine g_astore_n (lv' := [(3, .ref (ad (k + 3 + 3 * (r : Int).toNat))), (0, .ref (ad 224)), (1, .ref (ad k)), (2, .int (iI r))]) ok d_In_hasHoleWithin_13 rfl (by decide) rfl ?_
        have hsz := (hRs r.toNat (by omega)).1
        have hr32 := rRoom_le ((k + 3 + 3 * r.toNat - 2) % 22)
        refine g_iconst ok d_In_hasHoleWithin_14 ?_
        refine g_istore (lv' := [(4, .int (iI 1)), (3, .ref (ad (k + 3 + 3 * (r : Int).toNat))), (0, .ref (ad 224)), (1, .ref (ad k)), (2, .int (iI r))]) ok d_In_hasHoleWithin_15 (by decide) rfl ?_
        have L_s : ∀ (n_s : Nat) (s1 : Int), (1 ≤ s1 ∧ s1 ≤ 4) → (∀ v : Int, 1 ≤ v → v < s1 → ¬ r = v → 0 < F (k + 3 + 3 * r.toNat) 2 → ¬ bIn F G (k + 3 + 3 * r.toNat) (k + 3 + 3 * v.toNat)) → (5 - s1) < (n_s : Int) → gW p l e R s m args below meth c (MQ below (gQp (fun z => (z = 0 ∨ z = 1) ∧ (z = 1 ↔ ∃ q v : Int, (1 ≤ q ∧ q < 4) ∧ (1 ≤ v ∧ v < 4) ∧ ¬ q = v ∧ 0 < F (k + 3 + 3 * q.toNat) 2 ∧ bIn F G (k + 3 + 3 * q.toNat) (k + 3 + 3 * v.toNat)))) args s 0 0 (fun _ => False)) D A 5 (gZ0 s) 0 0 ad 265 (mem ad t F G) 17 [(0, .ref (ad 224)), (1, .ref (ad k)), (2, .int (iI r)), (3, .ref (ad (k + 3 + 3 * (r : Int).toNat))), (4, .int (iI s1))] [] := by
          intro n_s
          induction n_s with
          | zero =>
            intro s1 hs1 hp hm_s
            exact absurd hm_s (by omega)
          | succ n_s ih_s =>
            intro s1 hs1 hp hm_s
            refine g_iload ok d_In_hasHoleWithin_17 4 rfl ?_
            refine g_iconst ok d_In_hasHoleWithin_19 ?_
            refine g_icmp_ge ok 58 d_In_hasHoleWithin_20 (by decide) (by omega) (by omega) (fun h2 => ?_) (fun h2 => ?_)
            · refine g_iinc (lv' := [(2, .int (iI (r + 1))), (0, .ref (ad 224)), (1, .ref (ad k)), (3, .ref (ad (k + 3 + 3 * (r : Int).toNat))), (4, .int (iI s1))]) ok d_In_hasHoleWithin_58 2 rfl (by decide) rfl ?_
              refine g_goto ok 2 d_In_hasHoleWithin_61 (by decide) ?_
              refine g_lv [1, 2, 0] rfl ?_
              exact ih_r (r + 1) (by omega) (fun q v q1 q2 => (Int.lt_or_eq_of_le (show q ≤ r by omega)).elim (fun z => ho q v q1 z) (fun z => by subst z; exact fun q3 q4 q5 q6 => hp v q3 (by omega) q5 q6)) (by omega)
            · refine g_iload_n ok d_In_hasHoleWithin_23 rfl 2 rfl ?_
              refine g_iload ok d_In_hasHoleWithin_24 4 rfl ?_
              refine g_icmp_eq ok 52 d_In_hasHoleWithin_26 (by decide) (by omega) (by omega) (fun h3 => ?_) (fun h3 => ?_)
              · refine g_iinc (lv' := [(4, .int (iI (s1 + 1))), (0, .ref (ad 224)), (1, .ref (ad k)), (2, .int (iI r)), (3, .ref (ad (k + 3 + 3 * (r : Int).toNat)))]) ok d_In_hasHoleWithin_52 4 rfl (by decide) rfl ?_
                refine g_goto ok 17 d_In_hasHoleWithin_55 (by decide) ?_
                refine g_lv [1, 2, 3, 4, 0] rfl ?_
                exact ih_s (s1 + 1) (by omega) (fun v q1 q2 q3 q4 => (Int.lt_or_eq_of_le (show v ≤ s1 by omega)).elim (fun z => hp v q1 z q3 q4) (fun z => by subst z; first | exact absurd rfl (by omega) | exact absurd q4 (by omega) | exact absurd q3 (by omega))) (by omega)
              · refine g_aload_n ok d_In_hasHoleWithin_29 rfl 3 rfl ?_
                refine gN_Rg_size ok _ (rg_of hK (by omega)) k_55 d_In_hasHoleWithin_30 ?_
                refine g_if_le ok 52 d_In_hasHoleWithin_33 (by decide) (by omega) (fun h4 => ?_) (fun h4 => ?_)
                · refine g_iinc (lv' := [(4, .int (iI (s1 + 1))), (0, .ref (ad 224)), (1, .ref (ad k)), (2, .int (iI r)), (3, .ref (ad (k + 3 + 3 * (r : Int).toNat)))]) ok d_In_hasHoleWithin_52 4 rfl (by decide) rfl ?_
                  refine g_goto ok 17 d_In_hasHoleWithin_55 (by decide) ?_
                  refine g_lv [1, 2, 3, 4, 0] rfl ?_
                  exact ih_s (s1 + 1) (by omega) (fun v q1 q2 q3 q4 => (Int.lt_or_eq_of_le (show v ≤ s1 by omega)).elim (fun z => hp v q1 z q3 q4) (fun z => by subst z; first | exact absurd rfl (by omega) | exact absurd q4 (by omega) | exact absurd q3 (by omega))) (by omega)
                · refine g_aload_n ok d_In_hasHoleWithin_36 rfl 3 rfl ?_
                  refine g_aload_n ok d_In_hasHoleWithin_37 rfl 1 rfl ?_
                  refine gN_Sh_rings ok _ hK k_87 d_In_hasHoleWithin_38 ?_
                  refine g_iload ok d_In_hasHoleWithin_41 4 rfl ?_
                  refine h_rings ok _ hK (by omega) d_In_hasHoleWithin_43 ?_
                  refine g_callPS (As := [.ref (ad (k + 3 + 3 * (r : Int).toNat)), .ref (ad (k + 3 + 3 * (s1 : Int).toNat))]) (st := []) ok (c_In_beginsInside F G _ _ (rg_of hK (by omega)) (rg_of hK (by omega)) (hRs _ (by omega)) (hRs _ (by omega)) (by omega) s0 a0 D t ad) k_870 k_5 k_868 k_869 q_In_beginsInside (by decide) (Nat.le_of_ble_eq_true rfl) (by decide) d_In_hasHoleWithin_44 (fun z5 hc5 => ?_)
                  refine g_if_eq ok 52 d_In_hasHoleWithin_47 (by decide) (by omega) (fun h6 => ?_) (fun h6 => ?_)
                  · refine g_iinc (lv' := [(4, .int (iI (s1 + 1))), (0, .ref (ad 224)), (1, .ref (ad k)), (2, .int (iI r)), (3, .ref (ad (k + 3 + 3 * (r : Int).toNat)))]) ok d_In_hasHoleWithin_52 4 rfl (by decide) rfl ?_
                    refine g_goto ok 17 d_In_hasHoleWithin_55 (by decide) ?_
                    refine g_lv [1, 2, 3, 4, 0] rfl ?_
                    exact ih_s (s1 + 1) (by omega) (fun v q1 q2 q3 q4 => (Int.lt_or_eq_of_le (show v ≤ s1 by omega)).elim (fun z => hp v q1 z q3 q4) (fun z => by subst z; first | exact absurd q4 (by omega) | exact absurd q3 (by omega) | exact fun z => absurd (hc5.2.mpr z) (by omega))) (by omega)
                  · refine g_iconst ok d_In_hasHoleWithin_50 ?_
                    exact g_zpret ok d_In_hasHoleWithin_51 (Or.inr rfl) ⟨Or.inr rfl, ⟨fun _ => ⟨r, s1, by omega, by omega, by omega, by omega, hc5.2.mp (by omega)⟩, fun _ => rfl⟩⟩
        refine g_lv [2, 3, 4, 1, 0] rfl ?_
        exact L_s ((5 - 1 : Int).toNat + 1) 1 (by omega) (fun v q1 q2 => by omega) (by omega)
  refine g_lv [1, 2, 0] rfl ?_
  exact L_r ((5 - 1 : Int).toNat + 1) 1 (by omega) (fun q v q1 q2 => by omega) (by omega)
theorem d_In_findCrossing_0 : decode b_In_findCrossing 0 = .ok (.iconst 0, 1) := by decide +kernel
theorem d_In_findCrossing_1 : decode b_In_findCrossing 1 = .ok (.istore_n 1, 1) := by decide +kernel
theorem d_In_findCrossing_2 : decode b_In_findCrossing 2 = .ok (.iload_n 1, 1) := by decide +kernel
theorem d_In_findCrossing_3 : decode b_In_findCrossing 3 = .ok (.aload_n 0, 1) := by decide +kernel
theorem d_In_findCrossing_4 : decode b_In_findCrossing 4 = .ok (.getfield 82, 3) := by decide +kernel
theorem d_In_findCrossing_7 : decode b_In_findCrossing 7 = .ok (.if_icmp .ge 48, 3) := by decide +kernel
theorem d_In_findCrossing_10 : decode b_In_findCrossing 10 = .ok (.iload_n 1, 1) := by decide +kernel
theorem d_In_findCrossing_11 : decode b_In_findCrossing 11 = .ok (.iconst 1, 1) := by decide +kernel
theorem d_In_findCrossing_12 : decode b_In_findCrossing 12 = .ok (.iadd, 1) := by decide +kernel
theorem d_In_findCrossing_13 : decode b_In_findCrossing 13 = .ok (.istore_n 2, 1) := by decide +kernel
theorem d_In_findCrossing_14 : decode b_In_findCrossing 14 = .ok (.iload_n 2, 1) := by decide +kernel
theorem d_In_findCrossing_15 : decode b_In_findCrossing 15 = .ok (.aload_n 0, 1) := by decide +kernel
theorem d_In_findCrossing_16 : decode b_In_findCrossing 16 = .ok (.getfield 82, 3) := by decide +kernel
theorem d_In_findCrossing_19 : decode b_In_findCrossing 19 = .ok (.if_icmp .ge 30, 3) := by decide +kernel
theorem d_In_findCrossing_22 : decode b_In_findCrossing 22 = .ok (.aload_n 0, 1) := by decide +kernel
theorem d_In_findCrossing_23 : decode b_In_findCrossing 23 = .ok (.iload_n 1, 1) := by decide +kernel
theorem d_In_findCrossing_24 : decode b_In_findCrossing 24 = .ok (.iload_n 2, 1) := by decide +kernel
theorem d_In_findCrossing_25 : decode b_In_findCrossing 25 = .ok (.invokevirtual 95, 3) := by decide +kernel
theorem d_In_findCrossing_28 : decode b_In_findCrossing 28 = .ok (.ifCond .eq 15, 3) := by decide +kernel
theorem d_In_findCrossing_31 : decode b_In_findCrossing 31 = .ok (.aload_n 0, 1) := by decide +kernel
theorem d_In_findCrossing_32 : decode b_In_findCrossing 32 = .ok (.iload_n 1, 1) := by decide +kernel
theorem d_In_findCrossing_33 : decode b_In_findCrossing 33 = .ok (.putfield 27, 3) := by decide +kernel
theorem d_In_findCrossing_36 : decode b_In_findCrossing 36 = .ok (.aload_n 0, 1) := by decide +kernel
theorem d_In_findCrossing_37 : decode b_In_findCrossing 37 = .ok (.iload_n 2, 1) := by decide +kernel
theorem d_In_findCrossing_38 : decode b_In_findCrossing 38 = .ok (.putfield 31, 3) := by decide +kernel
theorem d_In_findCrossing_41 : decode b_In_findCrossing 41 = .ok (.iconst 1, 1) := by decide +kernel
theorem d_In_findCrossing_42 : decode b_In_findCrossing 42 = .ok (.ireturn, 1) := by decide +kernel
theorem d_In_findCrossing_43 : decode b_In_findCrossing 43 = .ok (.iinc 2 1, 3) := by decide +kernel
theorem d_In_findCrossing_46 : decode b_In_findCrossing 46 = .ok (.goto (-32), 3) := by decide +kernel
theorem d_In_findCrossing_49 : decode b_In_findCrossing 49 = .ok (.iinc 1 1, 3) := by decide +kernel
theorem d_In_findCrossing_52 : decode b_In_findCrossing 52 = .ok (.goto (-50), 3) := by decide +kernel
theorem d_In_findCrossing_55 : decode b_In_findCrossing 55 = .ok (.iconst 0, 1) := by decide +kernel
theorem d_In_findCrossing_56 : decode b_In_findCrossing 56 = .ok (.ireturn, 1) := by decide +kernel
set_option maxHeartbeats 4000000 in
set_option maxRecDepth 100000 in
theorem c_In_findCrossing (F : Nat → Nat → Int) (G : Nat → Int → Int) (hn : 0 ≤ F 224 5 ∧ F 224 5 ≤ 96) (hE : iE G (F 224 5)) : cI y_In_findCrossing b_In_findCrossing 3 (some .boolean) 4 89 F G (fun ad => [.ref (ad 224)]) (fun z F' G' => G' = G ∧ ((z = 1 ∧ ∃ i j : Int, (0 ≤ i ∧ i < j ∧ j < F 224 5) ∧ iCross G i j ∧ F' = fU (fU F 224 7 i) 224 8 j ∧ ∀ a b : Int, 0 ≤ a → a < b → b < F 224 5 → (a < i ∨ (a = i ∧ b < j)) → ¬ iCross G a b) ∨ (z = 0 ∧ F' = F ∧ ∀ a b : Int, 0 ≤ a → a < b → b < F 224 5 → ¬ iCross G a b))) := by
  intro s0 a0 D t ad
  refine g_startI (by decide +kernel) (Nat.le_of_ble_eq_true rfl) (fun p l e R s m args below meth c A ok => ?_)
  show gW p l e R s m args below meth c _ D A 3 (gZ0 s) 0 0 ad 265 (mem ad t F G) 0 [(0, .ref (ad 224))] []
  refine g_iconst ok d_In_findCrossing_0 ?_
  refine g_istore_n (lv' := [(1, .int (iI 0)), (0, .ref (ad 224))]) ok d_In_findCrossing_1 rfl (by decide) rfl ?_
  have L_i : ∀ (n_i : Nat) (i : Int), (0 ≤ i ∧ i ≤ F 224 5) → (∀ a b : Int, 0 ≤ a → a < i → a < b → b < F 224 5 → ¬ iCross G a b) → (F 224 5 + 1 - i) < (n_i : Int) → gW p l e R s m args below meth c (MQ below (gQi D A ad 265 (fun z ce' => ∃ F' G', ce' = mem ad t F' G' ∧ (fun z F' G' => G' = G ∧ ((z = 1 ∧ ∃ i j : Int, (0 ≤ i ∧ i < j ∧ j < F 224 5) ∧ iCross G i j ∧ F' = fU (fU F 224 7 i) 224 8 j ∧ ∀ a b : Int, 0 ≤ a → a < b → b < F 224 5 → (a < i ∨ (a = i ∧ b < j)) → ¬ iCross G a b) ∨ (z = 0 ∧ F' = F ∧ ∀ a b : Int, 0 ≤ a → a < b → b < F 224 5 → ¬ iCross G a b))) z F' G')) args s 0 0 A) D A 3 (gZ0 s) 0 0 ad 265 (mem ad t F G) 2 [(0, .ref (ad 224)), (1, .int (iI i))] [] := by
    intro n_i
    induction n_i with
    | zero =>
      intro i hi ho hm_i
      exact absurd hm_i (by omega)
    | succ n_i ih_i =>
      intro i hi ho hm_i
      refine g_iload_n ok d_In_findCrossing_2 rfl 1 rfl ?_
      refine g_aload_n ok d_In_findCrossing_3 rfl 0 rfl ?_
      refine gI_In_edgeTotal ok _ rfl k_159 d_In_findCrossing_4 ?_
      refine g_icmp_ge ok 55 d_In_findCrossing_7 (by decide) (by omega) (by omega) (fun h1 => ?_) (fun h1 => ?_)
      · refine g_iconst ok d_In_findCrossing_55 ?_
        exact g_zret ok d_In_findCrossing_56 (Or.inl rfl) ⟨_, _, rfl, rfl, Or.inr ⟨rfl, rfl, fun a b q1 q2 q3 => ho a b q1 (by omega) q2 q3⟩⟩
      · refine g_iload_n ok d_In_findCrossing_10 rfl 1 rfl ?_
        refine g_iconst ok d_In_findCrossing_11 ?_
        refine g_iadd ok d_In_findCrossing_12 ?_
        refine g_istore_n (lv' := [(2, .int (iI (i + 1))), (0, .ref (ad 224)), (1, .int (iI i))]) ok d_In_findCrossing_13 rfl (by decide) rfl ?_
        have L_j : ∀ (n_j : Nat) (j : Int), (i < j ∧ j ≤ F 224 5) → (∀ b : Int, i < b → b < j → ¬ iCross G i b) → (F 224 5 + 1 - j) < (n_j : Int) → gW p l e R s m args below meth c (MQ below (gQi D A ad 265 (fun z ce' => ∃ F' G', ce' = mem ad t F' G' ∧ (fun z F' G' => G' = G ∧ ((z = 1 ∧ ∃ i j : Int, (0 ≤ i ∧ i < j ∧ j < F 224 5) ∧ iCross G i j ∧ F' = fU (fU F 224 7 i) 224 8 j ∧ ∀ a b : Int, 0 ≤ a → a < b → b < F 224 5 → (a < i ∨ (a = i ∧ b < j)) → ¬ iCross G a b) ∨ (z = 0 ∧ F' = F ∧ ∀ a b : Int, 0 ≤ a → a < b → b < F 224 5 → ¬ iCross G a b))) z F' G')) args s 0 0 A) D A 3 (gZ0 s) 0 0 ad 265 (mem ad t F G) 14 [(0, .ref (ad 224)), (1, .int (iI i)), (2, .int (iI j))] [] := by
          intro n_j
          induction n_j with
          | zero =>
            intro j hj hp hm_j
            exact absurd hm_j (by omega)
          | succ n_j ih_j =>
            intro j hj hp hm_j
            refine g_iload_n ok d_In_findCrossing_14 rfl 2 rfl ?_
            refine g_aload_n ok d_In_findCrossing_15 rfl 0 rfl ?_
            refine gI_In_edgeTotal ok _ rfl k_159 d_In_findCrossing_16 ?_
            refine g_icmp_ge ok 49 d_In_findCrossing_19 (by decide) (by omega) (by omega) (fun h2 => ?_) (fun h2 => ?_)
            · refine g_iinc (lv' := [(1, .int (iI (i + 1))), (0, .ref (ad 224)), (2, .int (iI j))]) ok d_In_findCrossing_49 1 rfl (by decide) rfl ?_
              refine g_goto ok 2 d_In_findCrossing_52 (by decide) ?_
              refine g_lv [1, 0] rfl ?_
              exact ih_i (i + 1) (by omega) (fun a b q1 q2 q3 q4 => (Int.lt_or_eq_of_le (show a ≤ i by omega)).elim (fun z => ho a b q1 z q3 q4) (fun z => by subst z; exact hp b q3 (by omega))) (by omega)
            · refine g_aload_n ok d_In_findCrossing_22 rfl 0 rfl ?_
              refine g_iload_n ok d_In_findCrossing_23 rfl 1 rfl ?_
              refine g_iload_n ok d_In_findCrossing_24 rfl 2 rfl ?_
              refine g_callPV (As := [.int (iI i), .int (iI j)]) (st := []) ok _ (c_In_areCrossed F G _ hn hE _ _ (by omega) (by omega) s0 a0 D t ad) k_846 k_5 k_843 cl_In (m_In (ad := ad) (t := t) (F := F) (G := G) rfl).1 (m_In rfl).2 k_845 s_In_areCrossed q_In_areCrossed (by decide) (Nat.le_of_ble_eq_true rfl) (by decide) d_In_findCrossing_25 (fun z3 hc3 => ?_)
              refine g_if_eq ok 43 d_In_findCrossing_28 (by decide) (by omega) (fun h4 => ?_) (fun h4 => ?_)
              · refine g_iinc (lv' := [(2, .int (iI (j + 1))), (0, .ref (ad 224)), (1, .int (iI i))]) ok d_In_findCrossing_43 2 rfl (by decide) rfl ?_
                refine g_goto ok 14 d_In_findCrossing_46 (by decide) ?_
                refine g_lv [1, 2, 0] rfl ?_
                exact ih_j (j + 1) (by omega) (fun b q1 q2 => (Int.lt_or_eq_of_le (show b ≤ j by omega)).elim (fun z => hp b q1 z) (fun z => by subst z; exact fun z => absurd (hc3.2.mpr z) (by omega))) (by omega)
              · refine g_aload_n ok d_In_findCrossing_31 rfl 0 rfl ?_
                refine g_iload_n ok d_In_findCrossing_32 rfl 1 rfl ?_
                refine pI_In_lesser ok _ rfl k_162 d_In_findCrossing_33 ?_
                refine g_aload_n ok d_In_findCrossing_36 rfl 0 rfl ?_
                refine g_iload_n ok d_In_findCrossing_37 rfl 2 rfl ?_
                refine pI_In_other ok _ rfl k_164 d_In_findCrossing_38 ?_
                refine g_iconst ok d_In_findCrossing_41 ?_
                exact g_zret ok d_In_findCrossing_42 (Or.inr rfl) ⟨_, _, rfl, rfl, Or.inl ⟨rfl, i, j, by omega, hc3.2.mp (by omega), rfl, fun a b q1 q2 q3 q4 => q4.elim (fun z => ho a b q1 z q2 q3) (fun z => by have := z.1; subst this; exact hp b q2 z.2)⟩⟩
        refine g_lv [1, 2, 0] rfl ?_
        exact L_j ((F 224 5 + 1 - (i + 1) : Int).toNat + 1) (i + 1) (by omega) (fun b q1 q2 => by omega) (by omega)
  refine g_lv [1, 0] rfl ?_
  exact L_i ((F 224 5 + 1 - 0 : Int).toNat + 1) 0 (by omega) (fun a b q1 q2 => by omega) (by omega)
