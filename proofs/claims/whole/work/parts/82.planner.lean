/-! the planner -/
def prC (G : Nat → Int → Int) (k j : Nat) : Prop := bt (G 241 (k : Int)) j
def clC (G : Nat → Int → Int) (k : Nat) : Int := G 242 (k : Int)
def ahOk (G : Nat → Int → Int) (n : Int) : Prop := ∀ k : Int, 0 ≤ k → k < n → (0 ≤ G 241 k ∧ G 241 k < 1024) ∧ (∀ j, bt (G 241 k) j → (j : Int) < k) ∧ (0 ≤ G 242 k ∧ G 242 k < 8)
theorem mod2 (x : Int) : x % 2 = 0 ∨ x % 2 = 1 := by omega
theorem d_Pl_mayFollow_0 : decode b_Pl_mayFollow 0 = .ok (.iload_n 1, 1) := by decide +kernel
theorem d_Pl_mayFollow_1 : decode b_Pl_mayFollow 1 = .ok (.iload_n 2, 1) := by decide +kernel
theorem d_Pl_mayFollow_2 : decode b_Pl_mayFollow 2 = .ok (.ishr, 1) := by decide +kernel
theorem d_Pl_mayFollow_3 : decode b_Pl_mayFollow 3 = .ok (.iconst 1, 1) := by decide +kernel
theorem d_Pl_mayFollow_4 : decode b_Pl_mayFollow 4 = .ok (.iand, 1) := by decide +kernel
theorem d_Pl_mayFollow_5 : decode b_Pl_mayFollow 5 = .ok (.ifCond .ne 20, 3) := by decide +kernel
theorem d_Pl_mayFollow_8 : decode b_Pl_mayFollow 8 = .ok (.aload_n 0, 1) := by decide +kernel
theorem d_Pl_mayFollow_9 : decode b_Pl_mayFollow 9 = .ok (.getfield 18, 3) := by decide +kernel
theorem d_Pl_mayFollow_12 : decode b_Pl_mayFollow 12 = .ok (.iload_n 2, 1) := by decide +kernel
theorem d_Pl_mayFollow_13 : decode b_Pl_mayFollow 13 = .ok (.iaload, 1) := by decide +kernel
theorem d_Pl_mayFollow_14 : decode b_Pl_mayFollow 14 = .ok (.iload_n 1, 1) := by decide +kernel
theorem d_Pl_mayFollow_15 : decode b_Pl_mayFollow 15 = .ok (.iconst (-1), 1) := by decide +kernel
theorem d_Pl_mayFollow_16 : decode b_Pl_mayFollow 16 = .ok (.ixor, 1) := by decide +kernel
theorem d_Pl_mayFollow_17 : decode b_Pl_mayFollow 17 = .ok (.iand, 1) := by decide +kernel
theorem d_Pl_mayFollow_18 : decode b_Pl_mayFollow 18 = .ok (.ifCond .ne 7, 3) := by decide +kernel
theorem d_Pl_mayFollow_21 : decode b_Pl_mayFollow 21 = .ok (.iconst 1, 1) := by decide +kernel
theorem d_Pl_mayFollow_22 : decode b_Pl_mayFollow 22 = .ok (.goto 4, 3) := by decide +kernel
theorem d_Pl_mayFollow_25 : decode b_Pl_mayFollow 25 = .ok (.iconst 0, 1) := by decide +kernel
theorem d_Pl_mayFollow_26 : decode b_Pl_mayFollow 26 = .ok (.ireturn, 1) := by decide +kernel
set_option maxHeartbeats 1000000 in
set_option maxRecDepth 100000 in
theorem c_Pl_mayFollow (F : Nat → Nat → Int) (G : Nat → Int → Int) (dn k : Int) (hd : 0 ≤ dn ∧ dn < 1024) (hk : 0 ≤ k ∧ k < 10) (ha : (0 ≤ G 241 k ∧ G 241 k < 1024) ∧ (∀ j, bt (G 241 k) j → (j : Int) < k) ∧ (0 ≤ G 242 k ∧ G 242 k < 8)) : cP y_Pl_mayFollow b_Pl_mayFollow 3 (some .boolean) 0 0 F G (fun ad => [.ref (ad 238), .int (iI dn), .int (iI k)]) (fun r => (r = 0 ∨ r = 1) ∧ (r = 1 ↔ may (prC G) dn k.toNat)) := by
  intro s0 a0 D t ad
  refine g_startP (by decide +kernel) (Nat.le_of_ble_eq_true rfl) (fun p l e R s m args below meth c A ok => ?_)
  show gW p l e R s m args below meth c _ D A 3 (gZ0 s) 0 0 ad 265 (mem ad t F G) 0 [(0, .ref (ad 238)), (1, .int (iI dn)), (2, .int (iI k))] []
  obtain ⟨w0, hw1, hw2, hw3⟩ := bt_sub (a := G 241 k) (z := dn) ha.1 hd
  have hb := bt_div hd.1 k.toNat
  have hb0 := bt_div0 hd.1 k.toNat
  have hm2 := mod2 (dn / 2 ^ k.toNat)
  have hkk : ((k.toNat : Nat) : Int) = k := by omega
  refine g_iload_n ok d_Pl_mayFollow_0 rfl 1 rfl ?_
  refine g_iload_n ok d_Pl_mayFollow_1 rfl 2 rfl ?_
  refine g_ishr (z := dn / 2 ^ k.toNat) ok (iI_shr k.toNat (by omega) (by omega) (by omega)) d_Pl_mayFollow_2 ?_
  refine g_iconst ok d_Pl_mayFollow_3 ?_
  refine g_iand (z := dn / 2 ^ k.toNat % 2) ok (iI_and1 _) d_Pl_mayFollow_4 ?_
  refine g_if_ne ok 25 d_Pl_mayFollow_5 (by decide) (by omega) (fun h1 => ?_) (fun h1 => ?_)
  · refine g_iconst ok d_Pl_mayFollow_25 ?_
    exact g_zpret ok d_Pl_mayFollow_26 (Or.inl rfl) ⟨Or.inl rfl, fun z => by omega, fun z => absurd (hb0.mpr z.1) (by omega)⟩
  · refine g_aload_n ok d_Pl_mayFollow_8 rfl 0 rfl ?_
    refine gI_Pl_ahead ok _ rfl k_300 d_Pl_mayFollow_9 ?_
    refine g_iload_n ok d_Pl_mayFollow_12 rfl 2 rfl ?_
    refine h_iald ok _ a_241 (by omega) d_Pl_mayFollow_13 ?_
    refine g_iload_n ok d_Pl_mayFollow_14 rfl 1 rfl ?_
    refine g_iconst ok d_Pl_mayFollow_15 ?_
    refine g_ixor (z := 4294967295 - dn) ok (iI_not hd) d_Pl_mayFollow_16 ?_
    refine g_iand (z := w0) ok hw1 d_Pl_mayFollow_17 ?_
    refine g_if_ne ok 25 d_Pl_mayFollow_18 (by decide) (by omega) (fun h2 => ?_) (fun h2 => ?_)
    · refine g_iconst ok d_Pl_mayFollow_25 ?_
      exact g_zpret ok d_Pl_mayFollow_26 (Or.inl rfl) ⟨Or.inl rfl, fun z => by omega, fun z => absurd (hw3.mpr (fun j hj hp => z.2 j (by have := ha.2.1 j hp; omega) (by unfold prC; rw [hkk]; exact hp))) (by omega)⟩
    · refine g_iconst ok d_Pl_mayFollow_21 ?_
      refine g_goto ok 26 d_Pl_mayFollow_22 (by decide) ?_
      exact g_zpret ok d_Pl_mayFollow_26 (Or.inr rfl) ⟨Or.inr rfl, fun _ => ⟨hb0.mp (by omega), fun j hj hp => hw3.mp (by omega) j (by omega) (by unfold prC at hp; rw [hkk] at hp; exact hp)⟩, fun _ => rfl⟩
theorem d_Pl_changesAfter_0 : decode b_Pl_changesAfter 0 = .ok (.aload_n 0, 1) := by decide +kernel
theorem d_Pl_changesAfter_1 : decode b_Pl_changesAfter 1 = .ok (.getfield 9, 3) := by decide +kernel
theorem d_Pl_changesAfter_4 : decode b_Pl_changesAfter 4 = .ok (.iload_n 1, 1) := by decide +kernel
theorem d_Pl_changesAfter_5 : decode b_Pl_changesAfter 5 = .ok (.iaload, 1) := by decide +kernel
theorem d_Pl_changesAfter_6 : decode b_Pl_changesAfter 6 = .ok (.aload_n 0, 1) := by decide +kernel
theorem d_Pl_changesAfter_7 : decode b_Pl_changesAfter 7 = .ok (.getfield 15, 3) := by decide +kernel
theorem d_Pl_changesAfter_10 : decode b_Pl_changesAfter 10 = .ok (.iload_n 1, 1) := by decide +kernel
theorem d_Pl_changesAfter_11 : decode b_Pl_changesAfter 11 = .ok (.iaload, 1) := by decide +kernel
theorem d_Pl_changesAfter_12 : decode b_Pl_changesAfter 12 = .ok (.iload_n 2, 1) := by decide +kernel
theorem d_Pl_changesAfter_13 : decode b_Pl_changesAfter 13 = .ok (.ishr, 1) := by decide +kernel
theorem d_Pl_changesAfter_14 : decode b_Pl_changesAfter 14 = .ok (.iconst 1, 1) := by decide +kernel
theorem d_Pl_changesAfter_15 : decode b_Pl_changesAfter 15 = .ok (.iand, 1) := by decide +kernel
theorem d_Pl_changesAfter_16 : decode b_Pl_changesAfter 16 = .ok (.ifCond .ne 7, 3) := by decide +kernel
theorem d_Pl_changesAfter_19 : decode b_Pl_changesAfter 19 = .ok (.iconst 1, 1) := by decide +kernel
theorem d_Pl_changesAfter_20 : decode b_Pl_changesAfter 20 = .ok (.goto 4, 3) := by decide +kernel
theorem d_Pl_changesAfter_23 : decode b_Pl_changesAfter 23 = .ok (.iconst 0, 1) := by decide +kernel
theorem d_Pl_changesAfter_24 : decode b_Pl_changesAfter 24 = .ok (.iadd, 1) := by decide +kernel
theorem d_Pl_changesAfter_25 : decode b_Pl_changesAfter 25 = .ok (.ireturn, 1) := by decide +kernel
set_option maxHeartbeats 1000000 in
set_option maxRecDepth 100000 in
theorem c_Pl_changesAfter (F : Nat → Nat → Int) (G : Nat → Int → Int) (dn k : Int) (hd : 0 ≤ dn ∧ dn < 1024) (hk : 0 ≤ k ∧ k < 8) (hf : 0 ≤ G 240 dn ∧ G 240 dn < 256) : cP y_Pl_changesAfter b_Pl_changesAfter 3 (some .int) 0 0 F G (fun ad => [.ref (ad 238), .int (iI dn), .int (iI k)]) (fun r => r = vC (G 239) (G 240) dn k) := by
  intro s0 a0 D t ad
  refine g_startP (by decide +kernel) (Nat.le_of_ble_eq_true rfl) (fun p l e R s m args below meth c A ok => ?_)
  show gW p l e R s m args below meth c _ D A 3 (gZ0 s) 0 0 ad 265 (mem ad t F G) 0 [(0, .ref (ad 238)), (1, .int (iI dn)), (2, .int (iI k))] []
  have hb := bt_div hf.1 k.toNat
  have hb0 := bt_div0 hf.1 k.toNat
  have hm2 := mod2 (G 240 dn / 2 ^ k.toNat)
  refine g_aload_n ok d_Pl_changesAfter_0 rfl 0 rfl ?_
  refine gI_Pl_fewest ok _ rfl k_298 d_Pl_changesAfter_1 ?_
  refine g_iload_n ok d_Pl_changesAfter_4 rfl 1 rfl ?_
  refine h_iald ok _ a_239 (by omega) d_Pl_changesAfter_5 ?_
  refine g_aload_n ok d_Pl_changesAfter_6 rfl 0 rfl ?_
  refine gI_Pl_friendly ok _ rfl k_299 d_Pl_changesAfter_7 ?_
  refine g_iload_n ok d_Pl_changesAfter_10 rfl 1 rfl ?_
  refine h_iald ok _ a_240 (by omega) d_Pl_changesAfter_11 ?_
  refine g_iload_n ok d_Pl_changesAfter_12 rfl 2 rfl ?_
  refine g_ishr (z := G 240 dn / 2 ^ k.toNat) ok (iI_shr k.toNat (by omega) (by omega) (by omega)) d_Pl_changesAfter_13 ?_
  refine g_iconst ok d_Pl_changesAfter_14 ?_
  refine g_iand (z := G 240 dn / 2 ^ k.toNat % 2) ok (iI_and1 _) d_Pl_changesAfter_15 ?_
  refine g_if_ne ok 23 d_Pl_changesAfter_16 (by decide) (by omega) (fun h1 => ?_) (fun h1 => ?_)
  · refine g_iconst ok d_Pl_changesAfter_23 ?_
    refine g_iadd ok d_Pl_changesAfter_24 ?_
    exact g_ipret ok d_Pl_changesAfter_25 (by unfold vC; rw [pif_pos (hb.mp (by omega))])
  · refine g_iconst ok d_Pl_changesAfter_19 ?_
    refine g_goto ok 24 d_Pl_changesAfter_20 (by decide) ?_
    refine g_iadd ok d_Pl_changesAfter_24 ?_
    exact g_ipret ok d_Pl_changesAfter_25 (by unfold vC; rw [pif_neg (hb0.mp (by omega))])
theorem d_Pl_weigh_0 : decode b_Pl_weigh 0 = .ok (.iload_n 3, 1) := by decide +kernel
theorem d_Pl_weigh_1 : decode b_Pl_weigh 1 = .ok (.aload_n 0, 1) := by decide +kernel
theorem d_Pl_weigh_2 : decode b_Pl_weigh 2 = .ok (.getfield 9, 3) := by decide +kernel
theorem d_Pl_weigh_5 : decode b_Pl_weigh 5 = .ok (.iload_n 1, 1) := by decide +kernel
theorem d_Pl_weigh_6 : decode b_Pl_weigh 6 = .ok (.iaload, 1) := by decide +kernel
theorem d_Pl_weigh_7 : decode b_Pl_weigh 7 = .ok (.if_icmp .ge 17, 3) := by decide +kernel
theorem d_Pl_weigh_10 : decode b_Pl_weigh 10 = .ok (.aload_n 0, 1) := by decide +kernel
theorem d_Pl_weigh_11 : decode b_Pl_weigh 11 = .ok (.getfield 9, 3) := by decide +kernel
theorem d_Pl_weigh_14 : decode b_Pl_weigh 14 = .ok (.iload_n 1, 1) := by decide +kernel
theorem d_Pl_weigh_15 : decode b_Pl_weigh 15 = .ok (.iload_n 3, 1) := by decide +kernel
theorem d_Pl_weigh_16 : decode b_Pl_weigh 16 = .ok (.iastore, 1) := by decide +kernel
theorem d_Pl_weigh_17 : decode b_Pl_weigh 17 = .ok (.aload_n 0, 1) := by decide +kernel
theorem d_Pl_weigh_18 : decode b_Pl_weigh 18 = .ok (.getfield 15, 3) := by decide +kernel
theorem d_Pl_weigh_21 : decode b_Pl_weigh 21 = .ok (.iload_n 1, 1) := by decide +kernel
theorem d_Pl_weigh_22 : decode b_Pl_weigh 22 = .ok (.iconst 0, 1) := by decide +kernel
theorem d_Pl_weigh_23 : decode b_Pl_weigh 23 = .ok (.iastore, 1) := by decide +kernel
theorem d_Pl_weigh_24 : decode b_Pl_weigh 24 = .ok (.iload_n 3, 1) := by decide +kernel
theorem d_Pl_weigh_25 : decode b_Pl_weigh 25 = .ok (.aload_n 0, 1) := by decide +kernel
theorem d_Pl_weigh_26 : decode b_Pl_weigh 26 = .ok (.getfield 9, 3) := by decide +kernel
theorem d_Pl_weigh_29 : decode b_Pl_weigh 29 = .ok (.iload_n 1, 1) := by decide +kernel
theorem d_Pl_weigh_30 : decode b_Pl_weigh 30 = .ok (.iaload, 1) := by decide +kernel
theorem d_Pl_weigh_31 : decode b_Pl_weigh 31 = .ok (.if_icmp .ne 15, 3) := by decide +kernel
theorem d_Pl_weigh_34 : decode b_Pl_weigh 34 = .ok (.aload_n 0, 1) := by decide +kernel
theorem d_Pl_weigh_35 : decode b_Pl_weigh 35 = .ok (.getfield 15, 3) := by decide +kernel
theorem d_Pl_weigh_38 : decode b_Pl_weigh 38 = .ok (.iload_n 1, 1) := by decide +kernel
theorem d_Pl_weigh_39 : decode b_Pl_weigh 39 = .ok (.dup2, 1) := by decide +kernel
theorem d_Pl_weigh_40 : decode b_Pl_weigh 40 = .ok (.iaload, 1) := by decide +kernel
theorem d_Pl_weigh_41 : decode b_Pl_weigh 41 = .ok (.iconst 1, 1) := by decide +kernel
theorem d_Pl_weigh_42 : decode b_Pl_weigh 42 = .ok (.iload_n 2, 1) := by decide +kernel
theorem d_Pl_weigh_43 : decode b_Pl_weigh 43 = .ok (.ishl, 1) := by decide +kernel
theorem d_Pl_weigh_44 : decode b_Pl_weigh 44 = .ok (.ior, 1) := by decide +kernel
theorem d_Pl_weigh_45 : decode b_Pl_weigh 45 = .ok (.iastore, 1) := by decide +kernel
theorem d_Pl_weigh_46 : decode b_Pl_weigh 46 = .ok (.return_, 1) := by decide +kernel
set_option maxHeartbeats 1000000 in
set_option maxRecDepth 100000 in
theorem c_Pl_weigh (F : Nat → Nat → Int) (G : Nat → Int → Int) (dn k v : Int) (hd : 0 ≤ dn ∧ dn < 1024) (hk : 0 ≤ k ∧ k < 8) (hf : 0 ≤ G 240 dn ∧ G 240 dn < 256) (hv : 0 ≤ v ∧ v ≤ 100) (hw : 0 ≤ G 239 dn ∧ G 239 dn ≤ 100) : cV y_Pl_weigh b_Pl_weigh 4 none 0 0 F G (fun ad => [.ref (ad 238), .int (iI dn), .int (iI k), .int (iI v)]) (fun F' G' => F' = F ∧ (∀ a, a ≠ 239 → a ≠ 240 → G' a = G a) ∧ (∀ T, T ≠ dn → G' 239 T = G 239 T ∧ G' 240 T = G 240 T) ∧ ((G 239 dn < v ∧ G' 239 dn = G 239 dn ∧ G' 240 dn = G 240 dn) ∨ (v = G 239 dn ∧ G' 239 dn = G 239 dn ∧ (0 ≤ G' 240 dn ∧ G' 240 dn < 256) ∧ ∀ j, bt (G' 240 dn) j ↔ (bt (G 240 dn) j ∨ j = k.toNat)) ∨ (v < G 239 dn ∧ G' 239 dn = v ∧ (0 ≤ G' 240 dn ∧ G' 240 dn < 256) ∧ ∀ j, bt (G' 240 dn) j ↔ j = k.toNat))) := by
  intro s0 a0 D t ad
  refine g_startV (by decide +kernel) (Nat.le_of_ble_eq_true rfl) (fun p l e R s m args below meth c A ok => ?_)
  show gW p l e R s m args below meth c _ D A 4 (gZ0 s) 0 0 ad 265 (mem ad t F G) 0 [(0, .ref (ad 238)), (1, .int (iI dn)), (2, .int (iI k)), (3, .int (iI v))] []
  refine g_iload_n ok d_Pl_weigh_0 rfl 3 rfl ?_
  refine g_aload_n ok d_Pl_weigh_1 rfl 0 rfl ?_
  refine gI_Pl_fewest ok _ rfl k_298 d_Pl_weigh_2 ?_
  refine g_iload_n ok d_Pl_weigh_5 rfl 1 rfl ?_
  refine h_iald ok _ a_239 (by omega) d_Pl_weigh_6 ?_
  refine g_icmp_ge ok 24 d_Pl_weigh_7 (by decide) (by omega) (by omega) (fun h1 => ?_) (fun h1 => ?_)
  · refine g_iload_n ok d_Pl_weigh_24 rfl 3 rfl ?_
    refine g_aload_n ok d_Pl_weigh_25 rfl 0 rfl ?_
    refine gI_Pl_fewest ok _ rfl k_298 d_Pl_weigh_26 ?_
    refine g_iload_n ok d_Pl_weigh_29 rfl 1 rfl ?_
    refine h_iald ok _ a_239 (by omega) d_Pl_weigh_30 ?_
    refine g_icmp_ne ok 46 d_Pl_weigh_31 (by decide) (by omega) (by omega) (fun h2 => ?_) (fun h2 => ?_)
    · exact g_vret ok d_Pl_weigh_46 ⟨_, _, rfl, rfl, fun _ _ _ => rfl, fun _ _ => ⟨rfl, rfl⟩, Or.inl ⟨by omega, rfl, rfl⟩⟩
    · obtain ⟨w0, hw1, hw2, hw3⟩ := bt_or (a := G 240 dn) (k := k.toNat) hf (by omega)
      refine g_aload_n ok d_Pl_weigh_34 rfl 0 rfl ?_
      refine gI_Pl_friendly ok _ rfl k_299 d_Pl_weigh_35 ?_
      refine g_iload_n ok d_Pl_weigh_38 rfl 1 rfl ?_
      refine g_dup2 ok d_Pl_weigh_39 rfl rfl ?_
      refine h_iald ok _ a_240 (by omega) d_Pl_weigh_40 ?_
      refine g_iconst ok d_Pl_weigh_41 ?_
      refine g_iload_n ok d_Pl_weigh_42 rfl 2 rfl ?_
      refine g_ishl (z := 1 * 2 ^ k.toNat) ok (iI_shl k.toNat (by omega) (by decide) (by have := pw_le (k := k.toNat) (by omega); omega) (by omega)) d_Pl_weigh_43 ?_
      refine g_ior (z := w0) ok (by rw [Int.one_mul]; exact hw1) d_Pl_weigh_44 ?_
      refine h_iast ok _ a_240 (by omega) d_Pl_weigh_45 ?_
      exact g_vret ok d_Pl_weigh_46 ⟨_, _, rfl, rfl, fun a z1 z2 => gU_k _ _ _ z2, fun T z => ⟨gU_a (by decide), gU_i z⟩, Or.inr (Or.inl ⟨by omega, gU_a (by decide), by rw [gU_hit]; exact hw2, fun j => by rw [gU_hit]; exact hw3 j⟩)⟩
  · refine g_aload_n ok d_Pl_weigh_10 rfl 0 rfl ?_
    refine gI_Pl_fewest ok _ rfl k_298 d_Pl_weigh_11 ?_
    refine g_iload_n ok d_Pl_weigh_14 rfl 1 rfl ?_
    refine g_iload_n ok d_Pl_weigh_15 rfl 3 rfl ?_
    refine h_iast ok _ a_239 (by omega) d_Pl_weigh_16 ?_
    refine g_aload_n ok d_Pl_weigh_17 rfl 0 rfl ?_
    refine gI_Pl_friendly ok _ rfl k_299 d_Pl_weigh_18 ?_
    refine g_iload_n ok d_Pl_weigh_21 rfl 1 rfl ?_
    refine g_iconst ok d_Pl_weigh_22 ?_
    refine h_iast ok _ a_240 (by omega) d_Pl_weigh_23 ?_
    refine g_iload_n ok d_Pl_weigh_24 rfl 3 rfl ?_
    refine g_aload_n ok d_Pl_weigh_25 rfl 0 rfl ?_
    refine gI_Pl_fewest ok _ rfl k_298 d_Pl_weigh_26 ?_
    refine g_iload_n ok d_Pl_weigh_29 rfl 1 rfl ?_
    refine h_iald ok _ a_239 (by omega) d_Pl_weigh_30 ?_
    refine g_top (y := v) (by show (gU (gU G 239 dn v) 240 dn 0) 239 dn = _; rw [gU_a (show 239 ≠ 240 by omega), gU_hit]) ?_
    refine g_icmp_ne ok 46 d_Pl_weigh_31 (by decide) (by omega) (by omega) (fun h3 => ?_) (fun h3 => ?_)
    · exact absurd rfl h3
    · obtain ⟨w0, hw1, hw2, hw3⟩ := bt_or (a := 0) (k := k.toNat) (by decide) (by omega)
      refine g_aload_n ok d_Pl_weigh_34 rfl 0 rfl ?_
      refine gI_Pl_friendly ok _ rfl k_299 d_Pl_weigh_35 ?_
      refine g_iload_n ok d_Pl_weigh_38 rfl 1 rfl ?_
      refine g_dup2 ok d_Pl_weigh_39 rfl rfl ?_
      refine h_iald ok _ a_240 (by omega) d_Pl_weigh_40 ?_
      refine g_top (y := 0) (by show (gU (gU G 239 dn v) 240 dn 0) 240 dn = _; rw [gU_hit]) ?_
      refine g_iconst ok d_Pl_weigh_41 ?_
      refine g_iload_n ok d_Pl_weigh_42 rfl 2 rfl ?_
      refine g_ishl (z := 1 * 2 ^ k.toNat) ok (iI_shl k.toNat (by omega) (by decide) (by have := pw_le (k := k.toNat) (by omega); omega) (by omega)) d_Pl_weigh_43 ?_
      refine g_ior (z := w0) ok (by rw [Int.one_mul]; exact hw1) d_Pl_weigh_44 ?_
      refine h_iast ok _ a_240 (by omega) d_Pl_weigh_45 ?_
      exact g_vret ok d_Pl_weigh_46 ⟨_, _, rfl, rfl, fun a z1 z2 => by rw [gU_k _ _ _ z2, gU_k _ _ _ z2, gU_k _ _ _ z1], fun T z => ⟨by rw [gU_a (by decide), gU_a (by decide), gU_i z], by rw [gU_i z, gU_i z, gU_a (by decide)]⟩, Or.inr (Or.inr ⟨by omega, by rw [gU_a (by decide), gU_a (by decide), gU_hit], by rw [gU_hit]; exact hw2, fun j => by rw [gU_hit]; exact (hw3 j).trans ⟨fun z => z.elim (fun y => absurd y (bt_0 j)) id, Or.inr⟩⟩)⟩
