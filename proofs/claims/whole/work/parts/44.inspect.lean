theorem jn_rg {F : Nat → Nat → Int} {G G1 : Nat → Int → Int} {k : Nat} (hK : isSh k) (hRs : sRg F G k) (h15 : rIn F G (k + 15)) (h18 : rIn F G (k + 18)) (hj : jnd G G1 k (F (k + 15) 2) (F (k + 18) 2) (F (k + 15) 2) (F (k + 18) 2)) : sRg (fU F (k + 3) 2 (F (k + 15) 2 + F (k + 18) 2)) G1 k := by
  intro q hq
  have e15 := rmB hK
  have e18 := rmC hK
  obtain ⟨s15, x15⟩ := h15
  obtain ⟨s18, x18⟩ := h18
  rw [e15] at s15
  rw [e18] at s18
  by_cases h : q = 0
  · subst h
    refine ⟨?_, fun i h1 h2 => ?_⟩
    · rw [show k + 3 + 3 * 0 = k + 3 by omega, fU_hit, rmA hK]
      omega
    · rw [show k + 3 + 3 * 0 = k + 3 by omega] at h2 ⊢
      rw [fU_hit] at h2
      by_cases c : i < F (k + 15) 2
      · obtain ⟨a, b⟩ := hj.2.1 i h1 c
        have := x15 i h1 c
        rw [show k + 3 + 1 = k + 4 by omega, show k + 3 + 2 = k + 5 by omega, a, b]
        exact this
      · obtain ⟨a, b⟩ := hj.2.2 (i - F (k + 15) 2) (by omega) (by omega)
        have := x18 (F (k + 18) 2 - 1 - (i - F (k + 15) 2)) (by omega) (by omega)
        rw [show F (k + 15) 2 + (i - F (k + 15) 2) = i by omega] at a b
        rw [show k + 3 + 1 = k + 4 by omega, show k + 3 + 2 = k + 5 by omega, a, b]
        exact this
  · have := hRs q hq
    unfold rIn at this ⊢
    rw [fU_ka (show k + 3 + 3 * q ≠ k + 3 by omega), hj.1 (k + 3 + 3 * q + 1) (by omega) (by omega), hj.1 (k + 3 + 3 * q + 2) (by omega) (by omega)]
    exact this
def sBx4 (F F' : Nat → Nat → Int) (G : Nat → Int → Int) (k : Nat) : Prop := ∃ lf tp rt bt : Int, F' = fU (fU (fU (fU F k 7 lf) k 8 tp) k 9 rt) k 10 bt ∧ ((0 ≤ lf ∧ lf ≤ 600) ∧ (0 ≤ tp ∧ tp ≤ 600) ∧ (0 ≤ rt ∧ rt ≤ 600) ∧ (0 ≤ bt ∧ bt ≤ 600)) ∧ boxP (cS F G k 4 0) lf tp rt bt
theorem d_Sh_finish_0 : decode b_Sh_finish 0 = .ok (.aload_n 0, 1) := by decide +kernel
theorem d_Sh_finish_1 : decode b_Sh_finish 1 = .ok (.getfield 37, 3) := by decide +kernel
theorem d_Sh_finish_4 : decode b_Sh_finish 4 = .ok (.iconst 1, 1) := by decide +kernel
theorem d_Sh_finish_5 : decode b_Sh_finish 5 = .ok (.if_icmp .ne 7, 3) := by decide +kernel
theorem d_Sh_finish_8 : decode b_Sh_finish 8 = .ok (.aload_n 0, 1) := by decide +kernel
theorem d_Sh_finish_9 : decode b_Sh_finish 9 = .ok (.invokevirtual 47, 3) := by decide +kernel
theorem d_Sh_finish_12 : decode b_Sh_finish 12 = .ok (.aload_n 0, 1) := by decide +kernel
theorem d_Sh_finish_13 : decode b_Sh_finish 13 = .ok (.invokevirtual 50, 3) := by decide +kernel
theorem d_Sh_finish_16 : decode b_Sh_finish 16 = .ok (.return_, 1) := by decide +kernel
set_option maxHeartbeats 4000000 in
set_option maxRecDepth 100000 in
theorem c_Sh_finish (F : Nat → Nat → Int) (G : Nat → Int → Int) (k : Nat) (hK : isSh k) (hf : 0 ≤ F k 4 ∧ F k 4 ≤ 2) (hRs : sRg F G k) (h15 : rIn F G (k + 15)) (h18 : rIn F G (k + 18)) (h0 : F k 4 = 1 → F (k + 3) 2 = 0) : cV y_Sh_finish b_Sh_finish 1 none 2 44 F G (fun ad => [.ref (ad k)]) (fun F' G' => ∃ F1, ((¬ F k 4 = 1 ∧ F1 = F ∧ G' = G) ∨ (F k 4 = 1 ∧ F1 = fU F (k + 3) 2 (F (k + 15) 2 + F (k + 18) 2) ∧ jnd G G' k (F (k + 15) 2) (F (k + 18) 2) (F (k + 15) 2) (F (k + 18) 2))) ∧ sRg F1 G' k ∧ sBx4 F1 F' G' k) := by
  intro s0 a0 D t ad
  refine g_startV (by decide +kernel) (Nat.le_of_ble_eq_true rfl) (fun p l e R s m args below meth c A ok => ?_)
  show gW p l e R s m args below meth c _ D A 1 (gZ0 s) 0 0 ad 265 (mem ad t F G) 0 [(0, .ref (ad k))] []
  refine g_aload_n ok d_Sh_finish_0 rfl 0 rfl ?_
  refine gI_Sh_fill ok _ hK k_99 d_Sh_finish_1 ?_
  refine g_iconst ok d_Sh_finish_4 ?_
  refine g_icmp_ne ok 12 d_Sh_finish_5 (by decide) (by omega) (by omega) (fun h1 => ?_) (fun h1 => ?_)
  · refine g_aload_n ok d_Sh_finish_12 rfl 0 rfl ?_
    refine g_callVV (As := []) (st := []) ok _ (c_Sh_measure F G _ hK hRs s0 a0 D t ad) k_888 k_2 k_885 cl_Sh (m_Sh (ad := ad) (t := t) (F := F) (G := G) hK).1 (m_Sh hK).2 k_887 s_Sh_measure q_Sh_measure (by decide) (Nat.le_of_ble_eq_true rfl) (by decide) d_Sh_finish_13 (fun ce1 hc2 => ?_)
    obtain ⟨F2, G2, rfl, hG2, hx⟩ := hc2
    exact g_vret ok d_Sh_finish_16 ⟨_, _, rfl, by rw [hG2]; exact ⟨F, Or.inl ⟨by omega, rfl, rfl⟩, hRs, hx⟩⟩
  · refine g_aload_n ok d_Sh_finish_8 rfl 0 rfl ?_
    refine g_callVV (As := []) (st := []) ok _ (c_Sh_joinRails F G _ hK (h0 (by omega)) (by have := h15.1; rw [rmB hK] at this; omega) (by have := h18.1; rw [rmC hK] at this; omega) s0 a0 D t ad) k_883 k_2 k_880 cl_Sh (m_Sh (ad := ad) (t := t) (F := F) (G := G) hK).1 (m_Sh hK).2 k_882 s_Sh_joinRails q_Sh_joinRails (by decide) (Nat.le_of_ble_eq_true rfl) (by decide) d_Sh_finish_9 (fun ce1 hc3 => ?_)
    obtain ⟨F1, G1, rfl, rfl, hj⟩ := hc3
    have hR1 := jn_rg hK hRs h15 h18 hj
    refine g_aload_n ok d_Sh_finish_12 rfl 0 rfl ?_
    refine g_callVV (As := []) (st := []) ok _ (c_Sh_measure (fU F (k + 3) 2 (F (k + 15) 2 + F (k + 18) 2)) G1 _ hK hR1 s0 a0 D t ad) k_888 k_2 k_885 cl_Sh (m_Sh (ad := ad) (t := t) (F := (fU F (k + 3) 2 (F (k + 15) 2 + F (k + 18) 2))) (G := G1) hK).1 (m_Sh hK).2 k_887 s_Sh_measure q_Sh_measure (by decide) (Nat.le_of_ble_eq_true rfl) (by decide) d_Sh_finish_13 (fun ce1 hc4 => ?_)
    obtain ⟨F2, G2, rfl, hG2, hx⟩ := hc4
    exact g_vret ok d_Sh_finish_16 ⟨_, _, rfl, by rw [hG2]; exact ⟨_, Or.inr ⟨by omega, rfl, hj⟩, hR1, hx⟩⟩
def sFlat (F : Nat → Nat → Int) (G : Nat → Int → Int) (k : Nat) : Prop := ∃ q : Int, (0 ≤ q ∧ q < 4) ∧ (q = 0 ∨ 0 < F (k + 3 + 3 * q.toNat) 2) ∧ rFlat F G (k + 3 + 3 * q.toNat)
def sOut (F : Nat → Nat → Int) (G : Nat → Int → Int) (k : Nat) : Prop := ∃ q : Int, (1 ≤ q ∧ q < 4) ∧ 0 < F (k + 3 + 3 * q.toNat) 2 ∧ ¬ bIn F G (k + 3 + 3 * q.toNat) (k + 3 + 3 * (0 : Int).toNat)
def sWith (F : Nat → Nat → Int) (G : Nat → Int → Int) (k : Nat) : Prop := ∃ q v : Int, (1 ≤ q ∧ q < 4) ∧ (1 ≤ v ∧ v < 4) ∧ ¬ q = v ∧ 0 < F (k + 3 + 3 * q.toNat) 2 ∧ bIn F G (k + 3 + 3 * q.toNat) (k + 3 + 3 * v.toNat)
def edgesAt (F : Nat → Nat → Int) (G : Nat → Int → Int) (k : Nat) (G1 : Nat → Int → Int) : Prop := gFr G G1 ∧ ∀ q : Nat, q < 4 → gRing F G k q (F (k + 3 + 3 * q) 2) G1
/-- what a shape of rings has for a fault -/
def sFault (F : Nat → Nat → Int) (G : Nat → Int → Int) (k : Nat) (z l o : Int) : Prop := (z = 1 ∧ sFlat F G k ∧ l = -1 ∧ o = -1) ∨ (¬ sFlat F G k ∧ ∃ G1, edgesAt F G k G1 ∧ ((z = 2 ∧ (0 ≤ l ∧ l < o ∧ o < oC F k 4) ∧ iCross G1 l o ∧ ∀ a b : Int, 0 ≤ a → a < b → b < oC F k 4 → (a < l ∨ (a = l ∧ b < o)) → ¬ iCross G1 a b) ∨ ((∀ a b : Int, 0 ≤ a → a < b → b < oC F k 4 → ¬ iCross G1 a b) ∧ l = -1 ∧ o = -1 ∧ ((z = 3 ∧ sOut F G k) ∨ (¬ sOut F G k ∧ ((z = 4 ∧ sWith F G k) ∨ (z = 0 ∧ ¬ sWith F G k)))))))
theorem oC_cong {F F1 : Nat → Nat → Int} {k : Nat} (h : ∀ a, F1 a 2 = F a 2) : ∀ n, oC F1 k n = oC F k n
  | 0 => rfl
  | n + 1 => by
    show oC F1 k n + F1 _ 2 = oC F k n + F _ 2
    rw [oC_cong h n, h]
theorem sFault_cong {F F1 : Nat → Nat → Int} {G : Nat → Int → Int} {k : Nat} {z l o : Int} (h : ∀ a, F1 a 2 = F a 2) : sFault F1 G k z l o = sFault F G k z l o := by
  unfold sFault sFlat sOut sWith edgesAt gRing gEdge bIn rFlat
  simp only [h, oC_cong h]
theorem bIn_cong {F F1 : Nat → Nat → Int} {G G1 : Nat → Int → Int} {a b : Nat} (h : ∀ a, F1 a 2 = F a 2) (hG : gFr G G1) (ha : a < 222) (hb : b < 222) : bIn F1 G1 a b = bIn F G a b := by
  unfold bIn
  rw [h, hG _ (by omega), hG _ (by omega), hG _ (by omega), hG _ (by omega)]
theorem sOut_cong {F F1 : Nat → Nat → Int} {G G1 : Nat → Int → Int} {k : Nat} (hk : isSh k) (h : ∀ a, F1 a 2 = F a 2) (hG : gFr G G1) : sOut F1 G1 k ↔ sOut F G k := by
  unfold isSh at hk
  constructor
  · rintro ⟨q, h1, h2, h3⟩
    rw [bIn_cong h hG (by omega) (by omega)] at h3
    rw [h] at h2
    exact ⟨q, h1, h2, h3⟩
  · rintro ⟨q, h1, h2, h3⟩
    refine ⟨q, h1, by rw [h]; exact h2, ?_⟩
    rw [bIn_cong h hG (by omega) (by omega)]
    exact h3
theorem sWith_cong {F F1 : Nat → Nat → Int} {G G1 : Nat → Int → Int} {k : Nat} (hk : isSh k) (h : ∀ a, F1 a 2 = F a 2) (hG : gFr G G1) : sWith F1 G1 k ↔ sWith F G k := by
  unfold isSh at hk
  constructor
  · rintro ⟨q, v, h1, h2, h3, h4, h5⟩
    rw [bIn_cong h hG (by omega) (by omega)] at h5
    rw [h] at h4
    exact ⟨q, v, h1, h2, h3, h4, h5⟩
  · rintro ⟨q, v, h1, h2, h3, h4, h5⟩
    refine ⟨q, v, h1, h2, h3, by rw [h]; exact h4, ?_⟩
    rw [bIn_cong h hG (by omega) (by omega)]
    exact h5
theorem rJ_rng {n i : Int} (h : 0 ≤ i ∧ i < n) : 0 ≤ rJ n i ∧ rJ n i < n := by
  unfold rJ
  split <;> omega
theorem iE_of {F : Nat → Nat → Int} {G G1 : Nat → Int → Int} {k : Nat} (hRs : sRg F G k) (h24 : ∀ q : Nat, q < 4 → F (k + 3 + 3 * q) 2 ≤ 24) (h : edgesAt F G k G1) : iE G1 (oC F k 4) := by
  intro z h1 h2
  obtain ⟨q, i, hq, i1, i2, rfl⟩ := oC_split h1 4 h2
  obtain ⟨e1, e2, e3, e4, e5⟩ := h.2 q hq i i1 i2
  obtain ⟨a, b⟩ := (hRs q hq).2 i i1 i2
  obtain ⟨c, d⟩ := (hRs q hq).2 _ (rJ_rng ⟨i1, i2⟩).1 (rJ_rng ⟨i1, i2⟩).2
  have hj := rJ_rng ⟨i1, i2⟩
  have ho := oC_le (F := F) (k := k) (fun q hq => ⟨(hRs q hq).1.1, h24 q hq⟩) q (by omega)
  have := h24 q hq
  rw [e1, e2, e3, e4, e5]
  exact ⟨a, b, c, d, by omega⟩
theorem sRg_cong {F F1 : Nat → Nat → Int} {G G1 : Nat → Int → Int} {k : Nat} (hk : isSh k) (h : ∀ a, F1 a 2 = F a 2) (hG : gFr G G1) (hR : sRg F G k) : sRg F1 G1 k := by
  unfold isSh at hk
  intro q hq
  have := hR q hq
  unfold rIn at this ⊢
  rw [h, hG _ (by omega), hG _ (by omega)]
  exact this
theorem d_In_faultOfRings_0 : decode b_In_faultOfRings 0 = .ok (.aload_n 0, 1) := by decide +kernel
theorem d_In_faultOfRings_1 : decode b_In_faultOfRings 1 = .ok (.aload_n 1, 1) := by decide +kernel
theorem d_In_faultOfRings_2 : decode b_In_faultOfRings 2 = .ok (.invokevirtual 58, 3) := by decide +kernel
theorem d_In_faultOfRings_5 : decode b_In_faultOfRings 5 = .ok (.ifCond .eq 5, 3) := by decide +kernel
theorem d_In_faultOfRings_8 : decode b_In_faultOfRings 8 = .ok (.iconst 1, 1) := by decide +kernel
theorem d_In_faultOfRings_9 : decode b_In_faultOfRings 9 = .ok (.ireturn, 1) := by decide +kernel
theorem d_In_faultOfRings_10 : decode b_In_faultOfRings 10 = .ok (.aload_n 0, 1) := by decide +kernel
theorem d_In_faultOfRings_11 : decode b_In_faultOfRings 11 = .ok (.aload_n 1, 1) := by decide +kernel
theorem d_In_faultOfRings_12 : decode b_In_faultOfRings 12 = .ok (.invokevirtual 62, 3) := by decide +kernel
theorem d_In_faultOfRings_15 : decode b_In_faultOfRings 15 = .ok (.aload_n 0, 1) := by decide +kernel
theorem d_In_faultOfRings_16 : decode b_In_faultOfRings 16 = .ok (.invokevirtual 66, 3) := by decide +kernel
theorem d_In_faultOfRings_19 : decode b_In_faultOfRings 19 = .ok (.ifCond .eq 5, 3) := by decide +kernel
theorem d_In_faultOfRings_22 : decode b_In_faultOfRings 22 = .ok (.iconst 2, 1) := by decide +kernel
theorem d_In_faultOfRings_23 : decode b_In_faultOfRings 23 = .ok (.ireturn, 1) := by decide +kernel
theorem d_In_faultOfRings_24 : decode b_In_faultOfRings 24 = .ok (.aload_n 0, 1) := by decide +kernel
theorem d_In_faultOfRings_25 : decode b_In_faultOfRings 25 = .ok (.aload_n 1, 1) := by decide +kernel
theorem d_In_faultOfRings_26 : decode b_In_faultOfRings 26 = .ok (.invokevirtual 70, 3) := by decide +kernel
theorem d_In_faultOfRings_29 : decode b_In_faultOfRings 29 = .ok (.ifCond .eq 5, 3) := by decide +kernel
theorem d_In_faultOfRings_32 : decode b_In_faultOfRings 32 = .ok (.iconst 3, 1) := by decide +kernel
theorem d_In_faultOfRings_33 : decode b_In_faultOfRings 33 = .ok (.ireturn, 1) := by decide +kernel
theorem d_In_faultOfRings_34 : decode b_In_faultOfRings 34 = .ok (.aload_n 0, 1) := by decide +kernel
theorem d_In_faultOfRings_35 : decode b_In_faultOfRings 35 = .ok (.aload_n 1, 1) := by decide +kernel
theorem d_In_faultOfRings_36 : decode b_In_faultOfRings 36 = .ok (.invokevirtual 73, 3) := by decide +kernel
theorem d_In_faultOfRings_39 : decode b_In_faultOfRings 39 = .ok (.ifCond .eq 7, 3) := by decide +kernel
theorem d_In_faultOfRings_42 : decode b_In_faultOfRings 42 = .ok (.iconst 4, 1) := by decide +kernel
theorem d_In_faultOfRings_43 : decode b_In_faultOfRings 43 = .ok (.goto 4, 3) := by decide +kernel
theorem d_In_faultOfRings_46 : decode b_In_faultOfRings 46 = .ok (.iconst 0, 1) := by decide +kernel
theorem d_In_faultOfRings_47 : decode b_In_faultOfRings 47 = .ok (.ireturn, 1) := by decide +kernel
set_option maxHeartbeats 4000000 in
set_option maxRecDepth 100000 in
theorem c_In_faultOfRings (F : Nat → Nat → Int) (G : Nat → Int → Int) (k : Nat) (hK : isSh k) (hRs : sRg F G k) (h24 : ∀ q : Nat, q < 4 → F (k + 3 + 3 * q) 2 ≤ 24) (hl7 : F 224 7 = -1) (hl8 : F 224 8 = -1) : cI y_In_faultOfRings b_In_faultOfRings 2 (some .int) 5 111 F G (fun ad => [.ref (ad 224), .ref (ad k)]) (fun z F' G' => sFault F G k z (F' 224 7) (F' 224 8) ∧ gFr G G' ∧ ∀ a b, a ≠ 224 → F' a b = F a b) := by
  intro s0 a0 D t ad
  refine g_startI (by decide +kernel) (Nat.le_of_ble_eq_true rfl) (fun p l e R s m args below meth c A ok => ?_)
  show gW p l e R s m args below meth c _ D A 2 (gZ0 s) 0 0 ad 265 (mem ad t F G) 0 [(0, .ref (ad 224)), (1, .ref (ad k))] []
  refine g_aload_n ok d_In_faultOfRings_0 rfl 0 rfl ?_
  refine g_aload_n ok d_In_faultOfRings_1 rfl 1 rfl ?_
  refine g_callPV (As := [.ref (ad k)]) (st := []) ok _ (c_In_hasFlatRing F G _ hK hRs s0 a0 D t ad) k_829 k_5 k_826 cl_In (m_In (ad := ad) (t := t) (F := F) (G := G) rfl).1 (m_In rfl).2 k_828 s_In_hasFlatRing q_In_hasFlatRing (by decide) (Nat.le_of_ble_eq_true rfl) (by decide) d_In_faultOfRings_2 (fun z1 hc1 => ?_)
  refine g_if_eq ok 10 d_In_faultOfRings_5 (by decide) (by omega) (fun h2 => ?_) (fun h2 => ?_)
  · refine g_aload_n ok d_In_faultOfRings_10 rfl 0 rfl ?_
    refine g_aload_n ok d_In_faultOfRings_11 rfl 1 rfl ?_
    refine g_callVV (As := [.ref (ad k)]) (st := []) ok _ (c_In_gatherEdges F G _ hK hRs h24 s0 a0 D t ad) k_837 k_5 k_834 cl_In (m_In (ad := ad) (t := t) (F := F) (G := G) rfl).1 (m_In rfl).2 k_836 s_In_gatherEdges q_In_gatherEdges (by decide) (Nat.le_of_ble_eq_true rfl) (by decide) d_In_faultOfRings_12 (fun ce1 hc3 => ?_)
    obtain ⟨F1, G1, rfl, rfl, hed⟩ := hc3
    have hoc := oC_le (F := F) (k := k) (fun q hq => ⟨(hRs q hq).1.1, h24 q hq⟩) 4 (by decide)
    have hiE := iE_of hRs h24 hed
    refine g_aload_n ok d_In_faultOfRings_15 rfl 0 rfl ?_
    refine g_callIV (As := []) (st := []) ok _ (c_In_findCrossing (fU F 224 5 (oC F k 4)) G1 (by rw [fU_hit]; omega) (by rw [fU_hit]; exact hiE) s0 a0 D t ad) k_842 k_5 k_839 cl_In (m_In (ad := ad) (t := t) (F := (fU F 224 5 (oC F k 4))) (G := G1) rfl).1 (m_In rfl).2 k_841 s_In_findCrossing q_In_findCrossing (by decide) (Nat.le_of_ble_eq_true rfl) (by decide) d_In_faultOfRings_16 (fun zc ce1 hc4 => ?_)
    obtain ⟨F2, G2, rfl, hG2, hx⟩ := hc4
    rw [fU_hit] at hx
    subst hG2
    have hzc : 0 ≤ zc ∧ zc ≤ 1 := by rcases hx with h | h <;> omega
    refine g_if_eq ok 24 d_In_faultOfRings_19 (by decide) (by omega) (fun h5 => ?_) (fun h5 => ?_)
    · have hx2 := hx.resolve_left (fun q => by omega)
      obtain ⟨-, rfl, hnc⟩ := hx2
      have hF2 : ∀ a, (fU F 224 5 (oC F k 4)) a 2 = F a 2 := fun a => fU_ja (by decide)
      have hR2 := sRg_cong hK hF2 hed.1 hRs
      refine g_aload_n ok d_In_faultOfRings_24 rfl 0 rfl ?_
      refine g_aload_n ok d_In_faultOfRings_25 rfl 1 rfl ?_
      refine g_callPV (As := [.ref (ad k)]) (st := []) ok _ (c_In_hasHoleOutside (fU F 224 5 (oC F k 4)) G2 _ hK hR2 s0 a0 D t ad) k_867 k_5 k_864 cl_In (m_In (ad := ad) (t := t) (F := (fU F 224 5 (oC F k 4))) (G := G2) rfl).1 (m_In rfl).2 k_866 s_In_hasHoleOutside q_In_hasHoleOutside (by decide) (Nat.le_of_ble_eq_true rfl) (by decide) d_In_faultOfRings_26 (fun z6 hc6 => ?_)
      have ho3 := hc6.2.trans (sOut_cong hK hF2 hed.1)
      refine g_if_eq ok 34 d_In_faultOfRings_29 (by decide) (by omega) (fun h7 => ?_) (fun h7 => ?_)
      · refine g_aload_n ok d_In_faultOfRings_34 rfl 0 rfl ?_
        refine g_aload_n ok d_In_faultOfRings_35 rfl 1 rfl ?_
        refine g_callPV (As := [.ref (ad k)]) (st := []) ok _ (c_In_hasHoleWithin (fU F 224 5 (oC F k 4)) G2 _ hK hR2 s0 a0 D t ad) k_875 k_5 k_872 cl_In (m_In (ad := ad) (t := t) (F := (fU F 224 5 (oC F k 4))) (G := G2) rfl).1 (m_In rfl).2 k_874 s_In_hasHoleWithin q_In_hasHoleWithin (by decide) (Nat.le_of_ble_eq_true rfl) (by decide) d_In_faultOfRings_36 (fun z8 hc8 => ?_)
        have hw4 := hc8.2.trans (sWith_cong hK hF2 hed.1)
        refine g_if_eq ok 46 d_In_faultOfRings_39 (by decide) (by omega) (fun h9 => ?_) (fun h9 => ?_)
        · refine g_iconst ok d_In_faultOfRings_46 ?_
          exact g_iret ok d_In_faultOfRings_47 ⟨_, _, rfl, Or.inr ⟨fun q => absurd (hc1.2.mpr q) (by omega), _, hed, Or.inr ⟨hnc, by simp [fU]; exact hl7, by simp [fU]; exact hl8, Or.inr ⟨fun q => absurd (ho3.mpr q) (by omega), Or.inr ⟨rfl, fun q => absurd (hw4.mpr q) (by omega)⟩⟩⟩⟩, hed.1, fun a b q => by simp [fU, q]⟩
        · refine g_iconst ok d_In_faultOfRings_42 ?_
          refine g_goto ok 47 d_In_faultOfRings_43 (by decide) ?_
          exact g_iret ok d_In_faultOfRings_47 ⟨_, _, rfl, Or.inr ⟨fun q => absurd (hc1.2.mpr q) (by omega), _, hed, Or.inr ⟨hnc, by simp [fU]; exact hl7, by simp [fU]; exact hl8, Or.inr ⟨fun q => absurd (ho3.mpr q) (by omega), Or.inl ⟨rfl, hw4.mp (by omega)⟩⟩⟩⟩, hed.1, fun a b q => by simp [fU, q]⟩
      · refine g_iconst ok d_In_faultOfRings_32 ?_
        exact g_iret ok d_In_faultOfRings_33 ⟨_, _, rfl, Or.inr ⟨fun q => absurd (hc1.2.mpr q) (by omega), _, hed, Or.inr ⟨hnc, by simp [fU]; exact hl7, by simp [fU]; exact hl8, Or.inl ⟨rfl, ho3.mp (by omega)⟩⟩⟩, hed.1, fun a b q => by simp [fU, q]⟩
    · refine g_iconst ok d_In_faultOfRings_22 ?_
      obtain ⟨-, i, j, h1, h2, hF2, h3⟩ := hx.resolve_right (fun q => by omega)
      exact g_iret ok d_In_faultOfRings_23 ⟨_, _, rfl, Or.inr ⟨fun q => absurd (hc1.2.mpr q) (by omega), _, hed, Or.inl ⟨rfl, by rw [hF2]; simp [fU]; omega, by rw [hF2]; simp [fU]; exact h2, by rw [hF2]; simp [fU]; exact h3⟩⟩, hed.1, fun a b q => by rw [hF2]; simp [fU, q]⟩
  · refine g_iconst ok d_In_faultOfRings_8 ?_
    exact g_iret ok d_In_faultOfRings_9 ⟨_, _, rfl, Or.inl ⟨rfl, hc1.2.mp (by omega), hl7, hl8⟩, fun _ _ => rfl, fun _ _ _ => rfl⟩
theorem d_In_inspect_0 : decode b_In_inspect 0 = .ok (.aload_n 0, 1) := by decide +kernel
theorem d_In_inspect_1 : decode b_In_inspect 1 = .ok (.iconst (-1), 1) := by decide +kernel
theorem d_In_inspect_2 : decode b_In_inspect 2 = .ok (.putfield 27, 3) := by decide +kernel
theorem d_In_inspect_5 : decode b_In_inspect 5 = .ok (.aload_n 0, 1) := by decide +kernel
theorem d_In_inspect_6 : decode b_In_inspect 6 = .ok (.iconst (-1), 1) := by decide +kernel
theorem d_In_inspect_7 : decode b_In_inspect 7 = .ok (.putfield 31, 3) := by decide +kernel
theorem d_In_inspect_10 : decode b_In_inspect 10 = .ok (.aload_n 0, 1) := by decide +kernel
theorem d_In_inspect_11 : decode b_In_inspect 11 = .ok (.aload_n 1, 1) := by decide +kernel
theorem d_In_inspect_12 : decode b_In_inspect 12 = .ok (.getfield 34, 3) := by decide +kernel
theorem d_In_inspect_15 : decode b_In_inspect 15 = .ok (.iconst 1, 1) := by decide +kernel
theorem d_In_inspect_16 : decode b_In_inspect 16 = .ok (.if_icmp .ne 11, 3) := by decide +kernel
theorem d_In_inspect_19 : decode b_In_inspect 19 = .ok (.aload_n 0, 1) := by decide +kernel
theorem d_In_inspect_20 : decode b_In_inspect 20 = .ok (.aload_n 1, 1) := by decide +kernel
theorem d_In_inspect_21 : decode b_In_inspect 21 = .ok (.invokevirtual 39, 3) := by decide +kernel
theorem d_In_inspect_24 : decode b_In_inspect 24 = .ok (.goto 8, 3) := by decide +kernel
theorem d_In_inspect_27 : decode b_In_inspect 27 = .ok (.aload_n 0, 1) := by decide +kernel
theorem d_In_inspect_28 : decode b_In_inspect 28 = .ok (.aload_n 1, 1) := by decide +kernel
theorem d_In_inspect_29 : decode b_In_inspect 29 = .ok (.invokevirtual 43, 3) := by decide +kernel
theorem d_In_inspect_32 : decode b_In_inspect 32 = .ok (.putfield 46, 3) := by decide +kernel
theorem d_In_inspect_35 : decode b_In_inspect 35 = .ok (.aload_n 0, 1) := by decide +kernel
theorem d_In_inspect_36 : decode b_In_inspect 36 = .ok (.getfield 46, 3) := by decide +kernel
theorem d_In_inspect_39 : decode b_In_inspect 39 = .ok (.ireturn, 1) := by decide +kernel
set_option maxHeartbeats 4000000 in
set_option maxRecDepth 100000 in
theorem c_In_inspect (F : Nat → Nat → Int) (G : Nat → Int → Int) (k : Nat) (hK : isSh k) (hf : 0 ≤ F k 4 ∧ F k 4 ≤ 2) (hRs : sRg F G k) (h24 : ¬ F k 4 = 1 → ∀ q : Nat, q < 4 → F (k + 3 + 3 * q) 2 ≤ 24) (hL0 : 0 ≤ F (k + 15) 2 ∧ F (k + 15) 2 ≤ 16) (hL1 : 0 ≤ F (k + 18) 2 ∧ F (k + 18) 2 ≤ 16) : cI y_In_inspect b_In_inspect 2 (some .int) 6 132 F G (fun ad => [.ref (ad 224), .ref (ad k)]) (fun z F' G' => (∀ a b, a ≠ 224 → F' a b = F a b) ∧ gFr G G' ∧ F' 224 6 = z ∧ (if F k 4 = 1 then z = (if F (k + 15) 2 < 2 ∨ ¬ F (k + 15) 2 = F (k + 18) 2 then 1 else 0) ∧ F' 224 7 = -1 ∧ F' 224 8 = -1 else sFault F G k z (F' 224 7) (F' 224 8))) := by
  have hkk := hK
  unfold isSh at hkk
  have hF2 : ∀ a, (fU (fU F 224 7 (-1)) 224 8 (-1)) a 2 = F a 2 := fun a => by rw [fU_ja (by decide), fU_ja (by decide)]
  intro s0 a0 D t ad
  refine g_startI (by decide +kernel) (Nat.le_of_ble_eq_true rfl) (fun p l e R s m args below meth c A ok => ?_)
  show gW p l e R s m args below meth c _ D A 2 (gZ0 s) 0 0 ad 265 (mem ad t F G) 0 [(0, .ref (ad 224)), (1, .ref (ad k))] []
  refine g_aload_n ok d_In_inspect_0 rfl 0 rfl ?_
  refine g_iconst ok d_In_inspect_1 ?_
  refine pI_In_lesser ok _ rfl k_162 d_In_inspect_2 ?_
  refine g_aload_n ok d_In_inspect_5 rfl 0 rfl ?_
  refine g_iconst ok d_In_inspect_6 ?_
  refine pI_In_other ok _ rfl k_164 d_In_inspect_7 ?_
  refine g_aload_n ok d_In_inspect_10 rfl 0 rfl ?_
  refine g_aload_n ok d_In_inspect_11 rfl 1 rfl ?_
  refine gN_Sh_fill ok _ hK k_100 d_In_inspect_12 ?_
  refine g_top (y := F k 4) (by show (fU (fU F 224 7 (-1)) 224 8 (-1)) k 4 = _; rw [fU_ja (show (4 : Nat) ≠ 8 by decide), fU_ja (show (4 : Nat) ≠ 7 by decide)]) ?_
  refine g_iconst ok d_In_inspect_15 ?_
  refine g_icmp_ne ok 27 d_In_inspect_16 (by decide) (by omega) (by omega) (fun h1 => ?_) (fun h1 => ?_)
  · refine g_aload_n ok d_In_inspect_27 rfl 0 rfl ?_
    refine g_aload_n ok d_In_inspect_28 rfl 1 rfl ?_
    refine g_callIV (As := [.ref (ad k)]) (st := [.ref (ad 224)]) ok _ (c_In_faultOfRings (fU (fU F 224 7 (-1)) 224 8 (-1)) G _ hK (sRg_cong hK hF2 (fun _ _ => rfl) hRs) (fun q hq => by rw [hF2]; exact h24 (by omega) q hq) (by simp [fU]) (by simp [fU]) s0 a0 D t ad) k_825 k_5 k_822 cl_In (m_In (ad := ad) (t := t) (F := (fU (fU F 224 7 (-1)) 224 8 (-1))) (G := G) rfl).1 (m_In rfl).2 k_824 s_In_faultOfRings q_In_faultOfRings (by decide) (Nat.le_of_ble_eq_true rfl) (by decide) d_In_inspect_29 (fun zf ce1 hc2 => ?_)
    obtain ⟨F2, G2, rfl, hx, hfr, hff⟩ := hc2
    rw [sFault_cong hF2] at hx
    refine pI_In_found ok _ rfl k_160 d_In_inspect_32 ?_
    refine g_aload_n ok d_In_inspect_35 rfl 0 rfl ?_
    refine gI_In_found ok _ rfl k_160 d_In_inspect_36 ?_
    refine g_top (y := zf) (by show (fU F2 224 6 zf) 224 6 = _; rw [fU_hit]) ?_
    exact g_iret ok d_In_inspect_39 ⟨_, _, rfl, fun a b q => by rw [fU_ka q, hff a b q, fU_ka q, fU_ka q], hfr, by simp [fU], by rw [if_neg (by omega)]; simpa [fU] using hx⟩
  · refine g_aload_n ok d_In_inspect_19 rfl 0 rfl ?_
    refine g_aload_n ok d_In_inspect_20 rfl 1 rfl ?_
    refine g_callPV (As := [.ref (ad k)]) (st := [.ref (ad 224)]) ok _ (c_In_faultOfRails (fU (fU F 224 7 (-1)) 224 8 (-1)) G _ hK (by rw [fU_ja (by decide), fU_ja (by decide)]; exact hL0) (by rw [fU_ja (by decide), fU_ja (by decide)]; exact hL1) s0 a0 D t ad) k_821 k_5 k_818 cl_In (m_In (ad := ad) (t := t) (F := (fU (fU F 224 7 (-1)) 224 8 (-1))) (G := G) rfl).1 (m_In rfl).2 k_820 s_In_faultOfRails q_In_faultOfRails (by decide) (Nat.le_of_ble_eq_true rfl) (by decide) d_In_inspect_21 (fun z3 hc3 => ?_)
    have hz : z3 = (if F (k + 15) 2 < 2 ∨ ¬ F (k + 15) 2 = F (k + 18) 2 then 1 else 0) := by rw [hc3]; simp only [fU_ja (show (2 : Nat) ≠ 8 by decide), fU_ja (show (2 : Nat) ≠ 7 by decide)]; rfl
    refine g_goto ok 32 d_In_inspect_24 (by decide) ?_
    refine pI_In_found ok _ rfl k_160 d_In_inspect_32 ?_
    refine g_aload_n ok d_In_inspect_35 rfl 0 rfl ?_
    refine gI_In_found ok _ rfl k_160 d_In_inspect_36 ?_
    refine g_top (y := z3) (by show (fU (fU (fU F 224 7 (-1)) 224 8 (-1)) 224 6 z3) 224 6 = _; rw [fU_hit]) ?_
    exact g_iret ok d_In_inspect_39 ⟨_, _, rfl, fun a b q => by simp [fU, q], fun _ _ => rfl, by simp [fU], by rw [if_pos (by omega)]; exact ⟨hz, by simp [fU], by simp [fU]⟩⟩
