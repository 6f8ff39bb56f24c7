/-! the desk's end -/
/-- an open shape: what has been told of it -/
def opOk (F : Nat → Nat → Int) (G : Nat → Int → Int) (k : Nat) : Prop := bgOk (F k 3) (F k 4) (F k 5) (F k 6) ∧ sRg F G k ∧ (∀ q : Nat, q < 4 → F (k + 3 + 3 * q) 2 ≤ 24) ∧ rIn F G (k + 15) ∧ rIn F G (k + 18) ∧ (F k 4 = 1 → F (k + 3) 2 = 0 ∧ F (k + 6) 2 = 0 ∧ F (k + 9) 2 = 0 ∧ F (k + 12) 2 = 0) ∧ (F (k + 21) 0 = 0 ∧ F (k + 21) 1 = 0)
theorem opOk_cong {F F1 : Nat → Nat → Int} {G G1 : Nat → Int → Int} {k : Nat} (h : opOk F G k) (hF : ∀ a b, k ≤ a → a ≤ k + 21 → F1 a b = F a b) (hG : ∀ a, k ≤ a → a ≤ k + 21 → G1 a = G a) : opOk F1 G1 k := by
  obtain ⟨h1, h2, h3, h4, h5, h6, h7⟩ := h
  refine ⟨?_, fun q hq => ?_, fun q hq => ?_, ?_, ?_, ?_, ?_⟩
  · rw [hF k 3 (by omega) (by omega), hF k 4 (by omega) (by omega), hF k 5 (by omega) (by omega), hF k 6 (by omega) (by omega)]
    exact h1
  · have z := h2 q hq
    unfold rIn at z ⊢
    rw [hF _ _ (by omega) (by omega), hG _ (by omega) (by omega), hG _ (by omega) (by omega)]
    exact z
  · rw [hF _ _ (by omega) (by omega)]
    exact h3 q hq
  · unfold rIn at h4 ⊢
    rw [hF _ _ (by omega) (by omega), hG _ (by omega) (by omega), hG _ (by omega) (by omega)]
    exact h4
  · unfold rIn at h5 ⊢
    rw [hF _ _ (by omega) (by omega), hG _ (by omega) (by omega), hG _ (by omega) (by omega)]
    exact h5
  · rw [hF k 4 (by omega) (by omega), hF (k + 3) 2 (by omega) (by omega), hF (k + 6) 2 (by omega) (by omega), hF (k + 9) 2 (by omega) (by omega), hF (k + 12) 2 (by omega) (by omega)]
    exact h6
  · rw [hF (k + 21) 0 (by omega) (by omega), hF (k + 21) 1 (by omega) (by omega)]
    exact h7
theorem op_rail {F : Nat → Nat → Int} {G : Nat → Int → Int} {k : Nat} (hK : isSh k) (h : opOk F G k) : (0 ≤ F (k + 15) 2 ∧ F (k + 15) 2 ≤ 16) ∧ (0 ≤ F (k + 18) 2 ∧ F (k + 18) 2 ≤ 16) := by
  have a := h.2.2.2.1.1
  have b := h.2.2.2.2.1.1
  rw [rmB hK] at a
  rw [rmC hK] at b
  omega
/-- a finished shape -/
def fnC (F : Nat → Nat → Int) (G : Nat → Int → Int) (k : Nat) (F3 : Nat → Nat → Int) (G3 : Nat → Int → Int) : Prop := ∃ Fm, ((¬ F k 4 = 1 ∧ Fm = F ∧ G3 = G) ∨ (F k 4 = 1 ∧ Fm = fU F (k + 3) 2 (F (k + 15) 2 + F (k + 18) 2) ∧ jnd G G3 k (F (k + 15) 2) (F (k + 18) 2) (F (k + 15) 2) (F (k + 18) 2))) ∧ sRg Fm G3 k ∧ sBx4 Fm F3 G3 k
theorem fn_fr {F F3 : Nat → Nat → Int} {G G3 : Nat → Int → Int} {k : Nat} (h : fnC F G k F3 G3) : (∀ a b, ¬ (a = k ∧ 7 ≤ b ∧ b ≤ 10) → ¬ (a = k + 3 ∧ b = 2) → F3 a b = F a b) ∧ (∀ a, a ≠ k + 4 → a ≠ k + 5 → G3 a = G a) := by
  obtain ⟨Fm, h1, -, lf, tp, rt, bt, h3, -⟩ := h
  have e : ∀ a b, ¬ (a = k ∧ 7 ≤ b ∧ b ≤ 10) → F3 a b = Fm a b := fun a b z => by
    rw [h3]
    unfold fU
    rw [if_neg (by omega), if_neg (by omega), if_neg (by omega), if_neg (by omega)]
  rcases h1 with ⟨-, a1, a2⟩ | ⟨-, a1, a2⟩
  · rw [a2]
    exact ⟨fun a b z1 _ => by rw [e a b z1, a1], fun _ _ _ => rfl⟩
  · refine ⟨fun a b z1 z2 => ?_, fun a z1 z2 => a2.1 a z1 z2⟩
    rw [e a b z1, a1]
    unfold fU
    rw [if_neg z2]
theorem fn_tl {F F3 : Nat → Nat → Int} {G G3 : Nat → Int → Int} {k : Nat} (hK : isSh k) (ho : opOk F G k) (hn : F k 4 = 1 → 2 ≤ F (k + 15) 2 ∧ F (k + 18) 2 = F (k + 15) 2) (h : fnC F G k F3 G3) : tlOk F3 G3 k := by
  have hfr := fn_fr h
  obtain ⟨Fm, h1, h2, lf, tp, rt, bt, h3, h4, -⟩ := h
  have hr := op_rail hK ho
  have hb := ho.1
  unfold bgOk at hb
  have e : ∀ a b, ¬ (a = k ∧ 7 ≤ b ∧ b ≤ 10) → F3 a b = Fm a b := fun a b z => by
    rw [h3]
    unfold fU
    rw [if_neg (by omega), if_neg (by omega), if_neg (by omega), if_neg (by omega)]
  refine ⟨⟨hK, fun q hq => ?_, ?_, ?_, ?_, ?_⟩, fun z q hq => ?_, fun z => ?_⟩
  · have z := h2 q hq
    unfold rIn at z ⊢
    rw [e _ _ (by omega)]
    exact z
  · rw [h3]
    rw [fU_ja (by decide), fU_ja (by decide), fU_ja (by decide), fU_hit, fU_ja (by decide), fU_ja (by decide), fU_hit, fU_ja (by decide), fU_hit, fU_hit]
    exact h4
  · rw [hfr.1 k 3 (by omega) (by omega), hfr.1 k 4 (by omega) (by omega), hfr.1 k 5 (by omega) (by omega), hfr.1 k 6 (by omega) (by omega)]
    exact hb
  · have z := ho.2.2.2.1
    unfold rIn at z ⊢
    rw [hfr.1 (k + 15) 2 (by omega) (by omega), hfr.2 (k + 15 + 1) (by omega) (by omega), hfr.2 (k + 15 + 2) (by omega) (by omega)]
    exact z
  · have z := ho.2.2.2.2.1
    unfold rIn at z ⊢
    rw [hfr.1 (k + 18) 2 (by omega) (by omega), hfr.2 (k + 18 + 1) (by omega) (by omega), hfr.2 (k + 18 + 2) (by omega) (by omega)]
    exact z
  · rw [hfr.1 k 4 (by omega) (by omega)] at z
    rcases h1 with ⟨-, a1, -⟩ | ⟨a0, -, -⟩
    · rw [e _ _ (by omega), a1]
      exact ho.2.2.1 q hq
    · omega
  · rw [hfr.1 k 4 (by omega) (by omega)] at z
    rw [hfr.1 (k + 15) 2 (by omega) (by omega), hfr.1 (k + 18) 2 (by omega) (by omega)]
    have y := hn z
    omega
theorem sFault_rng {F : Nat → Nat → Int} {G : Nat → Int → Int} {k : Nat} {z a b : Int} (h : sFault F G k z a b) : 0 ≤ z ∧ z ≤ 4 := by
  unfold sFault at h
  rcases h with h | ⟨-, G1, -, h⟩
  · have := h.1
    omega
  · rcases h with h | ⟨-, h⟩
    · have := h.1
      omega
    · omega
theorem d_Dk_end_0 : decode b_Dk_end 0 = .ok (.aload_n 0, 1) := by decide +kernel
theorem d_Dk_end_1 : decode b_Dk_end 1 = .ok (.getfield 56, 3) := by decide +kernel
theorem d_Dk_end_4 : decode b_Dk_end 4 = .ok (.ifCond .ne 13, 3) := by decide +kernel
theorem d_Dk_end_7 : decode b_Dk_end 7 = .ok (.new 60, 3) := by decide +kernel
theorem d_Dk_end_10 : decode b_Dk_end 10 = .ok (.dup, 1) := by decide +kernel
theorem d_Dk_end_11 : decode b_Dk_end 11 = .ok (.ldc 123, 2) := by decide +kernel
theorem d_Dk_end_13 : decode b_Dk_end 13 = .ok (.invokespecial 64, 3) := by decide +kernel
theorem d_Dk_end_16 : decode b_Dk_end 16 = .ok (.athrow, 1) := by decide +kernel
theorem d_Dk_end_17 : decode b_Dk_end 17 = .ok (.aload_n 0, 1) := by decide +kernel
theorem d_Dk_end_18 : decode b_Dk_end 18 = .ok (.iconst 0, 1) := by decide +kernel
theorem d_Dk_end_19 : decode b_Dk_end 19 = .ok (.putfield 56, 3) := by decide +kernel
theorem d_Dk_end_22 : decode b_Dk_end 22 = .ok (.aload_n 0, 1) := by decide +kernel
theorem d_Dk_end_23 : decode b_Dk_end 23 = .ok (.getfield 11, 3) := by decide +kernel
theorem d_Dk_end_26 : decode b_Dk_end 26 = .ok (.aload_n 0, 1) := by decide +kernel
theorem d_Dk_end_27 : decode b_Dk_end 27 = .ok (.getfield 67, 3) := by decide +kernel
theorem d_Dk_end_30 : decode b_Dk_end 30 = .ok (.aaload, 1) := by decide +kernel
theorem d_Dk_end_31 : decode b_Dk_end 31 = .ok (.astore_n 1, 1) := by decide +kernel
theorem d_Dk_end_32 : decode b_Dk_end 32 = .ok (.aload_n 0, 1) := by decide +kernel
theorem d_Dk_end_33 : decode b_Dk_end 33 = .ok (.getfield 26, 3) := by decide +kernel
theorem d_Dk_end_36 : decode b_Dk_end 36 = .ok (.aload_n 1, 1) := by decide +kernel
theorem d_Dk_end_37 : decode b_Dk_end 37 = .ok (.invokevirtual 125, 3) := by decide +kernel
theorem d_Dk_end_40 : decode b_Dk_end 40 = .ok (.istore_n 2, 1) := by decide +kernel
theorem d_Dk_end_41 : decode b_Dk_end 41 = .ok (.iload_n 2, 1) := by decide +kernel
theorem d_Dk_end_42 : decode b_Dk_end 42 = .ok (.ifCond .ne 42, 3) := by decide +kernel
theorem d_Dk_end_45 : decode b_Dk_end 45 = .ok (.aload_n 1, 1) := by decide +kernel
theorem d_Dk_end_46 : decode b_Dk_end 46 = .ok (.invokevirtual 129, 3) := by decide +kernel
theorem d_Dk_end_49 : decode b_Dk_end 49 = .ok (.aload_n 0, 1) := by decide +kernel
theorem d_Dk_end_50 : decode b_Dk_end 50 = .ok (.getfield 33, 3) := by decide +kernel
theorem d_Dk_end_53 : decode b_Dk_end 53 = .ok (.aload_n 1, 1) := by decide +kernel
theorem d_Dk_end_54 : decode b_Dk_end 54 = .ok (.aload_n 1, 1) := by decide +kernel
theorem d_Dk_end_55 : decode b_Dk_end 55 = .ok (.getfield 132, 3) := by decide +kernel
theorem d_Dk_end_58 : decode b_Dk_end 58 = .ok (.invokevirtual 136, 3) := by decide +kernel
theorem d_Dk_end_61 : decode b_Dk_end 61 = .ok (.aload_n 0, 1) := by decide +kernel
theorem d_Dk_end_62 : decode b_Dk_end 62 = .ok (.getfield 16, 3) := by decide +kernel
theorem d_Dk_end_65 : decode b_Dk_end 65 = .ok (.aload_n 0, 1) := by decide +kernel
theorem d_Dk_end_66 : decode b_Dk_end 66 = .ok (.getfield 67, 3) := by decide +kernel
theorem d_Dk_end_69 : decode b_Dk_end 69 = .ok (.aload_n 0, 1) := by decide +kernel
theorem d_Dk_end_70 : decode b_Dk_end 70 = .ok (.getfield 67, 3) := by decide +kernel
theorem d_Dk_end_73 : decode b_Dk_end 73 = .ok (.iastore, 1) := by decide +kernel
theorem d_Dk_end_74 : decode b_Dk_end 74 = .ok (.aload_n 0, 1) := by decide +kernel
theorem d_Dk_end_75 : decode b_Dk_end 75 = .ok (.dup, 1) := by decide +kernel
theorem d_Dk_end_76 : decode b_Dk_end 76 = .ok (.getfield 67, 3) := by decide +kernel
theorem d_Dk_end_79 : decode b_Dk_end 79 = .ok (.iconst 1, 1) := by decide +kernel
theorem d_Dk_end_80 : decode b_Dk_end 80 = .ok (.iadd, 1) := by decide +kernel
theorem d_Dk_end_81 : decode b_Dk_end 81 = .ok (.putfield 67, 3) := by decide +kernel
theorem d_Dk_end_84 : decode b_Dk_end 84 = .ok (.iload_n 2, 1) := by decide +kernel
theorem d_Dk_end_85 : decode b_Dk_end 85 = .ok (.ireturn, 1) := by decide +kernel
set_option maxHeartbeats 1000000 in
set_option maxRecDepth 100000 in
theorem c_Dk_end (F : Nat → Nat → Int) (G : Nat → Int → Int) (k : Nat) (ht : 0 ≤ F 0 8 ∧ F 0 8 < 10) (hk : k = 2 + 22 * (F 0 8).toNat) (ho : F 0 10 = 1) (hop : opOk F G k) : cI y_Dk_end b_Dk_end 3 (some .int) 7 170 F G (fun ad => [.ref (ad 0)]) (fun z F' G' => ∃ F2 G2, (∀ a b, a ≠ 224 → F2 a b = fU F 0 10 0 a b) ∧ gFr G G2 ∧ F2 224 6 = z ∧ (if fU F 0 10 0 k 4 = 1 then z = (if fU F 0 10 0 (k + 15) 2 < 2 ∨ ¬ fU F 0 10 0 (k + 15) 2 = fU F 0 10 0 (k + 18) 2 then 1 else 0) ∧ F2 224 7 = -1 ∧ F2 224 8 = -1 else sFault (fU F 0 10 0) G k z (F2 224 7) (F2 224 8)) ∧ ((z ≠ 0 ∧ F' = F2 ∧ G' = G2) ∨ (z = 0 ∧ ∃ F3 G3 F4 G4, fnC F2 G2 k F3 G3 ∧ tlOk F3 G3 k ∧ tkR (k + 21) k F3 G3 (0, 0, -1, []) F4 G4 (runsC F3 G3 k) false ∧ F' = fU F4 0 8 (F 0 8 + 1) ∧ G' = gU G4 222 (F 0 8) (F 0 8)))) := by
  have hK : isSh k := hk ▸ sh_at ht
  have hkk := hK
  unfold isSh at hkk
  intro s0 a0 D t ad
  refine g_startI (by decide +kernel) (Nat.le_of_ble_eq_true rfl) (fun p l e R s m args below meth c A ok => ?_)
  show gW p l e R s m args below meth c _ D A 3 (gZ0 s) 0 0 ad 265 (mem ad t F G) 0 [(0, .ref (ad 0))] []
  refine g_aload_n ok d_Dk_end_0 rfl 0 rfl ?_
  refine gI_Dk_open ok _ rfl k_327 d_Dk_end_1 ?_
  refine g_if_ne ok 17 d_Dk_end_4 (by decide) (by omega) (fun h1 => ?_) (fun h1 => ?_)
  · refine g_aload_n ok d_Dk_end_17 rfl 0 rfl ?_
    refine g_iconst ok d_Dk_end_18 ?_
    refine pI_Dk_open ok _ rfl k_327 (by first | exact Or.inl rfl | exact Or.inr rfl | omega) d_Dk_end_19 ?_
    refine g_aload_n ok d_Dk_end_22 rfl 0 rfl ?_
    refine gI_Dk_shapes ok _ rfl k_317 d_Dk_end_23 ?_
    refine g_aload_n ok d_Dk_end_26 rfl 0 rfl ?_
    refine gI_Dk_shapeTotal ok _ rfl k_325 d_Dk_end_27 ?_
    refine g_top (y := F 0 8) (by show (fU F 0 10 0) 0 8 = _; rw [fU_ja (show (8 : Nat) ≠ 10 by decide)]) ?_
    refine h_shapes ok (by omega) d_Dk_end_30 ?_
    refine g_tv (y := .ref (ad k)) (by rw [hk]) ?_
    refine g_astore_n (lv' := [(1, .ref (ad k)), (0, .ref (ad 0))]) ok d_Dk_end_31 rfl (by decide) rfl ?_
    refine g_aload_n ok d_Dk_end_32 rfl 1 rfl ?_
    refine gI_Dk_inspector ok _ rfl k_320 d_Dk_end_33 ?_
    refine g_aload_n ok d_Dk_end_36 rfl 0 rfl ?_
    have ho1 : opOk (fU F 0 10 0) G k := opOk_cong hop (fun a b z1 z2 => fU_ka (by omega)) (fun _ _ _ => rfl)
    have hrl := op_rail hK ho1
    refine g_callIVN (As := [.ref (ad k)]) (st := []) ok _ (c_In_inspect (fU F 0 10 0) G _ hK ho1.1.2.1 ho1.2.1 (fun _ => ho1.2.2.1) hrl.1 hrl.2 s0 a0 D t ad) k_817 k_5 k_814 cl_In (m_In (ad := ad) (t := t) (F := (fU F 0 10 0)) (G := G) rfl).1 (m_In rfl).2 k_816 s_In_inspect q_In_inspect (by decide) (Nat.le_of_ble_eq_true rfl) (by decide) d_Dk_end_37 (fun zi ce1 hc2 => ?_)
    obtain ⟨F2, G2, rfl, hf2, hg2, h26, hfa⟩ := hc2
    have ho2 : opOk F2 G2 k := opOk_cong ho1 (fun a b z1 z2 => hf2 a b (by omega)) (fun a z1 z2 => hg2 a (by omega))
    have hzr : 0 ≤ zi ∧ zi ≤ 4 := by split at hfa; have z := hfa.1; split at z <;> omega; exact sFault_rng hfa
    refine g_istore_n (lv' := [(2, .int (iI zi)), (1, .ref (ad k)), (0, .ref (ad 0))]) ok d_Dk_end_40 rfl (by decide) rfl ?_
    refine g_iload_n ok d_Dk_end_41 rfl 0 rfl ?_
    refine g_if_ne ok 84 d_Dk_end_42 (by decide) (by omega) (fun h3 => ?_) (fun h3 => ?_)
    · refine g_iload_n ok d_Dk_end_84 rfl 0 rfl ?_
      exact g_iret ok d_Dk_end_85 ⟨_, _, rfl, F2, G2, hf2, hg2, h26, hfa, Or.inl ⟨by omega, rfl, rfl⟩⟩
    · refine g_aload_n ok d_Dk_end_45 rfl 1 rfl ?_
      refine g_callVVN (As := []) (st := []) ok _ (c_Sh_finish F2 G2 _ hK ho2.1.2.1 ho2.2.1 ho2.2.2.2.1 ho2.2.2.2.2.1 (fun z => (ho2.2.2.2.2.2.1 z).1) s0 a0 D t ad) k_879 k_2 k_876 cl_Sh (m_Sh (ad := ad) (t := t) (F := F2) (G := G2) hK).1 (m_Sh hK).2 k_878 s_Sh_finish q_Sh_finish (by decide) (Nat.le_of_ble_eq_true rfl) (by decide) d_Dk_end_46 (fun ce1 hc4 => ?_)
      obtain ⟨F3, G3, rfl, hfn⟩ := hc4
      have hfn2 : fnC F2 G2 k F3 G3 := hfn
      have hfr := fn_fr hfn2
      have hn2 : F2 k 4 = 1 → 2 ≤ F2 (k + 15) 2 ∧ F2 (k + 18) 2 = F2 (k + 15) 2 := fun z => by rw [hf2 k 4 (by omega)] at z; rw [if_pos z] at hfa; rw [hf2 (k + 15) 2 (by omega), hf2 (k + 18) 2 (by omega)]; have y := hfa.1; split at y <;> omega
      have hT3 : tlOk F3 G3 k := fn_tl hK ho2 hn2 hfn2
      have hA3 : tkAt (k + 21) k F3 G3 := ⟨hT3.1, Or.inl rfl⟩
      have hR0 : tkR (k + 21) k F3 G3 (0, 0, -1, []) F3 G3 [] false := ⟨fun z => by omega, fun _ => ⟨by show F3 (k + 21) 0 = F3 (k + 21) 0 + 0 + 0; omega, by show F3 (k + 21) 1 = F3 (k + 21) 1 + 0; omega⟩, fun _ _ _ _ _ => rfl, fun _ _ _ => rfl⟩
      refine g_aload_n ok d_Dk_end_49 rfl 2 rfl ?_
      refine gI_Dk_teller ok _ rfl k_321 d_Dk_end_50 ?_
      refine g_aload_n ok d_Dk_end_53 rfl 1 rfl ?_
      refine g_aload_n ok d_Dk_end_54 rfl 1 rfl ?_
      refine gN_Sh_tally ok _ hK k_93 d_Dk_end_55 ?_
      refine g_callVVN (As := [.ref (ad k), .ref (ad (k + 21))]) (st := []) ok _ (c_Rt_tell F3 G3 (k + 21) k (0, 0, -1, []) false hA3 hR0 (fun _ => rfl) hT3.2.1 hT3.2.2 s0 a0 D t ad) k_378 k_6 k_375 cl_Rt (m_Rt (ad := ad) (t := t) (F := F3) (G := G3) rfl).1 (m_Rt rfl).2 k_377 s_Rt_tell q_Rt_tell (by decide) (Nat.le_of_ble_eq_true rfl) (by decide) d_Dk_end_58 (fun ce1 hc5 => ?_)
      obtain ⟨F4, G4, rfl, p1, hp1, hR4⟩ := hc5
      have e08 : F4 0 8 = F 0 8 := (hR4.2.2.1 0 8 (by decide) (fun z => by omega) (fun _ => by omega)).trans ((hfr.1 0 8 (by omega) (by omega)).trans ((hf2 0 8 (by decide)).trans (fU_ja (by decide))))
      rw [hp1 (by omega)] at hR4
      refine g_aload_n ok d_Dk_end_61 rfl 2 rfl ?_
      refine gI_Dk_sequence ok _ rfl k_318 d_Dk_end_62 ?_
      refine g_aload_n ok d_Dk_end_65 rfl 2 rfl ?_
      refine gI_Dk_shapeTotal ok _ rfl k_325 d_Dk_end_66 ?_
      refine g_top (y := F 0 8) (by show F4 0 8 = _; rw [e08]) ?_
      refine g_aload_n ok d_Dk_end_69 rfl 2 rfl ?_
      refine gI_Dk_shapeTotal ok _ rfl k_325 d_Dk_end_70 ?_
      refine g_top (y := F 0 8) (by show F4 0 8 = _; rw [e08]) ?_
      refine h_iast ok _ a_222 (by omega) d_Dk_end_73 ?_
      refine g_aload_n ok d_Dk_end_74 rfl 2 rfl ?_
      refine g_dup ok d_Dk_end_75 rfl ?_
      refine gI_Dk_shapeTotal ok _ rfl k_325 d_Dk_end_76 ?_
      refine g_top (y := F 0 8) (by show F4 0 8 = _; rw [e08]) ?_
      refine g_iconst ok d_Dk_end_79 ?_
      refine g_iadd ok d_Dk_end_80 ?_
      refine pI_Dk_shapeTotal ok _ rfl k_325 d_Dk_end_81 ?_
      refine g_iload_n ok d_Dk_end_84 rfl 0 rfl ?_
      exact g_iret ok d_Dk_end_85 ⟨_, _, rfl, F2, G2, hf2, hg2, h26, hfa, Or.inr ⟨by omega, F3, G3, F4, G4, hfn2, hT3, hR4, rfl, rfl⟩⟩
  · exact absurd h1 (by omega)
