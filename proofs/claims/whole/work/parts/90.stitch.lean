/-! stitch and shape of the reference -/
noncomputable def rnR (G : Nat → Int → Int) (sn : Int) : List Ev := runsM (hasR G sn) G sn
noncomputable def stM (G : Nat → Int → Int) : Nat → PS
  | 0 => (0, 0, -1, [])
  | k + 1 => (runF (hasR G (G 250 (k : Int))) (G 245 (4 * G 250 (k : Int))) (rnR G (G 250 (k : Int))) (stM G k)).1
theorem stM_step {G : Nat → Int → Int} {k : Int} (h : 0 ≤ k) : stM G (k + 1).toNat = (runF (hasR G (G 250 k)) (G 245 (4 * G 250 k)) (rnR G (G 250 k)) (stM G k.toNat)).1 := by
  rw [show (k + 1).toNat = k.toNat + 1 by omega]
  show (runF (hasR G (G 250 ((k.toNat : Nat) : Int))) (G 245 (4 * G 250 ((k.toNat : Nat) : Int))) (rnR G (G 250 ((k.toNat : Nat) : Int))) (stM G k.toNat)).1 = _
  rw [show ((k.toNat : Nat) : Int) = k by omega]
theorem ro_rw {G G1 Ge : Nat → Int → Int} {sn : Int} (hca : ∀ a, a ≤ 250 → G1 a = G a) (hE : mEdges G1 sn Ge) : hasM Ge (oM G1 sn 4) = hasR G sn ∧ runsM (hasM Ge (oM G1 sn 4)) G1 sn = rnR G sn := by
  have e : hasM Ge (oM G1 sn 4) = hasR G sn := by
    rw [hasR_eq (G := G1) hE.2, hasR_up hca]
  refine ⟨e, ?_⟩
  rw [e, runsM_cong hca]
  rfl
theorem d_Mo_stitch_0 : decode b_Mo_stitch 0 = .ok (.aload_n 0, 1) := by decide +kernel
theorem d_Mo_stitch_1 : decode b_Mo_stitch 1 = .ok (.iconst 0, 1) := by decide +kernel
theorem d_Mo_stitch_2 : decode b_Mo_stitch 2 = .ok (.putfield 7, 3) := by decide +kernel
theorem d_Mo_stitch_5 : decode b_Mo_stitch 5 = .ok (.aload_n 0, 1) := by decide +kernel
theorem d_Mo_stitch_6 : decode b_Mo_stitch 6 = .ok (.iconst 0, 1) := by decide +kernel
theorem d_Mo_stitch_7 : decode b_Mo_stitch 7 = .ok (.putfield 73, 3) := by decide +kernel
theorem d_Mo_stitch_10 : decode b_Mo_stitch 10 = .ok (.aload_n 0, 1) := by decide +kernel
theorem d_Mo_stitch_11 : decode b_Mo_stitch 11 = .ok (.iconst 0, 1) := by decide +kernel
theorem d_Mo_stitch_12 : decode b_Mo_stitch 12 = .ok (.putfield 85, 3) := by decide +kernel
theorem d_Mo_stitch_15 : decode b_Mo_stitch 15 = .ok (.aload_n 0, 1) := by decide +kernel
theorem d_Mo_stitch_16 : decode b_Mo_stitch 16 = .ok (.iconst 0, 1) := by decide +kernel
theorem d_Mo_stitch_17 : decode b_Mo_stitch 17 = .ok (.putfield 88, 3) := by decide +kernel
theorem d_Mo_stitch_20 : decode b_Mo_stitch 20 = .ok (.aload_n 0, 1) := by decide +kernel
theorem d_Mo_stitch_21 : decode b_Mo_stitch 21 = .ok (.iconst (-1), 1) := by decide +kernel
theorem d_Mo_stitch_22 : decode b_Mo_stitch 22 = .ok (.putfield 100, 3) := by decide +kernel
theorem d_Mo_stitch_25 : decode b_Mo_stitch 25 = .ok (.iconst 0, 1) := by decide +kernel
theorem d_Mo_stitch_26 : decode b_Mo_stitch 26 = .ok (.istore_n 1, 1) := by decide +kernel
theorem d_Mo_stitch_27 : decode b_Mo_stitch 27 = .ok (.iload_n 1, 1) := by decide +kernel
theorem d_Mo_stitch_28 : decode b_Mo_stitch 28 = .ok (.aload_n 0, 1) := by decide +kernel
theorem d_Mo_stitch_29 : decode b_Mo_stitch 29 = .ok (.getfield 13, 3) := by decide +kernel
theorem d_Mo_stitch_32 : decode b_Mo_stitch 32 = .ok (.if_icmp .ge 20, 3) := by decide +kernel
theorem d_Mo_stitch_35 : decode b_Mo_stitch 35 = .ok (.aload_n 0, 1) := by decide +kernel
theorem d_Mo_stitch_36 : decode b_Mo_stitch 36 = .ok (.aload_n 0, 1) := by decide +kernel
theorem d_Mo_stitch_37 : decode b_Mo_stitch 37 = .ok (.getfield 36, 3) := by decide +kernel
theorem d_Mo_stitch_40 : decode b_Mo_stitch 40 = .ok (.iload_n 1, 1) := by decide +kernel
theorem d_Mo_stitch_41 : decode b_Mo_stitch 41 = .ok (.iaload, 1) := by decide +kernel
theorem d_Mo_stitch_42 : decode b_Mo_stitch 42 = .ok (.iconst 1, 1) := by decide +kernel
theorem d_Mo_stitch_43 : decode b_Mo_stitch 43 = .ok (.invokevirtual 230, 3) := by decide +kernel
theorem d_Mo_stitch_46 : decode b_Mo_stitch 46 = .ok (.iinc 1 1, 3) := by decide +kernel
theorem d_Mo_stitch_49 : decode b_Mo_stitch 49 = .ok (.goto (-22), 3) := by decide +kernel
theorem d_Mo_stitch_52 : decode b_Mo_stitch 52 = .ok (.aload_n 0, 1) := by decide +kernel
theorem d_Mo_stitch_53 : decode b_Mo_stitch 53 = .ok (.getfield 73, 3) := by decide +kernel
theorem d_Mo_stitch_56 : decode b_Mo_stitch 56 = .ok (.sipush 4000, 3) := by decide +kernel
theorem d_Mo_stitch_59 : decode b_Mo_stitch 59 = .ok (.if_icmp .le 10, 3) := by decide +kernel
theorem d_Mo_stitch_62 : decode b_Mo_stitch 62 = .ok (.aload_n 0, 1) := by decide +kernel
theorem d_Mo_stitch_63 : decode b_Mo_stitch 63 = .ok (.iconst 0, 1) := by decide +kernel
theorem d_Mo_stitch_64 : decode b_Mo_stitch 64 = .ok (.putfield 73, 3) := by decide +kernel
theorem d_Mo_stitch_67 : decode b_Mo_stitch 67 = .ok (.iconst (-1), 1) := by decide +kernel
theorem d_Mo_stitch_68 : decode b_Mo_stitch 68 = .ok (.ireturn, 1) := by decide +kernel
theorem d_Mo_stitch_69 : decode b_Mo_stitch 69 = .ok (.aload_n 0, 1) := by decide +kernel
theorem d_Mo_stitch_70 : decode b_Mo_stitch 70 = .ok (.getfield 73, 3) := by decide +kernel
theorem d_Mo_stitch_73 : decode b_Mo_stitch 73 = .ok (.ireturn, 1) := by decide +kernel
set_option maxHeartbeats 1000000 in
set_option maxRecDepth 100000 in
theorem c_Mo_stitch (F : Nat → Nat → Int) (G : Nat → Int → Int) (hn : 0 ≤ F 244 1 ∧ F 244 1 ≤ 10) (hSh : ∀ k : Int, 0 ≤ k → k < F 244 1 → mSh G (G 250 k)) : cI y_Mo_stitch b_Mo_stitch 2 (some .int) 8 198 F G (fun ad => [.ref (ad 244)]) (fun z F' G' => F' 244 0 = 0 ∧ ((∀ a b, ¬ (a = 244 ∧ (b = 0 ∨ b = 12 ∨ b = 20 ∨ (24 ≤ b ∧ b ≤ 29))) → F' a b = F a b) ∧ (∀ a, ¬ (251 ≤ a ∧ a ≤ 260) → G' a = G a)) ∧ ((4000 < ((stM G (F 244 1).toNat).2.2.2).length ∧ z = -1 ∧ F' 244 20 = 0) ∨ (¬ 4000 < ((stM G (F 244 1).toNat).2.2.2).length ∧ z = (((stM G (F 244 1).toNat).2.2.2).length : Int) ∧ recR F' G' ((stM G (F 244 1).toNat).2.2.2)))) := by
  intro s0 a0 D t ad
  refine g_startI (by decide +kernel) (Nat.le_of_ble_eq_true rfl) (fun p l e R s m args below meth c A ok => ?_)
  show gW p l e R s m args below meth c _ D A 2 (gZ0 s) 0 0 ad 265 (mem ad t F G) 0 [(0, .ref (ad 244))] []
  refine g_aload_n ok d_Mo_stitch_0 rfl 0 rfl ?_
  refine g_iconst ok d_Mo_stitch_1 ?_
  refine pI_Mo_thrownCode ok _ rfl k_989 d_Mo_stitch_2 ?_
  refine g_aload_n ok d_Mo_stitch_5 rfl 0 rfl ?_
  refine g_iconst ok d_Mo_stitch_6 ?_
  refine pI_Mo_records ok _ rfl k_1009 d_Mo_stitch_7 ?_
  refine g_aload_n ok d_Mo_stitch_10 rfl 0 rfl ?_
  refine g_iconst ok d_Mo_stitch_11 ?_
  refine pI_Mo_nx ok _ rfl k_1013 d_Mo_stitch_12 ?_
  refine g_aload_n ok d_Mo_stitch_15 rfl 0 rfl ?_
  refine g_iconst ok d_Mo_stitch_16 ?_
  refine pI_Mo_ny ok _ rfl k_1014 d_Mo_stitch_17 ?_
  refine g_aload_n ok d_Mo_stitch_20 rfl 0 rfl ?_
  refine g_iconst ok d_Mo_stitch_21 ?_
  refine pI_Mo_lastColour ok _ rfl k_1018 d_Mo_stitch_22 ?_
  refine g_iconst ok d_Mo_stitch_25 ?_
  refine g_istore_n (lv' := [(1, .int (iI 0)), (0, .ref (ad 244))]) ok d_Mo_stitch_26 rfl (by decide) rfl ?_
  have L_k : ∀ (n_k : Nat) (k : Int) (F1 : Nat → Nat → Int) (G1 : Nat → Int → Int), (0 ≤ k ∧ k ≤ F 244 1) → (F1 244 0 = 0) → ((∀ a b, ¬ (a = 244 ∧ (b = 0 ∨ b = 12 ∨ b = 20 ∨ (24 ≤ b ∧ b ≤ 29))) → F1 a b = F a b)) → (∀ a, ¬ (251 ≤ a ∧ a ≤ 260) → G1 a = G a) → (mdR F1 G1 (stM G k.toNat) ∧ (stM G k.toNat).2.2.2.length ≤ 4011) → (F 244 1 + 1 - k) < (n_k : Int) → gW p l e R s m args below meth c (MQ below (gQi D A ad 265 (fun z ce' => ∃ F' G', ce' = mem ad t F' G' ∧ (fun z F' G' => F' 244 0 = 0 ∧ ((∀ a b, ¬ (a = 244 ∧ (b = 0 ∨ b = 12 ∨ b = 20 ∨ (24 ≤ b ∧ b ≤ 29))) → F' a b = F a b) ∧ (∀ a, ¬ (251 ≤ a ∧ a ≤ 260) → G' a = G a)) ∧ ((4000 < ((stM G (F 244 1).toNat).2.2.2).length ∧ z = -1 ∧ F' 244 20 = 0) ∨ (¬ 4000 < ((stM G (F 244 1).toNat).2.2.2).length ∧ z = (((stM G (F 244 1).toNat).2.2.2).length : Int) ∧ recR F' G' ((stM G (F 244 1).toNat).2.2.2)))) z F' G')) args s 0 0 A) D A 2 (gZ) 0 0 ad 265 (mem ad t F1 G1) 27 [(0, .ref (ad 244)), (1, .int (iI k))] [] := by
    intro n_k
    induction n_k with
    | zero =>
      intro k F1 G1 hk h0 hf1 hg1 hmd hm_k
      exact absurd hm_k (by omega)
    | succ n_k ih_k =>
      intro k F1 G1 hk h0 hf1 hg1 hmd hm_k
      have hca : ∀ a, a ≤ 250 → G1 a = G a := fun a z => hg1 a (by omega)
      have hrl := hmd.1.2.2.2.1.1
      refine g_iload_n ok d_Mo_stitch_27 rfl 1 rfl ?_
      refine g_aload_n ok d_Mo_stitch_28 rfl 0 rfl ?_
      refine gI_Mo_shapes ok _ rfl k_990 d_Mo_stitch_29 ?_
      refine g_top (y := F 244 1) (by show F1 244 1 = _; rw [hf1 244 1 (by decide)]) ?_
      refine g_icmp_ge ok 52 d_Mo_stitch_32 (by decide) (by omega) (by omega) (fun h1 => ?_) (fun h1 => ?_)
      · have hke : k.toNat = (F 244 1).toNat := by omega
        refine g_aload_n ok d_Mo_stitch_52 rfl 0 rfl ?_
        refine gI_Mo_records ok _ rfl k_1009 d_Mo_stitch_53 ?_
        refine g_sipush ok (by decide) d_Mo_stitch_56 ?_
        refine g_icmp_le ok 69 d_Mo_stitch_59 (by decide) (by omega) (by omega) (fun h2 => ?_) (fun h2 => ?_)
        · refine g_aload_n ok d_Mo_stitch_69 rfl 0 rfl ?_
          refine gI_Mo_records ok _ rfl k_1009 d_Mo_stitch_70 ?_
          exact g_iret ok d_Mo_stitch_73 ⟨_, _, rfl, h0, ⟨hf1, hg1⟩, Or.inr ⟨by rw [← hke]; omega, by rw [← hke]; exact hrl, by rw [← hke]; exact hmd.1.2.2.2.1⟩⟩
        · refine g_aload_n ok d_Mo_stitch_62 rfl 0 rfl ?_
          refine g_iconst ok d_Mo_stitch_63 ?_
          refine pI_Mo_records ok _ rfl k_1009 d_Mo_stitch_64 ?_
          refine g_iconst ok d_Mo_stitch_67 ?_
          exact g_iret ok d_Mo_stitch_68 ⟨_, _, rfl, by rw [fU_ja (by decide)]; exact h0, ⟨fun a b z => by rw [show fU F1 244 20 0 a b = F1 a b by unfold fU; rw [if_neg (by omega)]]; exact hf1 a b z, hg1⟩, Or.inl ⟨by rw [← hke]; omega, rfl, fU_hit⟩⟩
      · have hSk := hSh k hk.1 (by omega)
        refine g_aload_n ok d_Mo_stitch_35 rfl 0 rfl ?_
        refine g_aload_n ok d_Mo_stitch_36 rfl 0 rfl ?_
        refine gI_Mo_order ok _ rfl k_997 d_Mo_stitch_37 ?_
        refine g_iload_n ok d_Mo_stitch_40 rfl 1 rfl ?_
        refine h_iald ok _ a_250 (by omega) d_Mo_stitch_41 ?_
        refine g_top (y := G 250 k) (by show G1 250 k = _; rw [hca 250 (by decide)]) ?_
        refine g_iconst ok d_Mo_stitch_42 ?_
        refine g_top (y := b2 true) rfl ?_
        refine g_callVV (As := [.int (iI (G 250 k)), .int (iI (b2 true))]) (st := []) ok _ (c_Mo_runsOf F1 G1 _ true (stM G k.toNat) (mSh_up hca hSk) (fun _ => hmd) s0 a0 D t ad) k_1184 k_11 k_1181 cl_Mo (m_Mo (ad := ad) (t := t) (F := F1) (G := G1) rfl).1 (m_Mo rfl).2 k_1183 s_Mo_runsOf q_Mo_runsOf (by decide) (Nat.le_of_ble_eq_true rfl) (by decide) d_Mo_stitch_43 (fun ce1 hc3 => ?_)
        obtain ⟨F2, G2, rfl, Fe, Ge, hFe, hEe, hR⟩ := hc3
        obtain ⟨er1, er2⟩ := ro_rw hca hEe
        rw [er2] at hR
        have e26 : Fe 244 26 = 1 := by rw [hFe, fU_ja (by decide), fU_ja (by decide), fU_ja (by decide), fU_hit]; rfl
        have e12 : Fe 244 12 = oM G1 (G 250 k) 4 := by rw [hFe, fU_hit]
        have hX : mtX Fe Ge (G 250 k) (stM G k.toNat) (rnR G (G 250 k)) = runF (hasR G (G 250 k)) (G 245 (4 * G 250 k)) (rnR G (G 250 k)) (stM G k.toNat) := by unfold mtX; rw [e12, er1, hEe.1 245 (by decide), hca 245 (by decide)]
        have hm2 := hR.2.2.2.1 e26
        rw [hX, ← stM_step hk.1] at hm2
        have hf2 : ∀ a b, ¬ (a = 244 ∧ (b = 12 ∨ b = 20 ∨ (24 ≤ b ∧ b ≤ 29))) → F2 a b = F1 a b := fun a b z => by rw [hR.2.2.2.2.1 a b (by omega), hFe]; unfold fU; rw [if_neg (by omega), if_neg (by omega), if_neg (by omega), if_neg (by omega)]
        have hg2 : ∀ a, ¬ (251 ≤ a ∧ a ≤ 260) → G2 a = G a := fun a z => (hR.2.2.2.2.2 a (by omega) (by omega)).trans ((hEe.1 a (by omega)).trans (hg1 a z))
        refine g_iinc (lv' := [(1, .int (iI (k + 1))), (0, .ref (ad 244))]) ok d_Mo_stitch_46 1 rfl (by decide) rfl ?_
        refine g_goto ok 27 d_Mo_stitch_49 (by decide) ?_
        refine g_lv [1, 0] rfl ?_
        exact ih_k (k + 1) F2 G2 (by omega) (by rw [hf2 244 0 (by decide)]; exact h0) (fun a b z => (hf2 a b (by omega)).trans (hf1 a b z)) (hg2) (hm2) (by omega)
  refine g_z ?_
  refine g_lv [1, 0] rfl ?_
  exact L_k ((F 244 1 + 1 - 0 : Int).toNat + 1) 0 (fU (fU (fU (fU (fU F 244 0 0) 244 20 0) 244 24 0) 244 25 0) 244 29 (-1)) G (by omega) (by rw [fU_ja (by decide), fU_ja (by decide), fU_ja (by decide), fU_ja (by decide), fU_hit]) (fun a b z => by unfold fU; rw [if_neg (by omega), if_neg (by omega), if_neg (by omega), if_neg (by omega), if_neg (by omega)]) (fun _ _ => rfl) (⟨⟨by rw [fU_ja (by decide), fU_ja (by decide), fU_hit]; rfl, by rw [fU_ja (by decide), fU_hit]; rfl, by rw [fU_hit]; rfl, ⟨by rw [fU_ja (by decide), fU_ja (by decide), fU_ja (by decide), fU_hit]; rfl, fun i r _ z => absurd z (by show ¬ ([] : List Rc)[i]? = some r; simp), fun r z => absurd z (by show ¬ r ∈ ([] : List Rc); simp)⟩, by show inR 0 0; unfold inR; decide, by show (-1 : Int) ≤ -1 ∧ (-1 : Int) ≤ 7; decide⟩, by show ([] : List Rc).length ≤ 4011; decide⟩) (by omega)
theorem d_Mo_shape_0 : decode b_Mo_shape 0 = .ok (.aload_n 0, 1) := by decide +kernel
theorem d_Mo_shape_1 : decode b_Mo_shape 1 = .ok (.iload_n 1, 1) := by decide +kernel
theorem d_Mo_shape_2 : decode b_Mo_shape 2 = .ok (.ifCond .lt 11, 3) := by decide +kernel
theorem d_Mo_shape_5 : decode b_Mo_shape 5 = .ok (.iload_n 1, 1) := by decide +kernel
theorem d_Mo_shape_6 : decode b_Mo_shape 6 = .ok (.aload_n 0, 1) := by decide +kernel
theorem d_Mo_shape_7 : decode b_Mo_shape 7 = .ok (.getfield 13, 3) := by decide +kernel
theorem d_Mo_shape_10 : decode b_Mo_shape 10 = .ok (.if_icmp .lt 7, 3) := by decide +kernel
theorem d_Mo_shape_13 : decode b_Mo_shape 13 = .ok (.iconst 1, 1) := by decide +kernel
theorem d_Mo_shape_14 : decode b_Mo_shape 14 = .ok (.goto 18, 3) := by decide +kernel
theorem d_Mo_shape_17 : decode b_Mo_shape 17 = .ok (.iload_n 2, 1) := by decide +kernel
theorem d_Mo_shape_18 : decode b_Mo_shape 18 = .ok (.ifCond .lt 9, 3) := by decide +kernel
theorem d_Mo_shape_21 : decode b_Mo_shape 21 = .ok (.iload_n 2, 1) := by decide +kernel
theorem d_Mo_shape_22 : decode b_Mo_shape 22 = .ok (.bipush 9, 2) := by decide +kernel
theorem d_Mo_shape_24 : decode b_Mo_shape 24 = .ok (.if_icmp .le 7, 3) := by decide +kernel
theorem d_Mo_shape_27 : decode b_Mo_shape 27 = .ok (.iconst 2, 1) := by decide +kernel
theorem d_Mo_shape_28 : decode b_Mo_shape 28 = .ok (.goto 4, 3) := by decide +kernel
theorem d_Mo_shape_31 : decode b_Mo_shape 31 = .ok (.iconst 0, 1) := by decide +kernel
theorem d_Mo_shape_32 : decode b_Mo_shape 32 = .ok (.putfield 7, 3) := by decide +kernel
theorem d_Mo_shape_35 : decode b_Mo_shape 35 = .ok (.aload_n 0, 1) := by decide +kernel
theorem d_Mo_shape_36 : decode b_Mo_shape 36 = .ok (.getfield 7, 3) := by decide +kernel
theorem d_Mo_shape_39 : decode b_Mo_shape 39 = .ok (.ifCond .eq 5, 3) := by decide +kernel
theorem d_Mo_shape_42 : decode b_Mo_shape 42 = .ok (.iconst 0, 1) := by decide +kernel
theorem d_Mo_shape_43 : decode b_Mo_shape 43 = .ok (.ireturn, 1) := by decide +kernel
theorem d_Mo_shape_44 : decode b_Mo_shape 44 = .ok (.iload_n 2, 1) := by decide +kernel
theorem d_Mo_shape_45 : decode b_Mo_shape 45 = .ok (.iconst 4, 1) := by decide +kernel
theorem d_Mo_shape_46 : decode b_Mo_shape 46 = .ok (.if_icmp .ge 14, 3) := by decide +kernel
theorem d_Mo_shape_49 : decode b_Mo_shape 49 = .ok (.aload_n 0, 1) := by decide +kernel
theorem d_Mo_shape_50 : decode b_Mo_shape 50 = .ok (.getfield 20, 3) := by decide +kernel
theorem d_Mo_shape_53 : decode b_Mo_shape 53 = .ok (.iconst 4, 1) := by decide +kernel
theorem d_Mo_shape_54 : decode b_Mo_shape 54 = .ok (.iload_n 1, 1) := by decide +kernel
theorem d_Mo_shape_55 : decode b_Mo_shape 55 = .ok (.imul, 1) := by decide +kernel
theorem d_Mo_shape_56 : decode b_Mo_shape 56 = .ok (.iload_n 2, 1) := by decide +kernel
theorem d_Mo_shape_57 : decode b_Mo_shape 57 = .ok (.iadd, 1) := by decide +kernel
theorem d_Mo_shape_58 : decode b_Mo_shape 58 = .ok (.iaload, 1) := by decide +kernel
theorem d_Mo_shape_59 : decode b_Mo_shape 59 = .ok (.ireturn, 1) := by decide +kernel
theorem d_Mo_shape_60 : decode b_Mo_shape 60 = .ok (.iload_n 2, 1) := by decide +kernel
theorem d_Mo_shape_61 : decode b_Mo_shape 61 = .ok (.bipush 8, 2) := by decide +kernel
theorem d_Mo_shape_63 : decode b_Mo_shape 63 = .ok (.if_icmp .ge 16, 3) := by decide +kernel
theorem d_Mo_shape_66 : decode b_Mo_shape 66 = .ok (.aload_n 0, 1) := by decide +kernel
theorem d_Mo_shape_67 : decode b_Mo_shape 67 = .ok (.getfield 33, 3) := by decide +kernel
theorem d_Mo_shape_70 : decode b_Mo_shape 70 = .ok (.iconst 4, 1) := by decide +kernel
theorem d_Mo_shape_71 : decode b_Mo_shape 71 = .ok (.iload_n 1, 1) := by decide +kernel
theorem d_Mo_shape_72 : decode b_Mo_shape 72 = .ok (.imul, 1) := by decide +kernel
theorem d_Mo_shape_73 : decode b_Mo_shape 73 = .ok (.iload_n 2, 1) := by decide +kernel
theorem d_Mo_shape_74 : decode b_Mo_shape 74 = .ok (.iadd, 1) := by decide +kernel
theorem d_Mo_shape_75 : decode b_Mo_shape 75 = .ok (.iconst 4, 1) := by decide +kernel
theorem d_Mo_shape_76 : decode b_Mo_shape 76 = .ok (.isub, 1) := by decide +kernel
theorem d_Mo_shape_77 : decode b_Mo_shape 77 = .ok (.iaload, 1) := by decide +kernel
theorem d_Mo_shape_78 : decode b_Mo_shape 78 = .ok (.ireturn, 1) := by decide +kernel
theorem d_Mo_shape_79 : decode b_Mo_shape 79 = .ok (.aload_n 0, 1) := by decide +kernel
theorem d_Mo_shape_80 : decode b_Mo_shape 80 = .ok (.iload_n 1, 1) := by decide +kernel
theorem d_Mo_shape_81 : decode b_Mo_shape 81 = .ok (.iconst 0, 1) := by decide +kernel
theorem d_Mo_shape_82 : decode b_Mo_shape 82 = .ok (.invokevirtual 230, 3) := by decide +kernel
theorem d_Mo_shape_85 : decode b_Mo_shape 85 = .ok (.iload_n 2, 1) := by decide +kernel
theorem d_Mo_shape_86 : decode b_Mo_shape 86 = .ok (.bipush 8, 2) := by decide +kernel
theorem d_Mo_shape_88 : decode b_Mo_shape 88 = .ok (.if_icmp .ne 10, 3) := by decide +kernel
theorem d_Mo_shape_91 : decode b_Mo_shape 91 = .ok (.aload_n 0, 1) := by decide +kernel
theorem d_Mo_shape_92 : decode b_Mo_shape 92 = .ok (.getfield 94, 3) := by decide +kernel
theorem d_Mo_shape_95 : decode b_Mo_shape 95 = .ok (.goto 7, 3) := by decide +kernel
theorem d_Mo_shape_98 : decode b_Mo_shape 98 = .ok (.aload_n 0, 1) := by decide +kernel
theorem d_Mo_shape_99 : decode b_Mo_shape 99 = .ok (.getfield 97, 3) := by decide +kernel
theorem d_Mo_shape_102 : decode b_Mo_shape 102 = .ok (.ireturn, 1) := by decide +kernel
set_option maxHeartbeats 1000000 in
set_option maxRecDepth 100000 in
theorem c_Mo_shape (F : Nat → Nat → Int) (G : Nat → Int → Int) (n wh : Int) (hn : -2147483648 ≤ n ∧ n < 2147483648) (hwh : -2147483648 ≤ wh ∧ wh < 2147483648) (hn10 : 0 ≤ F 244 1 ∧ F 244 1 ≤ 10) (hSh : ∀ k : Int, 0 ≤ k → k < F 244 1 → mSh G k) : cI y_Mo_shape b_Mo_shape 3 (some .int) 8 198 F G (fun ad => [.ref (ad 244), .int (iI n), .int (iI wh)]) (fun z F' G' => ∃ tc, ((tc = 1 ∧ ¬ (0 ≤ n ∧ n < F 244 1)) ∨ (tc = 2 ∧ (0 ≤ n ∧ n < F 244 1) ∧ ¬ (0 ≤ wh ∧ wh ≤ 9)) ∨ (tc = 0 ∧ (0 ≤ n ∧ n < F 244 1) ∧ (0 ≤ wh ∧ wh ≤ 9))) ∧ ((tc ≠ 0 ∧ F' = fU F 244 0 tc ∧ G' = G) ∨ (tc = 0 ∧ F' 244 0 = 0 ∧ (∀ a b, ¬ (a = 244 ∧ (b = 0 ∨ b = 12 ∨ (26 ≤ b ∧ b ≤ 28))) → F' a b = F a b) ∧ (∀ a, ¬ (251 ≤ a ∧ a ≤ 257) → G' a = G a) ∧ z = (if wh < 4 then G 245 (4 * n + wh) else if wh < 8 then G 249 (4 * n + wh - 4) else if wh = 8 then nf (rnR G n) else ((rnR G n).length : Int))))) := by
  intro s0 a0 D t ad
  refine g_startI (by decide +kernel) (Nat.le_of_ble_eq_true rfl) (fun p l e R s m args below meth c A ok => ?_)
  show gW p l e R s m args below meth c _ D A 3 (gZ0 s) 0 0 ad 265 (mem ad t F G) 0 [(0, .ref (ad 244)), (1, .int (iI n)), (2, .int (iI wh))] []
  have J_t : ∀ (tcv : Int), ((tcv = 1 ∧ ¬ (0 ≤ n ∧ n < F 244 1)) ∨ (tcv = 2 ∧ (0 ≤ n ∧ n < F 244 1) ∧ ¬ (0 ≤ wh ∧ wh ≤ 9)) ∨ (tcv = 0 ∧ (0 ≤ n ∧ n < F 244 1) ∧ (0 ≤ wh ∧ wh ≤ 9))) → gW p l e R s m args below meth c (MQ below (gQi D A ad 265 (fun z ce' => ∃ F' G', ce' = mem ad t F' G' ∧ (fun z F' G' => ∃ tc, ((tc = 1 ∧ ¬ (0 ≤ n ∧ n < F 244 1)) ∨ (tc = 2 ∧ (0 ≤ n ∧ n < F 244 1) ∧ ¬ (0 ≤ wh ∧ wh ≤ 9)) ∨ (tc = 0 ∧ (0 ≤ n ∧ n < F 244 1) ∧ (0 ≤ wh ∧ wh ≤ 9))) ∧ ((tc ≠ 0 ∧ F' = fU F 244 0 tc ∧ G' = G) ∨ (tc = 0 ∧ F' 244 0 = 0 ∧ (∀ a b, ¬ (a = 244 ∧ (b = 0 ∨ b = 12 ∨ (26 ≤ b ∧ b ≤ 28))) → F' a b = F a b) ∧ (∀ a, ¬ (251 ≤ a ∧ a ≤ 257) → G' a = G a) ∧ z = (if wh < 4 then G 245 (4 * n + wh) else if wh < 8 then G 249 (4 * n + wh - 4) else if wh = 8 then nf (rnR G n) else ((rnR G n).length : Int))))) z F' G')) args s 0 0 A) D A 3 (gZ0 s) 0 0 ad 265 (mem ad t F G) 32 [(0, .ref (ad 244)), (1, .int (iI n)), (2, .int (iI wh))] [.int (iI tcv), .ref (ad 244)] := by
    intro tcv htc
    refine pI_Mo_thrownCode ok _ rfl k_989 d_Mo_shape_32 ?_
    refine g_aload_n ok d_Mo_shape_35 rfl 0 rfl ?_
    refine gI_Mo_thrownCode ok _ rfl k_989 d_Mo_shape_36 ?_
    refine g_top (y := tcv) (by show (fU F 244 0 tcv) 244 0 = _; rw [fU_hit]) ?_
    refine g_if_eq ok 44 d_Mo_shape_39 (by decide) (by omega) (fun h1 => ?_) (fun h1 => ?_)
    · refine g_iload_n ok d_Mo_shape_44 rfl 2 rfl ?_
      refine g_iconst ok d_Mo_shape_45 ?_
      refine g_icmp_ge ok 60 d_Mo_shape_46 (by decide) (by omega) (by omega) (fun h2 => ?_) (fun h2 => ?_)
      · refine g_iload_n ok d_Mo_shape_60 rfl 2 rfl ?_
        refine g_bipush ok (by decide) d_Mo_shape_61 ?_
        refine g_icmp_ge ok 79 d_Mo_shape_63 (by decide) (by omega) (by omega) (fun h3 => ?_) (fun h3 => ?_)
        · refine g_aload_n ok d_Mo_shape_79 rfl 0 rfl ?_
          refine g_iload_n ok d_Mo_shape_80 rfl 1 rfl ?_
          refine g_iconst ok d_Mo_shape_81 ?_
          refine g_top (y := b2 false) rfl ?_
          refine g_callVV (As := [.int (iI n), .int (iI (b2 false))]) (st := []) ok _ (c_Mo_runsOf (fU F 244 0 tcv) G _ false (0, 0, -1, []) (hSh n (by omega) (by omega)) (fun z => absurd z (by decide)) s0 a0 D t ad) k_1184 k_11 k_1181 cl_Mo (m_Mo (ad := ad) (t := t) (F := (fU F 244 0 tcv)) (G := G) rfl).1 (m_Mo rfl).2 k_1183 s_Mo_runsOf q_Mo_runsOf (by decide) (Nat.le_of_ble_eq_true rfl) (by decide) d_Mo_shape_82 (fun ce1 hc4 => ?_)
          obtain ⟨F2, G2, rfl, Fe, Ge, hFe, hEe, hR⟩ := hc4
          obtain ⟨er1, er2⟩ := ro_rw (G := G) (fun _ _ => rfl) hEe
          rw [er2] at hR
          have e26 : Fe 244 26 = 0 := by rw [hFe, fU_ja (by decide), fU_ja (by decide), fU_ja (by decide), fU_hit]; rfl
          have hf2 : ∀ a b, ¬ (a = 244 ∧ (b = 0 ∨ b = 12 ∨ (26 ≤ b ∧ b ≤ 28))) → F2 a b = F a b := fun a b z => by rw [hR.2.2.2.2.1 a b (by omega), hFe]; unfold fU; rw [if_neg (by omega), if_neg (by omega), if_neg (by omega), if_neg (by omega), if_neg (by omega)]
          have hg2 : ∀ a, ¬ (251 ≤ a ∧ a ≤ 257) → G2 a = G a := fun a z => (hR.2.2.2.2.2 a (by omega) (by omega)).trans (hEe.1 a (by omega))
          have h00 : F2 244 0 = 0 := by rw [hR.2.2.2.2.1 244 0 (by omega), hFe, fU_ja (by decide), fU_ja (by decide), fU_ja (by decide), fU_ja (by decide), fU_hit]; omega
          refine g_iload_n ok d_Mo_shape_85 rfl 2 rfl ?_
          refine g_bipush ok (by decide) d_Mo_shape_86 ?_
          refine g_icmp_ne ok 98 d_Mo_shape_88 (by decide) (by omega) (by omega) (fun h5 => ?_) (fun h5 => ?_)
          · refine g_aload_n ok d_Mo_shape_98 rfl 0 rfl ?_
            refine gI_Mo_places ok _ rfl k_1017 d_Mo_shape_99 ?_
            refine g_top (y := ((rnR G n).length : Int)) hR.2.1 ?_
            exact g_iret ok d_Mo_shape_102 ⟨_, _, rfl, tcv, htc, Or.inr ⟨by omega, h00, hf2, hg2, by rw [if_neg (by omega), if_neg (by omega), if_neg (by omega)]⟩⟩
          · refine g_aload_n ok d_Mo_shape_91 rfl 0 rfl ?_
            refine gI_Mo_runs ok _ rfl k_1016 d_Mo_shape_92 ?_
            refine g_goto ok 102 d_Mo_shape_95 (by decide) ?_
            refine g_top (y := nf (rnR G n)) hR.1 ?_
            exact g_iret ok d_Mo_shape_102 ⟨_, _, rfl, tcv, htc, Or.inr ⟨by omega, h00, hf2, hg2, by rw [if_neg (by omega), if_neg (by omega), if_pos (by omega)]⟩⟩
        · refine g_aload_n ok d_Mo_shape_66 rfl 0 rfl ?_
          refine gI_Mo_box ok _ rfl k_996 d_Mo_shape_67 ?_
          refine g_iconst ok d_Mo_shape_70 ?_
          refine g_iload_n ok d_Mo_shape_71 rfl 1 rfl ?_
          refine g_imul ok d_Mo_shape_72 ?_
          refine g_iload_n ok d_Mo_shape_73 rfl 2 rfl ?_
          refine g_iadd ok d_Mo_shape_74 ?_
          refine g_iconst ok d_Mo_shape_75 ?_
          refine g_isub ok d_Mo_shape_76 ?_
          refine h_iald ok _ a_249 (by omega) d_Mo_shape_77 ?_
          exact g_iret ok d_Mo_shape_78 ⟨_, _, rfl, tcv, htc, Or.inr ⟨by omega, by rw [show tcv = 0 by omega, fU_hit], fun a b z => by unfold fU; rw [if_neg (by omega)], fun _ _ => rfl, by rw [if_neg (by omega), if_pos (by omega)]⟩⟩
      · refine g_aload_n ok d_Mo_shape_49 rfl 0 rfl ?_
        refine gI_Mo_told ok _ rfl k_992 d_Mo_shape_50 ?_
        refine g_iconst ok d_Mo_shape_53 ?_
        refine g_iload_n ok d_Mo_shape_54 rfl 1 rfl ?_
        refine g_imul ok d_Mo_shape_55 ?_
        refine g_iload_n ok d_Mo_shape_56 rfl 2 rfl ?_
        refine g_iadd ok d_Mo_shape_57 ?_
        refine h_iald ok _ a_245 (by omega) d_Mo_shape_58 ?_
        exact g_iret ok d_Mo_shape_59 ⟨_, _, rfl, tcv, htc, Or.inr ⟨by omega, by rw [show tcv = 0 by omega, fU_hit], fun a b z => by unfold fU; rw [if_neg (by omega)], fun _ _ => rfl, by rw [if_pos (by omega)]⟩⟩
    · refine g_iconst ok d_Mo_shape_42 ?_
      exact g_iret ok d_Mo_shape_43 ⟨_, _, rfl, tcv, htc, Or.inl ⟨by omega, rfl, rfl⟩⟩
  refine g_aload_n ok d_Mo_shape_0 rfl 0 rfl ?_
  refine g_iload_n ok d_Mo_shape_1 rfl 1 rfl ?_
  refine g_if_lt ok 13 d_Mo_shape_2 (by decide) (by omega) (fun h6 => ?_) (fun h6 => ?_)
  · refine g_iconst ok d_Mo_shape_13 ?_
    refine g_goto ok 32 d_Mo_shape_14 (by decide) ?_
    exact J_t 1 (by omega)
  · refine g_iload_n ok d_Mo_shape_5 rfl 1 rfl ?_
    refine g_aload_n ok d_Mo_shape_6 rfl 0 rfl ?_
    refine gI_Mo_shapes ok _ rfl k_990 d_Mo_shape_7 ?_
    refine g_icmp_lt ok 17 d_Mo_shape_10 (by decide) (by omega) (by omega) (fun h7 => ?_) (fun h7 => ?_)
    · refine g_iload_n ok d_Mo_shape_17 rfl 2 rfl ?_
      refine g_if_lt ok 27 d_Mo_shape_18 (by decide) (by omega) (fun h8 => ?_) (fun h8 => ?_)
      · refine g_iconst ok d_Mo_shape_27 ?_
        refine g_goto ok 32 d_Mo_shape_28 (by decide) ?_
        exact J_t 2 (by omega)
      · refine g_iload_n ok d_Mo_shape_21 rfl 2 rfl ?_
        refine g_bipush ok (by decide) d_Mo_shape_22 ?_
        refine g_icmp_le ok 31 d_Mo_shape_24 (by decide) (by omega) (by omega) (fun h9 => ?_) (fun h9 => ?_)
        · refine g_iconst ok d_Mo_shape_31 ?_
          exact J_t 0 (by omega)
        · refine g_iconst ok d_Mo_shape_27 ?_
          refine g_goto ok 32 d_Mo_shape_28 (by decide) ?_
          exact J_t 2 (by omega)
    · refine g_iconst ok d_Mo_shape_13 ?_
      refine g_goto ok 32 d_Mo_shape_14 (by decide) ?_
      exact J_t 1 (by omega)
