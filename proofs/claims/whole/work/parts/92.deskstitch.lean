/-! the desk's stitch -/
noncomputable def stC (F : Nat → Nat → Int) (G : Nat → Int → Int) : Nat → PS
  | 0 => (0, 0, -1, [])
  | k + 1 => (runF (hasC F G (shP G (k : Int))) (F (shP G (k : Int)) 3) (runsC F G (shP G (k : Int))) (stC F G k)).1
theorem stC_step {F : Nat → Nat → Int} {G : Nat → Int → Int} {k : Int} (h : 0 ≤ k) : stC F G (k + 1).toNat = (runF (hasC F G (shP G k)) (F (shP G k) 3) (runsC F G (shP G k)) (stC F G k.toNat)).1 := by
  rw [show (k + 1).toNat = k.toNat + 1 by omega]
  show (runF (hasC F G (shP G ((k.toNat : Nat) : Int))) (F (shP G ((k.toNat : Nat) : Int)) 3) (runsC F G (shP G ((k.toNat : Nat) : Int))) (stC F G k.toNat)).1 = _
  rw [show ((k.toNat : Nat) : Int) = k by omega]
theorem runF_overA (has : Int → Int → Prop) (col : Int) : ∀ (E : List Ev) (p : PS × Bool), 4000 < p.1.2.2.2.length → (E.foldl (stE has col) p).1 = p.1
  | [], _, _ => rfl
  | e :: E, p, h => by
    have e1 : (stE has col p e).1 = p.1 := tkS_over h
    show (E.foldl (stE has col) (stE has col p e)).1 = p.1
    rw [runF_overA has col E _ (by rw [e1]; exact h), e1]
theorem runF_over {has : Int → Int → Prop} {col : Int} {E : List Ev} {s : PS} (h : 4000 < s.2.2.2.length) : (runF has col E s).1 = s := runF_overA has col E (s, true) h
theorem stC_over {F : Nat → Nat → Int} {G : Nat → Int → Int} {k : Nat} (h : 4000 < (stC F G k).2.2.2.length) : ∀ d : Nat, stC F G (k + d) = stC F G k
  | 0 => rfl
  | d + 1 => by
    have ih := stC_over h d
    show (runF _ _ _ (stC F G (k + d))).1 = _
    rw [ih]
    exact runF_over h
theorem oAll_congr {X X' Y Y' : Nat → Int → Int} {N N' : Nat → Int} : ∀ n : Nat, (∀ r, r < n → X' r = X r ∧ Y' r = Y r ∧ N' r = N r) → oAll X' Y' N' n = oAll X Y N n
  | 0, _ => rfl
  | n + 1, h => by
    show oAll X' Y' N' n ++ oRing (X' n) (Y' n) (N' n) = oAll X Y N n ++ oRing (X n) (Y n) (N n)
    rw [oAll_congr n (fun r hr => h r (by omega)), (h n (by omega)).1, (h n (by omega)).2.1, (h n (by omega)).2.2]
theorem runsC_cong {F F1 : Nat → Nat → Int} {G G1 : Nat → Int → Int} {k : Nat} (hK : isSh k) (hF : ∀ a b, k ≤ a → a < k + 21 → F1 a b = F a b) (hG : ∀ a, k ≤ a → a < k + 21 → G1 a = G a) : runsC F1 G1 k = runsC F G k := by
  have e1 := hasC_cong hK hF hG
  have e2 : outE F1 G1 k 4 = outE F G k 4 := by
    unfold outE
    refine oAll_congr 4 (fun r hr => ⟨?_, ?_, ?_⟩)
    · unfold rgX
      rw [hG _ (by omega) (by omega)]
    · unfold rgY
      rw [hG _ (by omega) (by omega)]
    · unfold rgN
      rw [hF _ _ (by omega) (by omega)]
  unfold runsC lwF hgF
  rw [e1, e2, hG (k + 15 + 1) (by omega) (by omega), hG (k + 15 + 2) (by omega) (by omega), hG (k + 18 + 1) (by omega) (by omega), hG (k + 18 + 2) (by omega) (by omega), hF (k + 15) 2 (by omega) (by omega), hF k 4 (by omega) (by omega), hF k 5 (by omega) (by omega), hF k 6 (by omega) (by omega), hF k 7 (by omega) (by omega), hF k 8 (by omega) (by omega), hF k 9 (by omega) (by omega), hF k 10 (by omega) (by omega)]
theorem b2_dec {z : Int} (h : z = 0 ∨ z = 1) : z = b2 (decide (z = 1)) := by
  rcases h with e | e <;> subst e <;> rfl
/-- a shape that may be told -/
def tlOk (F : Nat → Nat → Int) (G : Nat → Int → Int) (k : Nat) : Prop := shOk F G k ∧ (F k 4 = 0 → ∀ q : Nat, q < 4 → F (k + 3 + 3 * q) 2 ≤ 24) ∧ (F k 4 = 1 → 2 ≤ F (k + 15) 2 ∧ F (k + 15) 2 ≤ 16 ∧ F (k + 18) 2 = F (k + 15) 2)
theorem tlOk_cong {F F1 : Nat → Nat → Int} {G G1 : Nat → Int → Int} {k : Nat} (h : tlOk F G k) (hF : ∀ a b, k ≤ a → a < k + 21 → F1 a b = F a b) (hG : ∀ a, k ≤ a → a < k + 21 → G1 a = G a) : tlOk F1 G1 k := by
  obtain ⟨h1, h2, h3⟩ := h
  refine ⟨shOk_cong h1 hF hG, fun z q hq => ?_, fun z => ?_⟩
  · rw [hF k 4 (by omega) (by omega)] at z
    rw [hF _ _ (by omega) (by omega)]
    exact h2 z q hq
  · rw [hF k 4 (by omega) (by omega)] at z
    rw [hF (k + 15) 2 (by omega) (by omega), hF (k + 18) 2 (by omega) (by omega)]
    exact h3 z
theorem d_Dk_stitch_0 : decode b_Dk_stitch 0 = .ok (.aload_n 0, 1) := by decide +kernel
theorem d_Dk_stitch_1 : decode b_Dk_stitch 1 = .ok (.getfield 40, 3) := by decide +kernel
theorem d_Dk_stitch_4 : decode b_Dk_stitch 4 = .ok (.invokevirtual 189, 3) := by decide +kernel
theorem d_Dk_stitch_7 : decode b_Dk_stitch 7 = .ok (.iconst 0, 1) := by decide +kernel
theorem d_Dk_stitch_8 : decode b_Dk_stitch 8 = .ok (.istore_n 1, 1) := by decide +kernel
theorem d_Dk_stitch_9 : decode b_Dk_stitch 9 = .ok (.iload_n 1, 1) := by decide +kernel
theorem d_Dk_stitch_10 : decode b_Dk_stitch 10 = .ok (.aload_n 0, 1) := by decide +kernel
theorem d_Dk_stitch_11 : decode b_Dk_stitch 11 = .ok (.getfield 67, 3) := by decide +kernel
theorem d_Dk_stitch_14 : decode b_Dk_stitch 14 = .ok (.if_icmp .ge 51, 3) := by decide +kernel
theorem d_Dk_stitch_17 : decode b_Dk_stitch 17 = .ok (.aload_n 0, 1) := by decide +kernel
theorem d_Dk_stitch_18 : decode b_Dk_stitch 18 = .ok (.getfield 48, 3) := by decide +kernel
theorem d_Dk_stitch_21 : decode b_Dk_stitch 21 = .ok (.getfield 192, 3) := by decide +kernel
theorem d_Dk_stitch_24 : decode b_Dk_stitch 24 = .ok (.ifCond .ne 41, 3) := by decide +kernel
theorem d_Dk_stitch_27 : decode b_Dk_stitch 27 = .ok (.aload_n 0, 1) := by decide +kernel
theorem d_Dk_stitch_28 : decode b_Dk_stitch 28 = .ok (.getfield 11, 3) := by decide +kernel
theorem d_Dk_stitch_31 : decode b_Dk_stitch 31 = .ok (.aload_n 0, 1) := by decide +kernel
theorem d_Dk_stitch_32 : decode b_Dk_stitch 32 = .ok (.getfield 16, 3) := by decide +kernel
theorem d_Dk_stitch_35 : decode b_Dk_stitch 35 = .ok (.iload_n 1, 1) := by decide +kernel
theorem d_Dk_stitch_36 : decode b_Dk_stitch 36 = .ok (.iaload, 1) := by decide +kernel
theorem d_Dk_stitch_37 : decode b_Dk_stitch 37 = .ok (.aaload, 1) := by decide +kernel
theorem d_Dk_stitch_38 : decode b_Dk_stitch 38 = .ok (.astore_n 2, 1) := by decide +kernel
theorem d_Dk_stitch_39 : decode b_Dk_stitch 39 = .ok (.aload_n 0, 1) := by decide +kernel
theorem d_Dk_stitch_40 : decode b_Dk_stitch 40 = .ok (.getfield 40, 3) := by decide +kernel
theorem d_Dk_stitch_43 : decode b_Dk_stitch 43 = .ok (.aload_n 2, 1) := by decide +kernel
theorem d_Dk_stitch_44 : decode b_Dk_stitch 44 = .ok (.invokevirtual 195, 3) := by decide +kernel
theorem d_Dk_stitch_47 : decode b_Dk_stitch 47 = .ok (.aload_n 0, 1) := by decide +kernel
theorem d_Dk_stitch_48 : decode b_Dk_stitch 48 = .ok (.getfield 33, 3) := by decide +kernel
theorem d_Dk_stitch_51 : decode b_Dk_stitch 51 = .ok (.aload_n 2, 1) := by decide +kernel
theorem d_Dk_stitch_52 : decode b_Dk_stitch 52 = .ok (.aload_n 0, 1) := by decide +kernel
theorem d_Dk_stitch_53 : decode b_Dk_stitch 53 = .ok (.getfield 40, 3) := by decide +kernel
theorem d_Dk_stitch_56 : decode b_Dk_stitch 56 = .ok (.invokevirtual 136, 3) := by decide +kernel
theorem d_Dk_stitch_59 : decode b_Dk_stitch 59 = .ok (.iinc 1 1, 3) := by decide +kernel
theorem d_Dk_stitch_62 : decode b_Dk_stitch 62 = .ok (.goto (-53), 3) := by decide +kernel
theorem d_Dk_stitch_65 : decode b_Dk_stitch 65 = .ok (.aload_n 0, 1) := by decide +kernel
theorem d_Dk_stitch_66 : decode b_Dk_stitch 66 = .ok (.getfield 48, 3) := by decide +kernel
theorem d_Dk_stitch_69 : decode b_Dk_stitch 69 = .ok (.getfield 192, 3) := by decide +kernel
theorem d_Dk_stitch_72 : decode b_Dk_stitch 72 = .ok (.ifCond .eq 12, 3) := by decide +kernel
theorem d_Dk_stitch_75 : decode b_Dk_stitch 75 = .ok (.aload_n 0, 1) := by decide +kernel
theorem d_Dk_stitch_76 : decode b_Dk_stitch 76 = .ok (.getfield 48, 3) := by decide +kernel
theorem d_Dk_stitch_79 : decode b_Dk_stitch 79 = .ok (.invokevirtual 199, 3) := by decide +kernel
theorem d_Dk_stitch_82 : decode b_Dk_stitch 82 = .ok (.iconst (-1), 1) := by decide +kernel
theorem d_Dk_stitch_83 : decode b_Dk_stitch 83 = .ok (.ireturn, 1) := by decide +kernel
theorem d_Dk_stitch_84 : decode b_Dk_stitch 84 = .ok (.aload_n 0, 1) := by decide +kernel
theorem d_Dk_stitch_85 : decode b_Dk_stitch 85 = .ok (.getfield 48, 3) := by decide +kernel
theorem d_Dk_stitch_88 : decode b_Dk_stitch 88 = .ok (.getfield 183, 3) := by decide +kernel
theorem d_Dk_stitch_91 : decode b_Dk_stitch 91 = .ok (.ireturn, 1) := by decide +kernel
set_option maxHeartbeats 1000000 in
set_option maxRecDepth 100000 in
theorem c_Dk_stitch (F : Nat → Nat → Int) (G : Nat → Int → Int) (ht : 0 ≤ F 0 8 ∧ F 0 8 ≤ 10) (hsq : ∀ j : Int, 0 ≤ j → j < F 0 8 → (0 ≤ G 222 j ∧ G 222 j < 10) ∧ tlOk F G (shP G j)) (h60 : F 235 6 = 0 ∨ F 235 6 = 1) : cI y_Dk_stitch b_Dk_stitch 3 (some .int) 7 170 F G (fun ad => [.ref (ad 0)]) (fun z F' G' => (∀ a b, a ≠ 231 → a ≠ 235 → a ≠ 236 → F' a b = F a b) ∧ (∀ a, ¬ (232 ≤ a ∧ a ≤ 234) → a ≠ 237 → G' a = G a) ∧ (F' 235 6 = 0 ∨ F' 235 6 = 1) ∧ ((4000 < ((stC F G (F 0 8).toNat).2.2.2).length ∧ z = -1 ∧ F' 236 1 = 0 ∧ F' 236 2 = 0) ∨ (¬ 4000 < ((stC F G (F 0 8).toNat).2.2.2).length ∧ z = (((stC F G (F 0 8).toNat).2.2.2).length : Int) ∧ pathR F' G' ((stC F G (F 0 8).toNat).2.2.2)))) := by
  intro s0 a0 D t ad
  refine g_startI (by decide +kernel) (Nat.le_of_ble_eq_true rfl) (fun p l e R s m args below meth c A ok => ?_)
  show gW p l e R s m args below meth c _ D A 3 (gZ0 s) 0 0 ad 265 (mem ad t F G) 0 [(0, .ref (ad 0))] []
  refine g_aload_n ok d_Dk_stitch_0 rfl 0 rfl ?_
  refine gI_Dk_maker ok _ rfl k_323 d_Dk_stitch_1 ?_
  refine g_callVVN (As := []) (st := []) ok _ (c_Pm_restart F G  s0 a0 D t ad) k_366 k_8 k_363 cl_Pm (m_Pm (ad := ad) (t := t) (F := F) (G := G) rfl).1 (m_Pm rfl).2 k_365 s_Pm_restart q_Pm_restart (by decide) (Nat.le_of_ble_eq_true rfl) (by decide) d_Dk_stitch_4 (fun ce1 hc1 => ?_)
  obtain ⟨Fq, Gq, rfl, hFq, hGq⟩ := hc1
  rw [hFq, hGq]
  clear hFq hGq
  refine g_iconst ok d_Dk_stitch_7 ?_
  refine g_istore_n (lv' := [(1, .int (iI 0)), (0, .ref (ad 0))]) ok d_Dk_stitch_8 rfl (by decide) rfl ?_
  have L_k : ∀ (n_k : Nat) (kk : Int) (F1 : Nat → Nat → Int) (G1 : Nat → Int → Int), (0 ≤ kk ∧ kk ≤ F 0 8) → (∀ a b, a ≠ 231 → a ≠ 235 → a ≠ 236 → F1 a b = F a b) → (∀ a, ¬ (232 ≤ a ∧ a ≤ 234) → a ≠ 237 → G1 a = G a) → (F1 235 6 = 0 ∨ F1 235 6 = 1) → (pmR F1 G1 (stC F G kk.toNat)) → (F 0 8 + 1 - kk) < (n_k : Int) → gW p l e R s m args below meth c (MQ below (gQi D A ad 265 (fun z ce' => ∃ F' G', ce' = mem ad t F' G' ∧ (fun z F' G' => (∀ a b, a ≠ 231 → a ≠ 235 → a ≠ 236 → F' a b = F a b) ∧ (∀ a, ¬ (232 ≤ a ∧ a ≤ 234) → a ≠ 237 → G' a = G a) ∧ (F' 235 6 = 0 ∨ F' 235 6 = 1) ∧ ((4000 < ((stC F G (F 0 8).toNat).2.2.2).length ∧ z = -1 ∧ F' 236 1 = 0 ∧ F' 236 2 = 0) ∨ (¬ 4000 < ((stC F G (F 0 8).toNat).2.2.2).length ∧ z = (((stC F G (F 0 8).toNat).2.2.2).length : Int) ∧ pathR F' G' ((stC F G (F 0 8).toNat).2.2.2)))) z F' G')) args s 0 0 A) D A 3 (gZ) 0 0 ad 265 (mem ad t F1 G1) 9 [(0, .ref (ad 0)), (1, .int (iI kk))] [] := by
    intro n_k
    induction n_k with
    | zero =>
      intro kk F1 G1 hk hf1 hg1 h6 hpm hm_k
      exact absurd hm_k (by omega)
    | succ n_k ih_k =>
      intro kk F1 G1 hk hf1 hg1 h6 hpm hm_k
      obtain ⟨hpr1, hpr2, hov⟩ := pathR_rng hpm.2.2.2.1
      have hpsz := hpm.2.2.2.1.1
      have J_e : (stC F G kk.toNat = stC F G (F 0 8).toNat) → gW p l e R s m args below meth c (MQ below (gQi D A ad 265 (fun z ce' => ∃ F' G', ce' = mem ad t F' G' ∧ (fun z F' G' => (∀ a b, a ≠ 231 → a ≠ 235 → a ≠ 236 → F' a b = F a b) ∧ (∀ a, ¬ (232 ≤ a ∧ a ≤ 234) → a ≠ 237 → G' a = G a) ∧ (F' 235 6 = 0 ∨ F' 235 6 = 1) ∧ ((4000 < ((stC F G (F 0 8).toNat).2.2.2).length ∧ z = -1 ∧ F' 236 1 = 0 ∧ F' 236 2 = 0) ∨ (¬ 4000 < ((stC F G (F 0 8).toNat).2.2.2).length ∧ z = (((stC F G (F 0 8).toNat).2.2.2).length : Int) ∧ pathR F' G' ((stC F G (F 0 8).toNat).2.2.2)))) z F' G')) args s 0 0 A) D A 3 (gZ) 0 0 ad 265 (mem ad t F1 G1) 65 [(0, .ref (ad 0)), (1, .int (iI kk))] [] := by
        intro hS
        refine g_aload_n ok d_Dk_stitch_65 rfl 0 rfl ?_
        refine gI_Dk_path ok _ rfl k_322 d_Dk_stitch_66 ?_
        refine gN_Pa_overfull ok _ rfl k_261 d_Dk_stitch_69 ?_
        refine g_if_eq ok 84 d_Dk_stitch_72 (by decide) (by omega) (fun h2 => ?_) (fun h2 => ?_)
        · refine g_aload_n ok d_Dk_stitch_84 rfl 0 rfl ?_
          refine gI_Dk_path ok _ rfl k_322 d_Dk_stitch_85 ?_
          refine gN_Pa_size ok _ rfl k_258 d_Dk_stitch_88 ?_
          exact g_iret ok d_Dk_stitch_91 ⟨_, _, rfl, hf1, hg1, h6, Or.inr ⟨by rw [← hS]; exact fun z => absurd (hov.mpr z) (by omega), by rw [← hS]; have y : ¬ 4000 < (stC F G kk.toNat).2.2.2.length := (fun z => absurd (hov.mpr z) (by omega)); omega, by rw [← hS]; exact hpm.2.2.2.1⟩⟩
        · refine g_aload_n ok d_Dk_stitch_75 rfl 0 rfl ?_
          refine gI_Dk_path ok _ rfl k_322 d_Dk_stitch_76 ?_
          refine g_callVVN (As := []) (st := []) ok _ (c_Pa_clear F1 G1  s0 a0 D t ad) k_370 k_9 k_547 cl_Pa (m_Pa (ad := ad) (t := t) (F := F1) (G := G1) rfl).1 (m_Pa rfl).2 k_369 s_Pa_clear q_Pa_clear (by decide) (Nat.le_of_ble_eq_true rfl) (by decide) d_Dk_stitch_79 (fun ce1 hc3 => ?_)
          obtain ⟨Fq, Gq, rfl, hFq, hGq⟩ := hc3
          rw [hFq, hGq]
          clear hFq hGq
          refine g_iconst ok d_Dk_stitch_82 ?_
          exact g_iret ok d_Dk_stitch_83 ⟨_, _, rfl, fun a b z1 z2 z3 => by rw [fU_ka z3, fU_ka z3]; exact hf1 a b z1 z2 z3, hg1, by rw [fU_ka (by decide), fU_ka (by decide)]; exact h6, Or.inl ⟨by rw [← hS]; exact hov.mp (by omega), rfl, by rw [fU_ja (by decide), fU_hit], fU_hit⟩⟩
      refine g_iload_n ok d_Dk_stitch_9 rfl 1 rfl ?_
      refine g_aload_n ok d_Dk_stitch_10 rfl 0 rfl ?_
      refine gI_Dk_shapeTotal ok _ rfl k_325 d_Dk_stitch_11 ?_
      refine g_top (y := F 0 8) (by show F1 0 8 = _; rw [hf1 0 8 (by omega) (by omega) (by omega)]) ?_
      refine g_icmp_ge ok 65 d_Dk_stitch_14 (by decide) (by omega) (by omega) (fun h4 => ?_) (fun h4 => ?_)
      · refine g_z ?_
        exact J_e  (by rw [show kk.toNat = (F 0 8).toNat by omega])
      · refine g_aload_n ok d_Dk_stitch_17 rfl 0 rfl ?_
        refine gI_Dk_path ok _ rfl k_322 d_Dk_stitch_18 ?_
        refine gN_Pa_overfull ok _ rfl k_261 d_Dk_stitch_21 ?_
        refine g_if_ne ok 65 d_Dk_stitch_24 (by decide) (by omega) (fun h5 => ?_) (fun h5 => ?_)
        · refine g_z ?_
          exact J_e  (by have y := stC_over (hov.mp (by omega)) ((F 0 8).toNat - kk.toNat); rw [show kk.toNat + ((F 0 8).toNat - kk.toNat) = (F 0 8).toNat by omega] at y; exact y.symm)
        · obtain ⟨hg0, hTk⟩ := hsq kk hk.1 (by omega)
          have hkp := hTk.1.1
          unfold isSh shP at hkp
          refine g_aload_n ok d_Dk_stitch_27 rfl 0 rfl ?_
          refine gI_Dk_shapes ok _ rfl k_317 d_Dk_stitch_28 ?_
          refine g_aload_n ok d_Dk_stitch_31 rfl 0 rfl ?_
          refine gI_Dk_sequence ok _ rfl k_318 d_Dk_stitch_32 ?_
          refine g_iload_n ok d_Dk_stitch_35 rfl 1 rfl ?_
          refine h_iald ok _ a_222 (by omega) d_Dk_stitch_36 ?_
          refine g_top (y := G 222 kk) (by show G1 222 kk = _; rw [hg1 222 (by decide) (by decide)]) ?_
          refine h_shapes ok (by omega) d_Dk_stitch_37 ?_
          refine g_astore_n (lv' := [(2, .ref (ad (2 + 22 * (G 222 kk).toNat))), (0, .ref (ad 0)), (1, .int (iI kk))]) ok d_Dk_stitch_38 rfl (by decide) rfl ?_
          refine g_aload_n ok d_Dk_stitch_39 rfl 1 rfl ?_
          refine gI_Dk_maker ok _ rfl k_323 d_Dk_stitch_40 ?_
          refine g_aload_n ok d_Dk_stitch_43 rfl 0 rfl ?_
          refine g_callVVN (As := [.ref (ad (2 + 22 * (G 222 kk).toNat))]) (st := []) ok _ (c_Pm_enter F1 G1 _ (G 222 kk) hg0.1 rfl s0 a0 D t ad) k_374 k_8 k_371 cl_Pm (m_Pm (ad := ad) (t := t) (F := F1) (G := G1) rfl).1 (m_Pm rfl).2 k_373 s_Pm_enter q_Pm_enter (by decide) (Nat.le_of_ble_eq_true rfl) (by decide) d_Dk_stitch_44 (fun ce1 hc6 => ?_)
          obtain ⟨Fq, Gq, rfl, hFq, hGq⟩ := hc6
          rw [hFq, hGq]
          clear hFq hGq
          have hf2 : ∀ a b, a ≠ 231 → a ≠ 235 → a ≠ 236 → (fU (fU F1 235 1 (G 222 kk)) 235 5 1) a b = F a b := fun a b z1 z2 z3 => by rw [fU_ka z2, fU_ka z2]; exact hf1 a b z1 z2 z3
          have hfk : ∀ a b, shP G kk ≤ a → a < shP G kk + 21 → (fU (fU F1 235 1 (G 222 kk)) 235 5 1) a b = F a b := fun a b z1 z2 => hf2 a b (by unfold shP at z1 z2; omega) (by unfold shP at z1 z2; omega) (by unfold shP at z1 z2; omega)
          have hgk : ∀ a, shP G kk ≤ a → a < shP G kk + 21 → G1 a = G a := fun a z1 z2 => hg1 a (by unfold shP at z1 z2; omega) (by unfold shP at z1 z2; omega)
          have hT2 : tlOk (fU (fU F1 235 1 (G 222 kk)) 235 5 1) G1 (shP G kk) := tlOk_cong hTk hfk hgk
          have hA2 : tkAt 235 (shP G kk) (fU (fU F1 235 1 (G 222 kk)) 235 5 1) G1 := ⟨hT2.1, Or.inr ⟨rfl, by rw [fU_ja (by decide), fU_hit]; exact hg0.1, by rw [fU_ja (by decide), fU_hit]; rfl⟩⟩
          have h62 : (fU (fU F1 235 1 (G 222 kk)) 235 5 1) 235 6 = F1 235 6 := by rw [fU_ja (by decide), fU_ja (by decide)]
          have hR0 : tkR 235 (shP G kk) (fU (fU F1 235 1 (G 222 kk)) 235 5 1) G1 (stC F G kk.toNat) (fU (fU F1 235 1 (G 222 kk)) 235 5 1) G1 [] (decide (F1 235 6 = 1)) := ⟨fun _ => ⟨⟨⟨by rw [fU_ja (by decide), fU_ja (by decide)]; exact hpm.1, by rw [fU_ja (by decide), fU_ja (by decide)]; exact hpm.2.1, by rw [fU_ja (by decide), fU_ja (by decide)]; exact hpm.2.2.1, pathR_cong hpm.2.2.2.1 (fun b => by rw [fU_ka (by decide), fU_ka (by decide)]) rfl, hpm.2.2.2.2⟩, fun _ => ⟨fU_hit, h62.trans (b2_dec h6)⟩⟩, by rw [h62]; exact h6⟩, fun z => absurd rfl z, fun _ _ _ _ _ => rfl, fun _ _ _ => rfl⟩
          refine g_aload_n ok d_Dk_stitch_47 rfl 1 rfl ?_
          refine gI_Dk_teller ok _ rfl k_321 d_Dk_stitch_48 ?_
          refine g_aload_n ok d_Dk_stitch_51 rfl 0 rfl ?_
          refine g_aload_n ok d_Dk_stitch_52 rfl 1 rfl ?_
          refine gI_Dk_maker ok _ rfl k_323 d_Dk_stitch_53 ?_
          refine g_callVVN (As := [.ref (ad (2 + 22 * (G 222 kk).toNat)), .ref (ad 235)]) (st := []) ok _ (c_Rt_tell (fU (fU F1 235 1 (G 222 kk)) 235 5 1) G1 235 (shP G kk) (stC F G kk.toNat) _ hA2 hR0 (fun z => absurd rfl z) hT2.2.1 hT2.2.2 s0 a0 D t ad) k_378 k_6 k_375 cl_Rt (m_Rt (ad := ad) (t := t) (F := (fU (fU F1 235 1 (G 222 kk)) 235 5 1)) (G := G1) rfl).1 (m_Rt rfl).2 k_377 s_Rt_tell q_Rt_tell (by decide) (Nat.le_of_ble_eq_true rfl) (by decide) d_Dk_stitch_56 (fun ce1 hc7 => ?_)
          obtain ⟨F3, G3, rfl, p1, hp1, hR3⟩ := hc7
          have hm3 := hR3.1 rfl
          have hst : (runF (hasC (fU (fU F1 235 1 (G 222 kk)) 235 5 1) G1 (shP G kk)) ((fU (fU F1 235 1 (G 222 kk)) 235 5 1) (shP G kk) 3) (runsC (fU (fU F1 235 1 (G 222 kk)) 235 5 1) G1 (shP G kk)) (stC F G kk.toNat)).1 = stC F G (kk + 1).toNat := by rw [runsC_cong hTk.1.1 hfk hgk, hasC_cong hTk.1.1 hfk hgk, hfk (shP G kk) 3 (by omega) (by omega), ← stC_step hk.1]
          have hpm3 := hm3.1.1
          rw [hst] at hpm3
          have hf3 : ∀ a b, a ≠ 231 → a ≠ 235 → a ≠ 236 → F3 a b = F a b := fun a b z1 z2 z3 => (hR3.2.2.1 a b z1 (fun _ => by omega) (fun z => absurd rfl z)).trans (hf2 a b z1 z2 z3)
          have hg3 : ∀ a, ¬ (232 ≤ a ∧ a ≤ 234) → a ≠ 237 → G3 a = G a := fun a z1 z2 => (hR3.2.2.2 a z1 (fun _ => z2)).trans (hg1 a z1 z2)
          refine g_iinc (lv' := [(1, .int (iI (kk + 1))), (2, .ref (ad (2 + 22 * (G 222 kk).toNat))), (0, .ref (ad 0))]) ok d_Dk_stitch_59 2 rfl (by decide) rfl ?_
          refine g_goto ok 9 d_Dk_stitch_62 (by decide) ?_
          refine g_lv [2, 0] rfl ?_
          exact ih_k (kk + 1) F3 G3 (by omega) (hf3) (hg3) (hm3.2) (hpm3) (by omega)
  refine g_z ?_
  refine g_lv [1, 0] rfl ?_
  exact L_k ((F 0 8 + 1 - 0 : Int).toNat + 1) 0 (fU (fU (fU (fU (fU F 236 1 0) 236 2 0) 235 2 0) 235 3 0) 235 4 (-1)) G (by omega) (fun a b z1 z2 z3 => by rw [fU_ka z2, fU_ka z2, fU_ka z2, fU_ka z3, fU_ka z3]) (fun _ _ _ => rfl) (by rw [fU_ja (by decide), fU_ja (by decide), fU_ja (by decide), fU_ka (by decide), fU_ka (by decide)]; exact h60) (⟨by rw [fU_ja (by decide), fU_ja (by decide), fU_hit]; rfl, by rw [fU_ja (by decide), fU_hit]; rfl, by rw [fU_hit]; rfl, ⟨by rw [fU_ka (by decide), fU_ka (by decide), fU_ka (by decide), fU_ja (by decide), fU_hit]; rfl, by rw [fU_ka (by decide), fU_ka (by decide), fU_ka (by decide), fU_hit]; rfl, fun i r _ z => absurd z (by show ¬ ([] : List Rc)[i]? = some r; simp), fun r z => absurd z (by show ¬ r ∈ ([] : List Rc); simp)⟩, by show inR 0 0; unfold inR; decide, by show (-1 : Int) ≤ -1 ∧ (-1 : Int) ≤ 7; decide⟩) (by omega)
