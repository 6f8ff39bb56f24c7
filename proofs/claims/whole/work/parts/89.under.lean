/-! what the edges of a shape of the reference hold, wherever they were laid -/
def mEdW (G : Nat → Int → Int) (sn : Int) (G2 : Nat → Int → Int) : Prop := ∀ q : Nat, q < 4 → mRing G sn q (mSz G sn q) G2
def mGe (G G2 : Nat → Int → Int) : Nat → Int → Int := fun a => if 251 ≤ a ∧ a ≤ 256 then G2 a else G a
theorem mGe_in {G G2 : Nat → Int → Int} {a : Nat} (h : 251 ≤ a ∧ a ≤ 256) : mGe G G2 a = G2 a := if_pos h
theorem mGe_ed {G G2 : Nat → Int → Int} {sn : Int} (h : mEdW G sn G2) : mEdges G sn (mGe G G2) := by
  refine ⟨fun a ha => if_neg (by omega), fun q hq j h1 h2 => ?_⟩
  have z := h q hq j h1 h2
  unfold mEdge m6 at z ⊢
  rw [mGe_in (by decide), mGe_in (by decide), mGe_in (by decide), mGe_in (by decide), mGe_in (by decide), mGe_in (by decide)]
  exact z
theorem hasM_5 {G G1 : Nat → Int → Int} {n : Int} (h : ∀ a, 251 ≤ a → a ≤ 255 → G1 a = G a) : hasM G1 n = hasM G n := by
  funext x y
  unfold hasM mHas mC mOn mCr
  rw [h 251 (by omega) (by omega), h 252 (by omega) (by omega), h 253 (by omega) (by omega), h 254 (by omega) (by omega), h 255 (by omega) (by omega)]
theorem mE_W {G G2 : Nat → Int → Int} {sn : Int} (hO : mOk G sn) (hP : mPlS G sn) (h : mEdW G sn G2) : mE G2 (oM G sn 4) := by
  have z := mE_of hO hP (mGe_ed h)
  unfold mE at z ⊢
  rw [mGe_in (by decide), mGe_in (by decide), mGe_in (by decide), mGe_in (by decide), mGe_in (by decide), mGe_in (by decide)] at z
  exact z
/-- two layings hold the same -/
theorem ed_uniq {G Ge Gf : Nat → Int → Int} {sn e : Int} (h : mEdW G sn Ge) (h2 : mEdW G sn Gf) (h0 : 0 ≤ e) (h1 : e < oM G sn 4) : Ge 251 e = Gf 251 e ∧ Ge 252 e = Gf 252 e ∧ Ge 253 e = Gf 253 e ∧ Ge 254 e = Gf 254 e ∧ Ge 255 e = Gf 255 e := by
  obtain ⟨q, i, hq, i1, i2, rfl⟩ := oM_split h0 4 h1
  obtain ⟨a1, a2, a3, a4, a5, -⟩ := h q hq i i1 i2
  obtain ⟨b1, b2, b3, b4, b5, -⟩ := h2 q hq i i1 i2
  rw [a1, a2, a3, a4, a5, b1, b2, b3, b4, b5]
  exact ⟨rfl, rfl, rfl, rfl, rfl⟩
theorem has_uniq {G Ge Gf : Nat → Int → Int} {sn : Int} (h : mEdW G sn Ge) (h2 : mEdW G sn Gf) : hasM Ge (oM G sn 4) = hasM Gf (oM G sn 4) := by
  funext x y
  have e1 : ∀ e : Int, 0 ≤ e → e < oM G sn 4 → (mOn Ge x y e ↔ mOn Gf x y e) := fun e a b => by
    obtain ⟨c1, c2, c3, c4, c5⟩ := ed_uniq h h2 a b
    unfold mOn
    rw [c1, c2, c3, c4]
  have e2 : ∀ r e : Int, 0 ≤ e → e < oM G sn 4 → (mC Ge r x y e ↔ mC Gf r x y e) := fun r e a b => by
    obtain ⟨c1, c2, c3, c4, c5⟩ := ed_uniq h h2 a b
    unfold mC mCr
    rw [c1, c2, c3, c4, c5]
  have e3 : ∀ r : Int, oddN (mC Ge r x y) (oM G sn 4).toNat ↔ oddN (mC Gf r x y) (oM G sn 4).toNat := fun r => oddN_congr _ (fun i a b => e2 r i a (by omega))
  have e4 : oddN (fun r => oddN (mC Ge r x y) (oM G sn 4).toNat) 4 ↔ oddN (fun r => oddN (mC Gf r x y) (oM G sn 4).toNat) 4 := oddN_congr 4 (fun r _ _ => e3 r)
  unfold hasM mHas
  apply propext
  rw [e4]
  refine and_congr Iff.rfl (or_congr ?_ (and_congr ?_ Iff.rfl))
  · exact ⟨fun ⟨e, a, b, c⟩ => ⟨e, a, b, (e1 e a b).mp c⟩, fun ⟨e, a, b, c⟩ => ⟨e, a, b, (e1 e a b).mpr c⟩⟩
  · exact ⟨fun z e a b c => z e a b ((e1 e a b).mpr c), fun z e a b c => z e a b ((e1 e a b).mp c)⟩
/-- the places of shape sn -/
def hasR (G : Nat → Int → Int) (sn x y : Int) : Prop := ∃ Ge, mEdW G sn Ge ∧ hasM Ge (oM G sn 4) x y
theorem hasR_eq {G Ge : Nat → Int → Int} {sn : Int} (h : mEdW G sn Ge) : hasM Ge (oM G sn 4) = hasR G sn := by
  funext x y
  apply propext
  exact ⟨fun z => ⟨Ge, h, z⟩, fun ⟨Gf, a, b⟩ => by rw [has_uniq h a]; exact b⟩
theorem oM_upA {G G1 : Nat → Int → Int} {sn : Int} (h : ∀ a, a ≤ 250 → G1 a = G a) : ∀ q : Nat, oM G1 sn q = oM G sn q
  | 0 => rfl
  | q + 1 => by
    show oM G1 sn q + mSz G1 sn (q : Int) = oM G sn q + mSz G sn (q : Int)
    unfold mSz
    rw [oM_upA h q, h 245 (by decide), h 246 (by decide)]
theorem mEdW_up {G G1 G2 : Nat → Int → Int} {sn : Int} (h : ∀ a, a ≤ 250 → G1 a = G a) : mEdW G1 sn G2 ↔ mEdW G sn G2 := by
  have e : ∀ q : Nat, mRing G1 sn q (mSz G1 sn q) G2 ↔ mRing G sn q (mSz G sn q) G2 := fun q => by
    unfold mRing mEdge mAt mRc mSz
    rw [oM_upA h q, h 245 (by decide), h 246 (by decide), h 247 (by decide), h 248 (by decide)]
  exact ⟨fun z q hq => (e q).mp (z q hq), fun z q hq => (e q).mpr (z q hq)⟩
theorem hasR_up {G G1 : Nat → Int → Int} {sn : Int} (h : ∀ a, a ≤ 250 → G1 a = G a) : hasR G1 sn = hasR G sn := by
  funext x y
  unfold hasR
  rw [oM_upA h 4]
  apply propext
  exact ⟨fun ⟨Ge, a, b⟩ => ⟨Ge, (mEdW_up h).mp a, b⟩, fun ⟨Ge, a, b⟩ => ⟨Ge, (mEdW_up h).mpr a, b⟩⟩
theorem mSh_up {G G1 : Nat → Int → Int} {sn : Int} (h : ∀ a, a ≤ 250 → G1 a = G a) (hS : mSh G sn) : mSh G1 sn := by
  obtain ⟨h1, h2, h3, h4, h5, h6, h7⟩ := hS
  refine ⟨h1, ?_, ?_, ?_, ?_, ?_, ?_⟩
  · unfold mOk at h2 ⊢
    rw [h 245 (by decide), h 246 (by decide)]
    exact h2
  · unfold mPlS mSz mAt mRc at h3 ⊢
    rw [h 245 (by decide), h 246 (by decide), h 247 (by decide), h 248 (by decide)]
    exact h3
  · rw [h 245 (by decide)]
    exact h4
  · unfold bx4 at h5 ⊢
    rw [h 249 (by decide)]
    exact h5
  · rw [h 245 (by decide), h 246 (by decide)]
    exact h6
  · intro Ge hE x y hx
    rw [oM_upA h 4] at hx
    have w : mEdW G sn Ge := (mEdW_up h).mp hE.2
    have e := hasM_5 (G := Ge) (G1 := mGe G Ge) (n := oM G sn 4) (fun a a1 a2 => mGe_in (by omega))
    have z := h7 (mGe G Ge) (mGe_ed w) x y (by rw [e]; exact hx)
    unfold bxM at z ⊢
    rw [h 249 (by decide)]
    exact z
theorem d_Mo_under_0 : decode b_Mo_under 0 = .ok (.aload_n 0, 1) := by decide +kernel
theorem d_Mo_under_1 : decode b_Mo_under 1 = .ok (.iload_n 1, 1) := by decide +kernel
theorem d_Mo_under_2 : decode b_Mo_under 2 = .ok (.iload_n 2, 1) := by decide +kernel
theorem d_Mo_under_3 : decode b_Mo_under 3 = .ok (.invokestatic 202, 3) := by decide +kernel
theorem d_Mo_under_6 : decode b_Mo_under 6 = .ok (.ifCond .eq 7, 3) := by decide +kernel
theorem d_Mo_under_9 : decode b_Mo_under 9 = .ok (.iconst 0, 1) := by decide +kernel
theorem d_Mo_under_10 : decode b_Mo_under 10 = .ok (.goto 4, 3) := by decide +kernel
theorem d_Mo_under_13 : decode b_Mo_under 13 = .ok (.iconst 1, 1) := by decide +kernel
theorem d_Mo_under_14 : decode b_Mo_under 14 = .ok (.putfield 7, 3) := by decide +kernel
theorem d_Mo_under_17 : decode b_Mo_under 17 = .ok (.aload_n 0, 1) := by decide +kernel
theorem d_Mo_under_18 : decode b_Mo_under 18 = .ok (.getfield 7, 3) := by decide +kernel
theorem d_Mo_under_21 : decode b_Mo_under 21 = .ok (.ifCond .eq 5, 3) := by decide +kernel
theorem d_Mo_under_24 : decode b_Mo_under 24 = .ok (.iconst 0, 1) := by decide +kernel
theorem d_Mo_under_25 : decode b_Mo_under 25 = .ok (.ireturn, 1) := by decide +kernel
theorem d_Mo_under_26 : decode b_Mo_under 26 = .ok (.aload_n 0, 1) := by decide +kernel
theorem d_Mo_under_27 : decode b_Mo_under 27 = .ok (.getfield 13, 3) := by decide +kernel
theorem d_Mo_under_30 : decode b_Mo_under 30 = .ok (.iconst 1, 1) := by decide +kernel
theorem d_Mo_under_31 : decode b_Mo_under 31 = .ok (.isub, 1) := by decide +kernel
theorem d_Mo_under_32 : decode b_Mo_under 32 = .ok (.istore_n 3, 1) := by decide +kernel
theorem d_Mo_under_33 : decode b_Mo_under 33 = .ok (.iload_n 3, 1) := by decide +kernel
theorem d_Mo_under_34 : decode b_Mo_under 34 = .ok (.ifCond .lt 35, 3) := by decide +kernel
theorem d_Mo_under_37 : decode b_Mo_under 37 = .ok (.aload_n 0, 1) := by decide +kernel
theorem d_Mo_under_38 : decode b_Mo_under 38 = .ok (.aload_n 0, 1) := by decide +kernel
theorem d_Mo_under_39 : decode b_Mo_under 39 = .ok (.getfield 36, 3) := by decide +kernel
theorem d_Mo_under_42 : decode b_Mo_under 42 = .ok (.iload_n 3, 1) := by decide +kernel
theorem d_Mo_under_43 : decode b_Mo_under 43 = .ok (.iaload, 1) := by decide +kernel
theorem d_Mo_under_44 : decode b_Mo_under 44 = .ok (.invokevirtual 152, 3) := by decide +kernel
theorem d_Mo_under_47 : decode b_Mo_under 47 = .ok (.aload_n 0, 1) := by decide +kernel
theorem d_Mo_under_48 : decode b_Mo_under 48 = .ok (.iload_n 1, 1) := by decide +kernel
theorem d_Mo_under_49 : decode b_Mo_under 49 = .ok (.iload_n 2, 1) := by decide +kernel
theorem d_Mo_under_50 : decode b_Mo_under 50 = .ok (.invokevirtual 178, 3) := by decide +kernel
theorem d_Mo_under_53 : decode b_Mo_under 53 = .ok (.ifCond .eq 10, 3) := by decide +kernel
theorem d_Mo_under_56 : decode b_Mo_under 56 = .ok (.aload_n 0, 1) := by decide +kernel
theorem d_Mo_under_57 : decode b_Mo_under 57 = .ok (.getfield 36, 3) := by decide +kernel
theorem d_Mo_under_60 : decode b_Mo_under 60 = .ok (.iload_n 3, 1) := by decide +kernel
theorem d_Mo_under_61 : decode b_Mo_under 61 = .ok (.iaload, 1) := by decide +kernel
theorem d_Mo_under_62 : decode b_Mo_under 62 = .ok (.ireturn, 1) := by decide +kernel
theorem d_Mo_under_63 : decode b_Mo_under 63 = .ok (.iinc 3 (-1), 3) := by decide +kernel
theorem d_Mo_under_66 : decode b_Mo_under 66 = .ok (.goto (-33), 3) := by decide +kernel
theorem d_Mo_under_69 : decode b_Mo_under 69 = .ok (.iconst (-1), 1) := by decide +kernel
theorem d_Mo_under_70 : decode b_Mo_under 70 = .ok (.ireturn, 1) := by decide +kernel
set_option maxHeartbeats 1000000 in
set_option maxRecDepth 100000 in
theorem c_Mo_under (F : Nat → Nat → Int) (G : Nat → Int → Int) (x y : Int) (hx : -2147483648 ≤ x ∧ x < 2147483648) (hy : -2147483648 ≤ y ∧ y < 2147483648) (hn : 0 ≤ F 244 1 ∧ F 244 1 ≤ 10) (hSh : ∀ k : Int, 0 ≤ k → k < F 244 1 → mSh G (G 250 k)) : cI y_Mo_under b_Mo_under 4 (some .int) 3 71 F G (fun ad => [.ref (ad 244), .int (iI x), .int (iI y)]) (fun z F' G' => (¬ inR x y ∧ F' = fU F 244 0 1 ∧ G' = G) ∨ (inR x y ∧ F' 244 0 = 0 ∧ (∀ a b, ¬ (a = 244 ∧ (b = 0 ∨ b = 12)) → F' a b = F a b) ∧ (∀ a, ¬ (251 ≤ a ∧ a ≤ 257) → G' a = G a) ∧ ((∃ i : Int, (0 ≤ i ∧ i < F 244 1) ∧ z = G 250 i ∧ hasR G (G 250 i) x y ∧ ∀ j : Int, i < j → j < F 244 1 → ¬ hasR G (G 250 j) x y) ∨ (z = -1 ∧ ∀ j : Int, 0 ≤ j → j < F 244 1 → ¬ hasR G (G 250 j) x y)))) := by
  intro s0 a0 D t ad
  refine g_startI (by decide +kernel) (Nat.le_of_ble_eq_true rfl) (fun p l e R s m args below meth c A ok => ?_)
  show gW p l e R s m args below meth c _ D A 4 (gZ0 s) 0 0 ad 265 (mem ad t F G) 0 [(0, .ref (ad 244)), (1, .int (iI x)), (2, .int (iI y))] []
  refine g_aload_n ok d_Mo_under_0 rfl 0 rfl ?_
  refine g_iload_n ok d_Mo_under_1 rfl 1 rfl ?_
  refine g_iload_n ok d_Mo_under_2 rfl 2 rfl ?_
  refine g_callPS (As := [.int (iI x), .int (iI y)]) (st := [.ref (ad 244)]) ok (c_Mo_isPlace F G _ _ hx hy s0 a0 D t ad) k_1107 k_11 k_1105 k_1106 q_Mo_isPlace (by decide) (Nat.le_of_ble_eq_true rfl) (by decide) d_Mo_under_3 (fun z1 hc1 => ?_)
  have hpl : (z1 = 1 ∧ inR x y) ∨ (z1 = 0 ∧ ¬ inR x y) := by rw [hc1]; unfold inR; split <;> omega
  refine g_if_eq ok 13 d_Mo_under_6 (by decide) (by omega) (fun h2 => ?_) (fun h2 => ?_)
  · refine g_iconst ok d_Mo_under_13 ?_
    refine pI_Mo_thrownCode ok _ rfl k_989 d_Mo_under_14 ?_
    refine g_aload_n ok d_Mo_under_17 rfl 0 rfl ?_
    refine gI_Mo_thrownCode ok _ rfl k_989 d_Mo_under_18 ?_
    refine g_top (y := 1) (by show (fU F 244 0 1) 244 0 = _; rw [fU_hit]) ?_
    refine g_if_eq ok 26 d_Mo_under_21 (by decide) (by omega) (fun h3 => ?_) (fun h3 => ?_)
    · exact absurd h3 (by decide)
    · refine g_iconst ok d_Mo_under_24 ?_
      exact g_iret ok d_Mo_under_25 ⟨_, _, rfl, Or.inl ⟨by rcases hpl with z | z; omega; exact z.2, rfl, rfl⟩⟩
  · refine g_iconst ok d_Mo_under_9 ?_
    refine g_goto ok 14 d_Mo_under_10 (by decide) ?_
    refine pI_Mo_thrownCode ok _ rfl k_989 d_Mo_under_14 ?_
    refine g_aload_n ok d_Mo_under_17 rfl 0 rfl ?_
    refine gI_Mo_thrownCode ok _ rfl k_989 d_Mo_under_18 ?_
    refine g_top (y := 0) (by show (fU F 244 0 0) 244 0 = _; rw [fU_hit]) ?_
    refine g_if_eq ok 26 d_Mo_under_21 (by decide) (by omega) (fun h4 => ?_) (fun h4 => ?_)
    · have hU : inR x y := by rcases hpl with z | z; exact z.2; omega
      refine g_aload_n ok d_Mo_under_26 rfl 0 rfl ?_
      refine gI_Mo_shapes ok _ rfl k_990 d_Mo_under_27 ?_
      refine g_top (y := F 244 1) (by show (fU F 244 0 0) 244 1 = _; rw [fU_ja (show (1 : Nat) ≠ 0 by decide)]) ?_
      refine g_iconst ok d_Mo_under_30 ?_
      refine g_isub ok d_Mo_under_31 ?_
      refine g_istore_n (lv' := [(3, .int (iI ((F 244 1) - 1))), (0, .ref (ad 244)), (1, .int (iI x)), (2, .int (iI y))]) ok d_Mo_under_32 rfl (by decide) rfl ?_
      have L_i : ∀ (n_i : Nat) (i : Int) (F1 : Nat → Nat → Int) (G1 : Nat → Int → Int), (-1 ≤ i ∧ i < F 244 1) → (F1 244 0 = 0) → (∀ a b, ¬ (a = 244 ∧ (b = 0 ∨ b = 12)) → F1 a b = F a b) → (∀ a, ¬ (251 ≤ a ∧ a ≤ 257) → G1 a = G a) → (∀ j : Int, i < j → j < F 244 1 → ¬ hasR G (G 250 j) x y) → (i + 2) < (n_i : Int) → gW p l e R s m args below meth c (MQ below (gQi D A ad 265 (fun z ce' => ∃ F' G', ce' = mem ad t F' G' ∧ (fun z F' G' => (¬ inR x y ∧ F' = fU F 244 0 1 ∧ G' = G) ∨ (inR x y ∧ F' 244 0 = 0 ∧ (∀ a b, ¬ (a = 244 ∧ (b = 0 ∨ b = 12)) → F' a b = F a b) ∧ (∀ a, ¬ (251 ≤ a ∧ a ≤ 257) → G' a = G a) ∧ ((∃ i : Int, (0 ≤ i ∧ i < F 244 1) ∧ z = G 250 i ∧ hasR G (G 250 i) x y ∧ ∀ j : Int, i < j → j < F 244 1 → ¬ hasR G (G 250 j) x y) ∨ (z = -1 ∧ ∀ j : Int, 0 ≤ j → j < F 244 1 → ¬ hasR G (G 250 j) x y)))) z F' G')) args s 0 0 A) D A 4 (gZ) 0 0 ad 265 (mem ad t F1 G1) 33 [(0, .ref (ad 244)), (1, .int (iI x)), (2, .int (iI y)), (3, .int (iI i))] [] := by
        intro n_i
        induction n_i with
        | zero =>
          intro i F1 G1 hi h0 hf1 hg1 hno hm_i
          exact absurd hm_i (by omega)
        | succ n_i ih_i =>
          intro i F1 G1 hi h0 hf1 hg1 hno hm_i
          have hca : ∀ a, a ≤ 250 → G1 a = G a := fun a z => hg1 a (by omega)
          refine g_iload_n ok d_Mo_under_33 rfl 3 rfl ?_
          refine g_if_lt ok 69 d_Mo_under_34 (by decide) (by omega) (fun h5 => ?_) (fun h5 => ?_)
          · refine g_iconst ok d_Mo_under_69 ?_
            exact g_iret ok d_Mo_under_70 ⟨_, _, rfl, Or.inr ⟨hU, h0, hf1, hg1, Or.inr ⟨rfl, fun j j1 j2 => hno j (by omega) j2⟩⟩⟩
          · have hSi := hSh i (by omega) (by omega)
            have hsi := hSi.1
            refine g_aload_n ok d_Mo_under_37 rfl 0 rfl ?_
            refine g_aload_n ok d_Mo_under_38 rfl 0 rfl ?_
            refine gI_Mo_order ok _ rfl k_997 d_Mo_under_39 ?_
            refine g_iload_n ok d_Mo_under_42 rfl 3 rfl ?_
            refine h_iald ok _ a_250 (by omega) d_Mo_under_43 ?_
            refine g_top (y := G 250 i) (by show G1 250 i = _; rw [hca 250 (by decide)]) ?_
            refine g_callVV (As := [.int (iI (G 250 i))]) (st := []) ok _ (c_Mo_edgesOf F1 G1 _ (mSh_up hca hSi).2.1 s0 a0 D t ad) k_1134 k_11 k_1131 cl_Mo (m_Mo (ad := ad) (t := t) (F := F1) (G := G1) rfl).1 (m_Mo rfl).2 k_1133 s_Mo_edgesOf q_Mo_edgesOf (by decide) (Nat.le_of_ble_eq_true rfl) (by decide) d_Mo_under_44 (fun ce1 hc6 => ?_)
            obtain ⟨F2, G2, rfl, hF2, hE2⟩ := hc6
            have hW : mEdW G (G 250 i) G2 := (mEdW_up hca).mp hE2.2
            have e12 : F2 244 12 = oM G (G 250 i) 4 := by rw [hF2, fU_hit]; exact oM_upA hca 4
            refine g_aload_n ok d_Mo_under_47 rfl 0 rfl ?_
            refine g_iload_n ok d_Mo_under_48 rfl 1 rfl ?_
            refine g_iload_n ok d_Mo_under_49 rfl 2 rfl ?_
            refine g_callIV (As := [.int (iI x), .int (iI y)]) (st := []) ok _ (c_Mo_in F2 G2 _ _ (by rw [e12]; exact oM_100 hSi.2.1) (by rw [e12]; exact mE_W hSi.2.1 hSi.2.2.1 hW) hU.1 hU.2 s0 a0 D t ad) k_1205 k_11 k_1202 cl_Mo (m_Mo (ad := ad) (t := t) (F := F2) (G := G2) rfl).1 (m_Mo rfl).2 k_1204 s_Mo_in q_Mo_in (by decide) (Nat.le_of_ble_eq_true rfl) (by decide) d_Mo_under_50 (fun zi ce1 hc7 => ?_)
            obtain ⟨F3, G3, rfl, hF3, hg3, hz01, hzs⟩ := hc7
            have hzR : zi = 1 ↔ hasR G (G 250 i) x y := by rw [hzs, e12, ← hasR_eq hW]; exact ⟨fun z => ⟨hU, z⟩, fun z => z.2⟩
            have hg3f : ∀ a, ¬ (251 ≤ a ∧ a ≤ 257) → G3 a = G a := fun a z => (hg3 a (by omega)).trans ((hE2.1 a (by omega)).trans (hg1 a z))
            have hca3 : ∀ a, a ≤ 250 → G3 a = G a := fun a z => hg3f a (by omega)
            have hf3 : ∀ a b, ¬ (a = 244 ∧ (b = 0 ∨ b = 12)) → F3 a b = F a b := fun a b z => by rw [hF3, hF2]; unfold fU; rw [if_neg (by omega)]; exact hf1 a b z
            have h00 : F3 244 0 = 0 := by rw [hF3, hF2, fU_ja (by decide)]; exact h0
            refine g_if_eq ok 63 d_Mo_under_53 (by decide) (by omega) (fun h8 => ?_) (fun h8 => ?_)
            · refine g_iinc (lv' := [(3, .int (iI (i + (-1)))), (0, .ref (ad 244)), (1, .int (iI x)), (2, .int (iI y))]) ok d_Mo_under_63 3 rfl (by decide) rfl ?_
              refine g_goto ok 33 d_Mo_under_66 (by decide) ?_
              refine g_lv [1, 2, 3, 0] rfl ?_
              exact ih_i (i + (-1)) F3 G3 (by omega) (h00) (hf3) (hg3f) (fun j z1 z2 => by by_cases y1 : j = i; subst y1; exact fun y2 => absurd (hzR.mpr y2) (by omega); exact hno j (by omega) z2) (by omega)
            · refine g_aload_n ok d_Mo_under_56 rfl 0 rfl ?_
              refine gI_Mo_order ok _ rfl k_997 d_Mo_under_57 ?_
              refine g_iload_n ok d_Mo_under_60 rfl 3 rfl ?_
              refine h_iald ok _ a_250 (by omega) d_Mo_under_61 ?_
              refine g_top (y := G 250 i) (by show G3 250 i = _; rw [hca3 250 (by decide)]) ?_
              exact g_iret ok d_Mo_under_62 ⟨_, _, rfl, Or.inr ⟨hU, h00, hf3, hg3f, Or.inl ⟨i, by omega, rfl, hzR.mp (by omega), hno⟩⟩⟩
      refine g_z ?_
      refine g_lv [1, 2, 3, 0] rfl ?_
      exact L_i ((((F 244 1) - 1) + 2 : Int).toNat + 1) ((F 244 1) - 1) (fU F 244 0 0) G (by omega) (fU_hit) (fun a b z => by unfold fU; rw [if_neg (by omega)]) (fun _ _ => rfl) (fun j z1 z2 => by omega) (by omega)
    · exact absurd h4 (by decide)
