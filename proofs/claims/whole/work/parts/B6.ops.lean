/-! load, decode, shape, under, reorder and stitch on both sides -/
theorem o_load {F : Nat → Nat → Int} {G : Nat → Int → Int} (h : Inv F G) (p1 p2 : Int) (q1 : -2147483648 ≤ p1 ∧ p1 < 2147483648) (q2 : -2147483648 ≤ p2 ∧ p2 < 2147483648) : oq_load Inv F G p1 p2 := by
  obtain ⟨hA, hF, hL, hP, hQ, hT, hS, hO⟩ := id h
  have hs := hL.1.1
  have hs' : 0 ≤ F 244 30 ∧ F 244 30 ≤ 1500 := by rw [hL.2.1]; exact hs
  by_cases c1 : 0 ≤ p1 ∧ p1 ≤ F 0 9 ∧ p1 < 1500
  · by_cases c2 : 0 ≤ p2 ∧ p2 ≤ 255
    · refine ⟨_, l_load_ok F G p1 p2 _ (c_Dk_load F G p1 p2 hs c1 c2), fun k F1 G1 hk => ?_⟩
      obtain ⟨ek, w, Gm, ⟨hG1, hw⟩, hG2⟩ := hk
      have e30 : F1 244 30 = F 244 30 ∧ F1 0 9 = w ∧ (w = F 0 9 ∨ w = F 0 9 + 1) ∧ (p1 = F 0 9 → w = F 0 9 + 1) ∧ (¬ p1 = F 0 9 → w = F 0 9) ∧ (∀ a b, ¬ (a = 0 ∧ b = 9) → F1 a b = F a b) := by
        rcases hw with ⟨a1, a2, a3⟩ | ⟨a1, a2, a3⟩
        · rw [a2]
          refine ⟨fU_ka (by decide), by rw [fU_hit, a3], Or.inr a3, fun _ => a3, fun z => absurd a1 z, fun a b z => ?_⟩
          unfold fU
          rw [if_neg z]
        · rw [a2]
          exact ⟨rfl, a3.symm, Or.inl a3, fun z => absurd z a1, fun _ => a3, fun _ _ _ => rfl⟩
      obtain ⟨f1, f2, f3, f4, f5, f6⟩ := e30
      have gr : ∀ a, a ≠ 223 → a ≠ 264 → G1 a = G a := fun a z1 z2 => by rw [hG2, gU_k _ _ _ z2, hG1, gU_k _ _ _ z1]
      have g223 : G1 223 = zU (G 223) p1 p2 := by rw [hG2, gU_k _ _ _ (by decide), hG1, gU_self]
      refine ⟨_, c_Mo_load F1 G1 p1 p2 q1 q2 (by rw [f1]; exact hs'), fun z F2 G2 h2 => ?_⟩
      rw [f1, hL.2.1] at h2
      rcases h2 with ⟨a, -⟩ | ⟨-, a, -⟩ | ⟨-, -, b1, b2⟩
      · exact absurd c1 a
      · exact absurd c2 a
      · have e2 : F2 244 0 = 0 ∧ F2 244 30 = z ∧ z = w ∧ ∀ a b, ¬ (a = 244 ∧ (b = 0 ∨ b = 30)) → F2 a b = F1 a b := by
          rcases b2 with ⟨a1, a2, a3⟩ | ⟨a1, a2, a3⟩
          · rw [a2]
            refine ⟨by rw [fU_ja (by decide), fU_hit], by rw [fU_hit, a3], by rw [a3, f4 a1], fun a b z => ?_⟩
            unfold fU
            rw [if_neg (by omega), if_neg (by omega)]
          · rw [a2]
            refine ⟨fU_hit, by rw [fU_ja (by decide), f1, hL.2.1, a3], by rw [a3, f5 a1], fun a b z => ?_⟩
            unfold fU
            rw [if_neg (by omega)]
        obtain ⟨d1, d2, d3, d4⟩ := e2
        have fr : ∀ a b, ¬ (a = 0 ∧ b = 9) → ¬ (a = 244 ∧ (b = 0 ∨ b = 30)) → F2 a b = F a b := fun a b z1 z2 => by rw [d4 a b z2, f6 a b z1]
        have gr2 : ∀ a, a ≠ 223 → a ≠ 264 → a ≠ 261 → G2 a = G a := fun a z1 z2 z3 => by rw [b1, gU_k _ _ _ z3, gr a z1 z2]
        have e09 : F2 0 9 = w := by rw [d4 0 9 (by omega), f2]
        have g2 : G2 223 = zU (G 223) p1 p2 := by rw [b1, gU_k _ _ _ (by decide), g223]
        have g3 : G2 261 = zU (G 261) p1 p2 := by rw [b1, gU_self, gr 261 (by decide) (by decide)]
        subst ek
        refine ⟨by decide, d1, fun _ => ?_, ivA_cong hA (fr _ _ (by omega) (by omega)) (fr _ _ (by omega) (by omega)) (fr _ _ (by omega) (by omega)) (fr _ _ (by omega) (by omega)) (fr _ _ (by omega) (by omega)), ivF_cong hF (fun b => fr _ _ (by omega) (by omega)) (fun b z => fr _ _ (by omega) (by omega)), ?_, ivP_cong hP (fr _ _ (by omega) (by omega)) (fr _ _ (by omega) (by omega)) (gr2 _ (by omega) (by omega) (by omega)) (gr2 _ (by omega) (by omega) (by omega)) (gr2 _ (by omega) (by omega) (by omega)) (gr2 _ (by omega) (by omega) (by omega)), ivQ_cong hQ (fr _ _ (by omega) (by omega)) (gr2 _ (by omega) (by omega) (by omega)) (gr2 _ (by omega) (by omega) (by omega)), ivT_cong hT (gr2 _ (by omega) (by omega) (by omega)), ivS_cong hA.1.2 hS (fr _ _ (by omega) (by omega)) (fun a b c d => fr a b (by omega) (by omega)) (fun a c d => gr2 a (by omega) (by omega) (by omega)) (fun a c d => gr2 a (by omega) (by omega) (by omega)), ivO_cong hA hO (fr _ _ (by omega) (by omega)) (fr _ _ (by omega) (by omega)) (fun a b c d => fr a b (by omega) (by omega)) (fun a c d => gr2 a (by omega) (by omega) (by omega)) (fun a c d => gr2 a (by omega) (by omega) (by omega))⟩
        · rw [b1, gU_a (by decide), hG2, gU_hit, d3]
        · unfold ivL byOk
          rw [e09, d2, d3, g2, g3]
          refine ⟨⟨by omega, fun i i0 i1 => ?_⟩, rfl, fun i i0 i1 => ?_⟩
          · unfold zU
            split
            · omega
            · exact hL.1.2 i i0 (by omega)
          · unfold zU
            split
            · rfl
            · exact hL.2.2 i i0 (by omega)
    · refine ⟨_, l_load_IAE F G p1 p2 (t_Dk_load_2 F G p1 p2 q1 q2 hs c1 c2), fun k F1 G1 hk => ?_⟩
      obtain ⟨rfl, rfl, rfl⟩ := hk
      refine ⟨_, c_Mo_load _ _ p1 p2 q1 q2 hs', fun z F2 G2 h2 => ?_⟩
      rw [hL.2.1] at h2
      rcases h2 with ⟨a, -⟩ | ⟨-, a, rfl, rfl⟩ | ⟨-, a, -⟩
      · exact absurd c1 a
      · exact ⟨by decide, fU_hit, fun x => absurd x (by decide), iv_t h 2⟩
      · exact absurd a c2
  · refine ⟨_, l_load_IOB F G p1 p2 (t_Dk_load_1 F G p1 p2 q1 q2 hs c1), fun k F1 G1 hk => ?_⟩
    obtain ⟨rfl, rfl, rfl⟩ := hk
    refine ⟨_, c_Mo_load _ _ p1 p2 q1 q2 hs', fun z F2 G2 h2 => ?_⟩
    rw [hL.2.1] at h2
    rcases h2 with ⟨a, rfl, rfl⟩ | ⟨a, -⟩ | ⟨a, -⟩
    · exact ⟨by decide, fU_hit, fun x => absurd x (by decide), iv_t h 1⟩
    · exact absurd a c1
    · exact absurd a c1
theorem wrong_cg {g g' : Int → Int} {L : Int} (h : ∀ i : Int, 0 ≤ i → i < L → g' i = g i) {j : Int} (hj : 0 ≤ j) : dWrong g' L j ↔ dWrong g L j := by
  unfold dWrong
  by_cases c : L < j + 3
  · exact ⟨fun _ => Or.inl c, fun _ => Or.inl c⟩
  · have e : grpA g' j = grpA g j := by
      unfold grpA
      rw [h j hj (by omega), h (j + 1) (by omega) (by omega), h (j + 2) (by omega) (by omega)]
    rw [e]
theorem wrong_uniq {g g' : Int → Int} {L z z' : Int} (h : ∀ i : Int, 0 ≤ i → i < L → g' i = g i) (h1 : fWrong g L z) (h2 : fWrong g' L z') : z = z' := by
  rcases h1 with ⟨a1, a2⟩ | ⟨a1, a2, a3⟩ <;> rcases h2 with ⟨b1, b2⟩ | ⟨b1, b2, b3⟩
  · omega
  · exact absurd ((wrong_cg h b1.1).mp b2) (a2 z' b1.1 b1.2.1 b1.2.2)
  · exact absurd ((wrong_cg h a1.1).mpr a2) (b2 z a1.1 a1.2.1 a1.2.2)
  · rcases Int.lt_trichotomy z z' with c | c | c
    · exact absurd ((wrong_cg h a1.1).mpr a2) (b3 z a1.1 c a1.2.2)
    · exact c
    · exact absurd ((wrong_cg h b1.1).mp b2) (a3 z' b1.1 c b1.2.2)
theorem cd_rng {b : Int} (hb : 0 ≤ b ∧ b < 16777216) (h : okRec b) : (0 ≤ cdOf b ∧ cdOf b < 262144) ∧ cdOf b % 256 - 128 = numC (b % 1024) ∧ cdOf b / 256 % 256 - 128 = numC (b / 1024 % 1024) ∧ cdOf b / 65536 = b / 1048576 ∧ (-121 ≤ numC (b % 1024) ∧ numC (b % 1024) ≤ 121) ∧ (-121 ≤ numC (b / 1024 % 1024) ∧ numC (b / 1024 % 1024) ≤ 121) := by
  have x := numC_rng h.1
  have y := numC_rng h.2.1
  have w := h.2.2
  have d : b / 1048576 % 4 = b / 1048576 := by omega
  have d2 : 0 ≤ b / 1048576 ∧ b / 1048576 < 4 := by omega
  unfold cdOf
  rw [d]
  refine ⟨by omega, by omega, by omega, by omega, x, y⟩
theorem o_decode {F : Nat → Nat → Int} {G : Nat → Int → Int} (h : Inv F G) : oq_decode Inv F G := by
  obtain ⟨hA, hF, hL, hP, hQ, hT, hS, hO⟩ := id h
  refine ⟨_, c_Dk_decode F G hL.1, fun z1 F1 G1 h1 => ?_⟩
  have f30 : F1 244 30 = F 0 9 := by
    rcases h1 with ⟨i, -, -, -, a, -⟩ | ⟨-, -, -, a, -, -⟩
    · rw [a, hL.2.1]
    · rw [a, fU_ka (by decide), fU_ka (by decide), fU_ka (by decide), hL.2.1]
  have g261 : G1 261 = G 261 := by
    rcases h1 with ⟨i, -, -, -, -, a⟩ | ⟨-, -, -, -, a, -⟩
    · rw [a]
    · exact a 261 (by decide)
  have hB : byOk (G1 261) (F1 244 30) := by
    rw [f30, g261]
    exact ⟨hL.1.1, fun i i0 i1 => by rw [hL.2.2 i i0 i1]; exact hL.1.2 i i0 i1⟩
  refine ⟨_, c_Mo_decode F1 G1 hB, fun z F2 G2 h2 => ?_⟩
  rw [f30, g261] at h2
  rcases h1 with ⟨i, a1, a2, a3, a4, a5⟩ | ⟨a1, a2, a3, a4, a5, a6⟩
  · rcases h2 with ⟨i', b1, b2, b3, b4, b5⟩ | ⟨b1, -⟩
    · have e := wrong_uniq hL.2.2 a2 b2
      rw [b4, b5, a4, a5]
      exact ⟨by rw [a3, b3, e], iv_t h 0⟩
    · have e := wrong_uniq hL.2.2 a2 b1
      omega
  · rcases h2 with ⟨i', b1, b2, -⟩ | ⟨b1, b2, b3, b4, b5, b6⟩
    · have e := wrong_uniq hL.2.2 a1 b2
      omega
    · refine ⟨by rw [a3, b3], ?_⟩
      have fr : ∀ a b, ¬ (a = 236 ∧ (b = 1 ∨ b = 2)) → ¬ (a = 0 ∧ b = 9) → ¬ (a = 244 ∧ (b = 0 ∨ b = 20 ∨ b = 30)) → F2 a b = F a b := fun a b y1 y2 y3 => by
        rw [b4, a4]
        unfold fU
        rw [if_neg (by omega), if_neg (by omega), if_neg (by omega), if_neg (by omega), if_neg (by omega), if_neg (by omega)]
      have gr : ∀ a, a ≠ 237 → a ≠ 258 → a ≠ 259 → a ≠ 260 → G2 a = G a := fun a y1 y2 y3 y4 => by rw [b5 a y2 y3 y4, a5 a y1]
      have n0 := hL.1.1
      have e1 : F2 236 1 = F 0 9 / 3 := by
        rw [b4, fU_ka (by decide), fU_ka (by decide), fU_ka (by decide), a4, fU_ka (by decide), fU_ja (by decide), fU_hit]
      have e2 : F2 244 20 = F 0 9 / 3 := by rw [b4, fU_ja (by decide), fU_hit]
      have e3 : F2 0 9 = 0 := by rw [b4, fU_ka (by decide), fU_ka (by decide), fU_ka (by decide), a4, fU_hit]
      have e4 : F2 244 30 = 0 := by rw [b4, fU_hit]
      have g237 : G2 237 = G1 237 := b5 237 (by decide) (by decide) (by decide)
      have good : ∀ j : Int, 0 ≤ j → j < F 0 9 / 3 → okRec (grpA (G 223) (3 * j)) ∧ (0 ≤ grpA (G 223) (3 * j) ∧ grpA (G 223) (3 * j) < 16777216) ∧ grpA (G 261) (3 * j) = grpA (G 223) (3 * j) := fun j j0 j1 => by
        rcases a1 with ⟨-, w⟩ | ⟨w, -⟩
        · have w2 := w (3 * j) (by omega) (by omega) (by omega)
          unfold dWrong at w2
          refine ⟨Classical.byContradiction (fun y => w2 (Or.inr y)), ?_, ?_⟩
          · have x0 := hL.1.2 (3 * j) (by omega) (by omega)
            have x1 := hL.1.2 (3 * j + 1) (by omega) (by omega)
            have x2 := hL.1.2 (3 * j + 2) (by omega) (by omega)
            unfold grpA
            omega
          · unfold grpA
            rw [hL.2.2 (3 * j) (by omega) (by omega), hL.2.2 (3 * j + 1) (by omega) (by omega), hL.2.2 (3 * j + 2) (by omega) (by omega)]
        · omega
      have recs : ∀ j : Int, 0 ≤ j → j < F 0 9 / 3 → (0 ≤ G2 237 j ∧ G2 237 j < 262144) ∧ (-121 ≤ cX G2 j ∧ cX G2 j ≤ 121) ∧ (-121 ≤ cY G2 j ∧ cY G2 j ≤ 121) ∧ G2 258 j = cX G2 j ∧ G2 259 j = cY G2 j ∧ G2 260 j = cK G2 j := fun j j0 j1 => by
        obtain ⟨w1, w2, w3⟩ := good j j0 j1
        obtain ⟨v1, v2, v3⟩ := b6 j j0 j1
        rw [w3] at v1 v2 v3
        have u := cd_rng w2 w1
        have e : G2 237 j = cdOf (grpA (G 223) (3 * j)) := by rw [g237]; exact a6 j j0 j1
        unfold cX cY cK
        rw [e, v1, v2, v3, u.2.1, u.2.2.1, u.2.2.2.1]
        exact ⟨u.1, u.2.2.2.2.1, u.2.2.2.2.2, rfl, rfl, rfl⟩
      refine ⟨ivA_cong hA (fr _ _ (by omega) (by omega) (by omega)) (fr _ _ (by omega) (by omega) (by omega)) (fr _ _ (by omega) (by omega) (by omega)) (fr _ _ (by omega) (by omega) (by omega)) (fr _ _ (by omega) (by omega) (by omega)), ivF_cong hF (fun b => fr _ _ (by omega) (by omega) (by omega)) (fun b z => fr _ _ (by omega) (by omega) (by omega)), ?_, ?_, ivQ_cong hQ (fr _ _ (by omega) (by omega) (by omega)) (gr _ (by omega) (by omega) (by omega) (by omega)) (gr _ (by omega) (by omega) (by omega) (by omega)), ivT_cong hT (gr _ (by omega) (by omega) (by omega) (by omega)), ivS_cong hA.1.2 hS (fr _ _ (by omega) (by omega) (by omega)) (fun a b c d => fr a b (by omega) (by omega) (by omega)) (fun a c d => gr a (by omega) (by omega) (by omega) (by omega)) (fun a c d => gr a (by omega) (by omega) (by omega) (by omega)), ivO_cong hA hO (fr _ _ (by omega) (by omega) (by omega)) (fr _ _ (by omega) (by omega) (by omega)) (fun a b c d => fr a b (by omega) (by omega) (by omega)) (fun a c d => gr a (by omega) (by omega) (by omega) (by omega)) (fun a c d => gr a (by omega) (by omega) (by omega) (by omega))⟩
      · unfold ivL byOk
        rw [e3, e4]
        exact ⟨⟨by omega, fun i i0 i1 => by omega⟩, rfl, fun i i0 i1 => by omega⟩
      · unfold ivP pRec pOk
        rw [e1, e2]
        refine ⟨⟨⟨by omega, fun a y0 y1 => (recs a y0 y1).1⟩, fun a y0 y1 => ⟨(recs a y0 y1).2.1, (recs a y0 y1).2.2.1⟩⟩, rfl, fun a y0 y1 => (recs a y0 y1).2.2.2⟩
theorem o_shape {F : Nat → Nat → Int} {G : Nat → Int → Int} (h : Inv F G) (p1 p2 : Int) (q1 : -2147483648 ≤ p1 ∧ p1 < 2147483648) (q2 : -2147483648 ≤ p2 ∧ p2 < 2147483648) : oq_shape Inv F G p1 p2 := by
  obtain ⟨hA, hF, hL, hP, hQ, hT, hS, hO⟩ := id h
  have hn := hA.1
  have hn' : 0 ≤ F 244 1 ∧ F 244 1 ≤ 10 := by rw [hA.2.1]; exact hn
  have msh : ∀ {F1 : Nat → Nat → Int} {G1 : Nat → Int → Int}, Inv F1 G1 → ∀ k : Int, 0 ≤ k → k < F1 244 1 → mSh G1 k := fun {F1 G1} hi k k0 k1 => by
    have e := hi.1.2.1
    have b := hi.1.1
    exact cpl_mSh (by omega) (hi.2.2.2.2.2.2.1 k k0 (by omega))
  by_cases c1 : 0 ≤ p1 ∧ p1 < F 0 8
  · by_cases c2 : 0 ≤ p2 ∧ p2 ≤ 9
    · refine ⟨_, l_shape_ok F G p1 p2 _ (c_Dk_shape F G (2 + 22 * p1.toNat) p1 p2 hn c1 rfl c2), fun k F1 G1 hk => ?_⟩
      obtain ⟨ek, w, hw, eF, eG⟩ := hk
      have hi : Inv F1 G1 := by rw [eF, eG]; exact iv_g h _
      have hc := hi.2.2.2.2.2.2.1 p1 c1.1 (by rw [eF]; exact c1.2)
      refine ⟨_, c_Mo_shape F1 G1 p1 p2 q1 q2 (by rw [eF]; exact hn') (msh hi), fun z F2 G2 h2 => ?_⟩
      obtain ⟨tc, h3, h4⟩ := h2
      rw [eF, hA.2.1] at h3
      have tc0 : tc = 0 := by
        rcases h3 with ⟨-, a⟩ | ⟨-, -, a⟩ | ⟨a, -⟩
        · exact absurd c1 a
        · exact absurd c2 a
        · exact a
      rcases h4 with ⟨a, -⟩ | ⟨-, b1, b2, b3, b4⟩
      · exact absurd tc0 a
      · have er := cpl_runs ⟨c1.1, by omega⟩ hc
        rw [er] at b4
        obtain ⟨-, hu, hx, ⟨ht, -⟩, -⟩ := hc
        rw [← eF] at hw
        have e1 : w = z := by
          rw [b4, show w = _ from hw]
          unfold shV
          rcases (show p2 = 0 ∨ p2 = 1 ∨ p2 = 2 ∨ p2 = 3 ∨ p2 = 4 ∨ p2 = 5 ∨ p2 = 6 ∨ p2 = 7 ∨ p2 = 8 ∨ p2 = 9 by omega) with e | e | e | e | e | e | e | e | e | e <;> subst e
          · rw [if_pos rfl, if_pos (by decide), Int.add_zero]
            exact ht.1.symm
          · rw [if_neg (by decide), if_pos rfl, if_pos (by decide)]
            exact ht.2.1.symm
          · rw [if_neg (by decide), if_neg (by decide), if_pos rfl, if_pos (by decide)]
            exact ht.2.2.1.symm
          · rw [if_neg (by decide), if_neg (by decide), if_neg (by decide), if_pos rfl, if_pos (by decide)]
            exact ht.2.2.2.symm
          · rw [if_neg (by decide), if_neg (by decide), if_neg (by decide), if_neg (by decide), if_pos rfl, if_neg (by decide), if_pos (by decide), show 4 * p1 + 4 - 4 = 4 * p1 by omega]
            exact hx.1.symm
          · rw [if_neg (by decide), if_neg (by decide), if_neg (by decide), if_neg (by decide), if_neg (by decide), if_pos rfl, if_neg (by decide), if_pos (by decide), show 4 * p1 + 5 - 4 = 4 * p1 + 1 by omega]
            exact hx.2.1.symm
          · rw [if_neg (by decide), if_neg (by decide), if_neg (by decide), if_neg (by decide), if_neg (by decide), if_neg (by decide), if_pos rfl, if_neg (by decide), if_pos (by decide), show 4 * p1 + 6 - 4 = 4 * p1 + 2 by omega]
            exact hx.2.2.1.symm
          · rw [if_neg (by decide), if_neg (by decide), if_neg (by decide), if_neg (by decide), if_neg (by decide), if_neg (by decide), if_neg (by decide), if_pos rfl, if_neg (by decide), if_pos (by decide), show 4 * p1 + 7 - 4 = 4 * p1 + 3 by omega]
            exact hx.2.2.2.symm
          · rw [if_neg (by decide), if_neg (by decide), if_neg (by decide), if_neg (by decide), if_neg (by decide), if_neg (by decide), if_neg (by decide), if_neg (by decide), if_pos rfl, if_neg (by decide), if_neg (by decide), if_pos rfl]
            exact hu.1
          · rw [if_neg (by decide), if_neg (by decide), if_neg (by decide), if_neg (by decide), if_neg (by decide), if_neg (by decide), if_neg (by decide), if_neg (by decide), if_neg (by decide), if_neg (by decide), if_neg (by decide), if_neg (by decide)]
            exact hu.2
        subst ek
        refine ⟨by decide, b1, fun _ => ?_, iv_q hi b2 (fun a y1 _ => b3 a y1)⟩
        rw [b3 264 (by decide), eG, gU_hit, e1]
    · refine ⟨_, l_shape_IAE F G p1 p2 (t_Dk_shape_2 F G (2 + 22 * p1.toNat) p1 p2 q1 q2 hn c1 rfl c2), fun k F1 G1 hk => ?_⟩
      obtain ⟨ek, eF, eG⟩ := hk
      subst ek
      rw [eF, eG]
      refine ⟨_, c_Mo_shape F G p1 p2 q1 q2 hn' (msh h), fun z F2 G2 h2 => ?_⟩
      obtain ⟨tc, h3, h4⟩ := h2
      rw [hA.2.1] at h3
      have tc2 : tc = 2 := by
        rcases h3 with ⟨-, a⟩ | ⟨a, -⟩ | ⟨-, -, a⟩
        · exact absurd c1 a
        · exact a
        · exact absurd a c2
      rcases h4 with ⟨-, a1, a2⟩ | ⟨a, -⟩
      · rw [a1, a2, tc2]
        exact ⟨by decide, fU_hit, fun x => absurd x (by decide), iv_t h 2⟩
      · omega
  · refine ⟨_, l_shape_NSE F G p1 p2 (t_Dk_shape_1 F G p1 p2 q1 q2 hn c1), fun k F1 G1 hk => ?_⟩
    obtain ⟨ek, eF, eG⟩ := hk
    subst ek
    rw [eF, eG]
    refine ⟨_, c_Mo_shape F G p1 p2 q1 q2 hn' (msh h), fun z F2 G2 h2 => ?_⟩
    obtain ⟨tc, h3, h4⟩ := h2
    rw [hA.2.1] at h3
    have tc1 : tc = 1 := by
      rcases h3 with ⟨a, -⟩ | ⟨-, a, -⟩ | ⟨-, a, -⟩
      · exact a
      · exact absurd a c1
      · exact absurd a c1
    rcases h4 with ⟨-, a1, a2⟩ | ⟨a, -⟩
    · rw [a1, a2, tc1]
      exact ⟨by decide, fU_hit, fun x => absurd x (by decide), iv_t h 1⟩
    · omega
theorem iv_sq {F : Nat → Nat → Int} {G : Nat → Int → Int} (h : Inv F G) {j : Int} (j0 : 0 ≤ j) (j1 : j < F 0 8) : (0 ≤ G 222 j ∧ G 222 j < 10) ∧ cpl F G (shP G j) (G 222 j) ∧ G 250 j = G 222 j := by
  obtain ⟨a, b, c⟩ := h.2.2.2.2.1 j j0 j1
  have hn := h.1.1
  exact ⟨⟨b, by omega⟩, h.2.2.2.2.2.2.1 _ b c, a⟩
theorem iv_ms {F : Nat → Nat → Int} {G : Nat → Int → Int} (h : Inv F G) (k : Int) (k0 : 0 ≤ k) (k1 : k < F 244 1) : mSh G (G 250 k) := by
  rw [h.1.2.1] at k1
  obtain ⟨a, b, c⟩ := iv_sq h k0 k1
  rw [c]
  exact cpl_mSh (by omega) b
theorem under_uniq {P : Int → Prop} {f : Int → Int} {n z z' : Int} (h : (∃ i : Int, (0 ≤ i ∧ i < n) ∧ z = f i ∧ P i ∧ ∀ j : Int, i < j → j < n → ¬ P j) ∨ (z = -1 ∧ ∀ j : Int, 0 ≤ j → j < n → ¬ P j)) (h' : (∃ i : Int, (0 ≤ i ∧ i < n) ∧ z' = f i ∧ P i ∧ ∀ j : Int, i < j → j < n → ¬ P j) ∨ (z' = -1 ∧ ∀ j : Int, 0 ≤ j → j < n → ¬ P j)) : z = z' := by
  rcases h with ⟨i, a1, a2, a3, a4⟩ | ⟨a1, a2⟩ <;> rcases h' with ⟨i', b1, b2, b3, b4⟩ | ⟨b1, b2⟩
  · rcases Int.lt_trichotomy i i' with c | c | c
    · exact absurd b3 (a4 i' c b1.2)
    · rw [a2, b2, c]
    · exact absurd a3 (b4 i c a1.2)
  · exact absurd a3 (b2 i a1.1 a1.2)
  · exact absurd b3 (a2 i' b1.1 b1.2)
  · omega
theorem o_under {F : Nat → Nat → Int} {G : Nat → Int → Int} (h : Inv F G) (p1 p2 : Int) (q1 : -2147483648 ≤ p1 ∧ p1 < 2147483648) (q2 : -2147483648 ≤ p2 ∧ p2 < 2147483648) : oq_under Inv F G p1 p2 := by
  obtain ⟨hA, hF, hL, hP, hQ, hT, hS, hO⟩ := id h
  have hn := hA.1
  have hn' : 0 ≤ F 244 1 ∧ F 244 1 ≤ 10 := by rw [hA.2.1]; exact hn
  by_cases c1 : inR p1 p2
  · refine ⟨_, l_under_ok F G p1 p2 _ (c_Dk_under F G p1 p2 c1 hn (fun j j0 j1 => ⟨(iv_sq h j0 j1).1, (iv_sq h j0 j1).2.1.1.1.1⟩)), fun k F1 G1 hk => ?_⟩
    obtain ⟨ek, w, hw, eF, eG⟩ := hk
    have hi : Inv F1 G1 := by rw [eF, eG]; exact iv_g h _
    refine ⟨_, c_Mo_under F1 G1 p1 p2 q1 q2 (by rw [eF]; exact hn') (iv_ms hi), fun z F2 G2 h2 => ?_⟩
    rcases h2 with ⟨a, -⟩ | ⟨-, b1, b2, b3, b4⟩
    · exact absurd c1 a
    · have n8 : F1 0 8 = F 0 8 := by rw [eF]
      have n1 : F1 244 1 = F 0 8 := by rw [eF, hA.2.1]
      rw [n1] at b4
      have eh : ∀ j : Int, 0 ≤ j → j < F 0 8 → (hasC F G (shP G j) p1 p2 ↔ hasR G1 (G1 250 j) p1 p2) ∧ G1 250 j = G 222 j := fun j j0 j1 => by
        obtain ⟨x1, x2, x3⟩ := iv_sq hi j0 (by rw [n8]; exact j1)
        have g1 : G1 222 = G 222 := by rw [eG, gU_k _ _ _ (by decide)]
        have s1 : shP G1 j = shP G j := by unfold shP; rw [g1]
        rw [g1] at x1 x2 x3
        rw [s1] at x2
        have y := cpl_has ⟨x1.1, by omega⟩ x2
        rw [x3, y]
        have hc := hasC_cong (F := F) (F1 := F1) (G := G) (G1 := G1) x2.1.1.1.1 (fun a b _ _ => by rw [eF]) (fun a c d => by
          have := x2.1.1.1.1
          unfold isSh at this
          rw [eG, gU_k _ _ _ (by omega)])
        rw [hc]
        exact ⟨Iff.rfl, rfl⟩
      have e1 : w = z := by
        refine under_uniq (P := fun j => hasC F G (shP G j) p1 p2) (f := G 222) (n := F 0 8) hw ?_
        rcases b4 with ⟨i, d1, d2, d3, d4⟩ | ⟨d1, d2⟩
        · exact Or.inl ⟨i, d1, by rw [d2, (eh i d1.1 d1.2).2], (eh i d1.1 d1.2).1.mpr d3, fun j j0 j1 y => d4 j j0 j1 ((eh j (by omega) j1).1.mp y)⟩
        · exact Or.inr ⟨d1, fun j j0 j1 y => d2 j j0 j1 ((eh j j0 j1).1.mp y)⟩
      subst ek
      refine ⟨by decide, b1, fun _ => ?_, iv_q hi (fun a b y => b2 a b (by omega)) (fun a y1 _ => b3 a y1)⟩
      rw [b3 264 (by decide), eG, gU_hit, e1]
  · refine ⟨_, l_under_IAE F G p1 p2 (t_Dk_under_1 F G p1 p2 q1 q2 c1), fun k F1 G1 hk => ?_⟩
    obtain ⟨ek, eF, eG⟩ := hk
    subst ek
    rw [eF, eG]
    refine ⟨_, c_Mo_under F G p1 p2 q1 q2 hn' (iv_ms h), fun z F2 G2 h2 => ?_⟩
    rcases h2 with ⟨-, a1, a2⟩ | ⟨a, -⟩
    · rw [a1, a2]
      exact ⟨by decide, fU_hit, fun x => absurd x (by decide), iv_t h 1⟩
    · exact absurd a c1
-- reorder
theorem chn_val {n : Nat} {pr : Nat → Nat → Prop} {col : Nat → Int} {v v' : Int → Int → Int} (hn : n ≤ 10) (hcol : ∀ k, k < n → 0 ≤ col k ∧ col k < 8) (hv : ∀ S c : Int, 0 ≤ S → S ≤ 2 ^ n - 1 → 0 ≤ c → c ≤ 8 → v' S c = v S c) : ∀ {ks : List Nat} {S c : Int}, 0 ≤ S → S ≤ 2 ^ n - 1 → 0 ≤ c → c ≤ 8 → chn n pr col v S c ks → chn n pr col v' S c ks
  | [], _, _, _, _, _, _, _ => trivial
  | k :: ks, S, c, s0, s1, c0, c1, hc => by
    obtain ⟨⟨h1, h2, h3⟩, h4⟩ := hc
    have key : ∀ j, j < n → (pkP pr col v' S c j ↔ pkP pr col v S c j) := fun j hj => by
      unfold pkP
      constructor
      · rintro ⟨a, b⟩
        have hin := bt_in hn ⟨s0, s1⟩ hj a.1
        rw [hv _ _ hin.1 hin.2 (hcol j hj).1 (by have := (hcol j hj).2; omega), hv S c s0 s1 c0 c1] at b
        exact ⟨a, b⟩
      · rintro ⟨a, b⟩
        have hin := bt_in hn ⟨s0, s1⟩ hj a.1
        rw [← hv _ _ hin.1 hin.2 (hcol j hj).1 (by have := (hcol j hj).2; omega), ← hv S c s0 s1 c0 c1] at b
        exact ⟨a, b⟩
    have hin := bt_in hn ⟨s0, s1⟩ h1 h2.1.1
    exact ⟨⟨h1, (key k h1).mpr h2, fun j hj w => h3 j hj ((key j (by omega)).mp w)⟩, chn_val hn hcol hv hin.1 hin.2 (hcol k h1).1 (by have := (hcol k h1).2; omega) h4⟩
theorem o_reorder {F : Nat → Nat → Int} {G : Nat → Int → Int} (h : Inv F G) : oq_reorder Inv F G := by
  obtain ⟨hA, hF, hL, hP, hQ, hT, hS, hO⟩ := id h
  have hn := hA.1
  have hn' : 0 ≤ F 244 1 ∧ F 244 1 ≤ 10 := by rw [hA.2.1]; exact hn
  have hsq : sqOk F G (F 0 8) := fun k k0 k1 => by
    obtain ⟨a, b, -⟩ := iv_sq h k0 k1
    exact ⟨a, b.1.1.1.2.2.1, b.1.1.1.2.2.2.1.1⟩
  refine ⟨_, c_Dk_reorder F G hn hsq hT, fun z1 F1 G1 h1 => ?_⟩
  obtain ⟨a1, a2, a3, a4, few, fri, ks, a5, a6, a7, a8, a9⟩ := h1
  have f1 : ∀ a b, a ≠ 238 → F1 a b = F a b := fun a b y => by rw [a1, fU_ka y]
  have hsM : sqM G1 (F1 244 1) := fun k k0 k1 => by
    rw [f1 244 1 (by decide), hA.2.1] at k1
    obtain ⟨b1, b2, b3⟩ := iv_sq h k0 k1
    unfold bx4
    rw [a2 250 (by decide) (by decide) (by decide) (by decide) (by decide) (by decide), a2 249 (by decide) (by decide) (by decide) (by decide) (by decide) (by decide), a2 245 (by decide) (by decide) (by decide) (by decide) (by decide) (by decide), b3]
    obtain ⟨⟨t1, -⟩, -, x, ⟨t2, -⟩, -⟩ := b2
    rw [x.1, x.2.1, x.2.2.1, x.2.2.2, t2.1]
    exact ⟨b1, t1.1.2.2.1, t1.1.2.2.2.1.1⟩
  refine ⟨_, c_Mo_reorder F1 G1 (by rw [f1 244 1 (by decide)]; exact hn') hsM, fun z F2 G2 h2 => ?_⟩
  obtain ⟨b1, b2⟩ := h2
  rw [f1 244 1 (by decide), hA.2.1] at b2
  have hpr : ∀ k j, k < (F 0 8).toNat → j < k → (prS F G k j ↔ prM G1 k j) := fun k j hk hj => by
    obtain ⟨x1, x2, x3⟩ := iv_sq h (j := (k : Int)) (by omega) (by omega)
    obtain ⟨y1, y2, y3⟩ := iv_sq h (j := (j : Int)) (by omega) (by omega)
    obtain ⟨-, -, x, -⟩ := x2
    obtain ⟨-, -, y, -⟩ := y2
    unfold prS prM mtC mtM
    rw [a2 250 (by decide) (by decide) (by decide) (by decide) (by decide) (by decide), a2 249 (by decide) (by decide) (by decide) (by decide) (by decide) (by decide), x3, y3, x.1, x.2.1, x.2.2.1, x.2.2.2, y.1, y.2.1, y.2.2.1, y.2.2.2]
    constructor
    · rintro ⟨u, v1, v2, v3, v4⟩
      exact ⟨u, v2, v1, v4, v3⟩
    · rintro ⟨u, v1, v2, v3, v4⟩
      exact ⟨u, v2, v1, v4, v3⟩
  have hcl : ∀ k, k < (F 0 8).toNat → clS F G k = clM G1 k := fun k hk => by
    obtain ⟨x1, x2, x3⟩ := iv_sq h (j := (k : Int)) (by omega) (by omega)
    obtain ⟨-, -, -, ⟨x, -⟩, -⟩ := x2
    unfold clS clM
    rw [a2 250 (by decide) (by decide) (by decide) (by decide) (by decide) (by decide), a2 245 (by decide) (by decide) (by decide) (by decide) (by decide) (by decide), x3, x.1]
  have hcol : ∀ k, k < (F 0 8).toNat → 0 ≤ clM G1 k ∧ clM G1 k < 8 := fun k hk => by
    rw [← hcl k hk]
    have y := (hsq (k : Int) (by omega) (by omega)).2.2
    unfold clS
    omega
  have hd : ∀ T : Int, 0 ≤ T → T ≤ 2 ^ (F 0 8).toNat - 1 → dpS (F 0 8).toNat (prM G1) (clM G1) few fri T := fun T t0 t1 => dpS_pr hpr hcl (a5 T t0 t1)
  have hcM := chn_pr hpr hcl a7
  have hp := pw_pos (F 0 8).toNat
  -- the new sequences
  have g1 : G1 250 = G 250 := a2 250 (by decide) (by decide) (by decide) (by decide) (by decide) (by decide)
  have fin : z1 = z ∧ (∀ a, a ≠ 222 → a ≠ 239 → a ≠ 240 → a ≠ 241 → a ≠ 242 → a ≠ 243 → a ≠ 250 → a ≠ 262 → a ≠ 263 → G2 a = G a) ∧ G2 240 = G1 240 ∧ G2 222 = G1 222 ∧ ∀ j : Int, 0 ≤ j → j < F 0 8 → G2 250 j = G1 222 j ∧ 0 ≤ G1 222 j ∧ G1 222 j < F 0 8 := by
    have hk : ∀ j : Int, 0 ≤ j → j < F 0 8 → ∃ k, ks[j.toNat]? = some k ∧ k < (F 0 8).toNat := fun j j0 j1 => by
      have hl : j.toNat < ks.length := by omega
      exact ⟨ks[j.toNat], List.getElem?_eq_getElem hl, chn_lt hcM _ (List.getElem_mem hl)⟩
    rcases b2 with ⟨c1, c2, c3⟩ | ⟨c1, c2, c3, lf, kM, c4, c5, c6, c7, c8⟩
    · have e0 : (F 0 8).toNat = 0 := by omega
      have d := hd 0 (by omega) (by rw [e0]; decide)
      rw [e0] at d
      have d1 := (d.2.2.1 (by decide)).1
      refine ⟨by rw [a8, d1, c2], fun a y1 y2 y3 y4 y5 y6 _ _ _ => by rw [c3, a2 a y1 y2 y3 y4 y5 y6], by rw [c3], by rw [c3], fun j j0 j1 => by omega⟩
    · have hle : (F 0 8).toNat ≤ 10 := by omega
      have ev : ∀ S c : Int, 0 ≤ S → S ≤ 2 ^ (F 0 8).toNat - 1 → 0 ≤ c → c ≤ 8 → vX few fri S c = lf S c := fun S c s0 s1 x0 x1 => (lf_eq hle hcol hd c4 ((2 : Int) ^ (F 0 8).toNat - 1 - S + 1).toNat S c (by omega) s0 s1 x0 x1).symm
      have hc2 := chn_val hle hcol ev (by decide) (by omega) (by decide) (by decide) c6
      have ek : ks = kM := chn_uniq hcM hc2 (by omega)
      refine ⟨?_, fun a y1 y2 y3 y4 y5 y6 y7 y8 y9 => by rw [c2 a y7 y8 y9, a2 a y1 y2 y3 y4 y5 y6], c2 240 (by decide) (by decide) (by decide), c2 222 (by decide) (by decide) (by decide), fun j j0 j1 => ?_⟩
      · rw [a8, c7, ← ev 0 8 (by decide) (by omega) (by decide) (by decide)]
        unfold vX
        rw [if_pos rfl]
      · obtain ⟨k, k1, k2⟩ := hk j j0 j1
        have u1 := a9 j.toNat k k1
        have u2 := c8 j.toNat k (by rw [← ek]; exact k1)
        rw [Int.toNat_of_nonneg j0] at u1 u2
        obtain ⟨x1, x2, x3⟩ := hQ (k : Int) (by omega) (by omega)
        rw [u1, u2, g1, x1]
        exact ⟨rfl, x2, x3⟩
  obtain ⟨e1, e2, e3, e4, e5⟩ := fin
  have fr : ∀ a b, a ≠ 238 → ¬ (a = 244 ∧ b = 0) → F2 a b = F a b := fun a b y1 y2 => by
    rw [b1]
    unfold fU
    rw [if_neg y2]
    exact f1 a b y1
  have gr : ∀ a, ¬ (a = 222 ∨ (239 ≤ a ∧ a ≤ 243) ∨ a = 250 ∨ a = 262 ∨ a = 263) → G2 a = G a := fun a y => e2 a (by omega) (by omega) (by omega) (by omega) (by omega) (by omega) (by omega) (by omega) (by omega)
  refine ⟨by rw [e1], ivA_cong hA (fr _ _ (by omega) (by omega)) (fr _ _ (by omega) (by omega)) (fr _ _ (by omega) (by omega)) (fr _ _ (by omega) (by omega)) (fr _ _ (by omega) (by omega)), ivF_cong hF (fun b => fr _ _ (by omega) (by omega)) (fun b z => fr _ _ (by omega) (by omega)), ivL_cong hL (fr _ _ (by omega) (by omega)) (fr _ _ (by omega) (by omega)) (gr _ (by omega)) (gr _ (by omega)), ivP_cong hP (fr _ _ (by omega) (by omega)) (fr _ _ (by omega) (by omega)) (gr _ (by omega)) (gr _ (by omega)) (gr _ (by omega)) (gr _ (by omega)), ?_, ?_, ivS_cong hA.1.2 hS (fr _ _ (by omega) (by omega)) (fun a b c d => fr a b (by omega) (by omega)) (fun a c d => gr a (by omega)) (fun a c d => gr a (by omega)), ivO_cong hA hO (fr _ _ (by omega) (by omega)) (fr _ _ (by omega) (by omega)) (fun a b c d => fr a b (by omega) (by omega)) (fun a c d => gr a (by omega)) (fun a c d => gr a (by omega))⟩
  · unfold ivQ
    rw [fr 0 8 (by omega) (by omega), e4]
    exact e5
  · unfold ivT
    rw [e3]
    exact a3
-- stitch
theorem stC_cong {F F1 : Nat → Nat → Int} {G G1 : Nat → Int → Int} (hF : ∀ a b, 2 ≤ a → a < 222 → F1 a b = F a b) (hG : ∀ a, 2 ≤ a → a < 223 → G1 a = G a) : ∀ n : Nat, (∀ j : Int, 0 ≤ j → j < n → isSh (shP G j)) → stC F1 G1 n = stC F G n
  | 0, _ => rfl
  | n + 1, h => by
    have hs := h (n : Int) (by omega) (by omega)
    have e1 : shP G1 (n : Int) = shP G (n : Int) := by
      unfold shP
      rw [hG 222 (by decide) (by decide)]
    have hs' := hs
    unfold isSh at hs'
    have hk := (by omega : shP G (n : Int) < 202)
    show (runF (hasC F1 G1 (shP G1 (n : Int))) (F1 (shP G1 (n : Int)) 3) (runsC F1 G1 (shP G1 (n : Int))) (stC F1 G1 n)).1 = (runF (hasC F G (shP G (n : Int))) (F (shP G (n : Int)) 3) (runsC F G (shP G (n : Int))) (stC F G n)).1
    rw [e1, stC_cong hF hG n (fun j a b => h j a (by omega)), hF _ 3 (by omega) (by omega), hasC_cong hs (fun a b c d => hF a b (by omega) (by omega)) (fun a c d => hG a (by omega) (by omega)), runsC_cong hs (fun a b c d => hF a b (by omega) (by omega)) (fun a c d => hG a (by omega) (by omega))]
theorem stCM {F : Nat → Nat → Int} {G : Nat → Int → Int} : ∀ n : Nat, (∀ j : Int, 0 ≤ j → j < n → (0 ≤ G 222 j ∧ G 222 j < 10) ∧ cpl F G (shP G j) (G 222 j) ∧ G 250 j = G 222 j) → stM G n = stC F G n
  | 0, _ => rfl
  | n + 1, h => by
    obtain ⟨a, b, c⟩ := h (n : Int) (by omega) (by omega)
    show (runF (hasR G (G 250 (n : Int))) (G 245 (4 * G 250 (n : Int))) (rnR G (G 250 (n : Int))) (stM G n)).1 = (runF (hasC F G (shP G (n : Int))) (F (shP G (n : Int)) 3) (runsC F G (shP G (n : Int))) (stC F G n)).1
    rw [stCM n (fun j x y => h j x (by omega)), c, cpl_has ⟨a.1, by omega⟩ b, cpl_runs ⟨a.1, by omega⟩ b, b.2.2.2.1.1.1]
theorem o_stitch {F : Nat → Nat → Int} {G : Nat → Int → Int} (h : Inv F G) : oq_stitch Inv F G := by
  obtain ⟨hA, hF, hL, hP, hQ, hT, hS, hO⟩ := id h
  have hn := hA.1
  refine ⟨_, c_Dk_stitch F G hn (fun j j0 j1 => ⟨(iv_sq h j0 j1).1, (iv_sq h j0 j1).2.1.1.1⟩) hA.2.2.2.2.2, fun z1 F1 G1 h1 => ?_⟩
  obtain ⟨a1, a2, a3, a4⟩ := h1
  have n8 : F1 0 8 = F 0 8 := a1 0 8 (by decide) (by decide) (by decide)
  have hA1 : ivA F1 := by
    unfold ivA
    rw [n8, a1 0 10 (by decide) (by decide) (by decide), a1 244 1 (by decide) (by decide) (by decide), a1 244 2 (by decide) (by decide) (by decide)]
    exact ⟨hA.1, hA.2.1, hA.2.2.1, hA.2.2.2.1, hA.2.2.2.2.1, a3⟩
  have hS1 : ivS F1 G1 := ivS_cong hn.2 hS n8 (fun a b c d => a1 a b (by omega) (by omega) (by omega)) (fun a c d => a2 a (by omega) (by omega)) (fun a c d => a2 a (by omega) (by omega))
  have hQ1 : ivQ F1 G1 := ivQ_cong hQ n8 (a2 222 (by omega) (by omega)) (a2 250 (by omega) (by omega))
  have hsq1 : ∀ j : Int, 0 ≤ j → j < F 0 8 → (0 ≤ G1 222 j ∧ G1 222 j < 10) ∧ cpl F1 G1 (shP G1 j) (G1 222 j) ∧ G1 250 j = G1 222 j := fun j j0 j1 => by
    obtain ⟨x, y, w⟩ := hQ1 j j0 (by rw [n8]; exact j1)
    rw [n8] at w
    exact ⟨⟨y, by omega⟩, hS1 _ y (by rw [n8]; exact w), x⟩
  have n1 : F1 244 1 = F 0 8 := by rw [a1 244 1 (by decide) (by decide) (by decide), hA.2.1]
  refine ⟨_, c_Mo_stitch F1 G1 (by rw [n1]; exact hn) (fun k k0 k1 => by
    rw [n1] at k1
    obtain ⟨x, y, w⟩ := hsq1 k k0 k1
    rw [w]
    exact cpl_mSh (by omega) y), fun z F2 G2 h2 => ?_⟩
  obtain ⟨b1, ⟨b2, b3⟩, b4⟩ := h2
  have es : stM G1 (F1 244 1).toNat = stC F G (F 0 8).toNat := by
    rw [n1, stCM (F := F1) _ (fun j x y => hsq1 j x (by omega))]
    exact stC_cong (fun a b c d => a1 a b (by omega) (by omega) (by omega)) (fun a c d => a2 a (by omega) (by omega)) _ (fun j x y => (iv_sq h x (by omega)).2.1.1.1.1.1)
  rw [es] at b4
  generalize hL2 : (stC F G (F 0 8).toNat).2.2.2 = L at a4 b4
  have fr : ∀ a b, a ≠ 231 → a ≠ 235 → a ≠ 236 → ¬ (a = 244 ∧ (b = 0 ∨ b = 12 ∨ b = 20 ∨ (24 ≤ b ∧ b ≤ 29))) → F2 a b = F a b := fun a b y1 y2 y3 y4 => by rw [b2 a b y4, a1 a b y1 y2 y3]
  have gr : ∀ a, ¬ (232 ≤ a ∧ a ≤ 234) → a ≠ 237 → ¬ (251 ≤ a ∧ a ≤ 260) → G2 a = G a := fun a y1 y2 y3 => by rw [b3 a y3, a2 a y1 y2]
  have e36 : F2 236 1 = F1 236 1 := b2 236 1 (by omega)
  have g237 : G2 237 = G1 237 := b3 237 (by omega)
  have key : z1 = z ∧ ivP F2 G2 := by
    rcases a4 with ⟨c1, c2, c3, -⟩ | ⟨c1, c2, c3⟩ <;> rcases b4 with ⟨d1, d2, d3⟩ | ⟨d1, d2, d3⟩
    · refine ⟨by rw [c2, d2], ?_⟩
      unfold ivP pRec pOk
      rw [d3, e36, c3]
      exact ⟨⟨⟨by decide, fun a y0 y1 => by omega⟩, fun a y0 y1 => by omega⟩, rfl, fun a y0 y1 => by omega⟩
    · exact absurd c1 d1
    · exact absurd d1 c1
    · refine ⟨by rw [c2, d2], ?_⟩
      obtain ⟨x1, -, x3, x4⟩ := c3
      obtain ⟨y1, y3, y4⟩ := d3
      have el : F1 236 1 = (L.length : Int) := by omega
      have recs : ∀ a : Int, 0 ≤ a → a < (L.length : Int) → (0 ≤ G2 237 a ∧ G2 237 a < 262144) ∧ (-121 ≤ cX G2 a ∧ cX G2 a ≤ 121) ∧ (-121 ≤ cY G2 a ∧ cY G2 a ≤ 121) ∧ G2 258 a = cX G2 a ∧ G2 259 a = cY G2 a ∧ G2 260 a = cK G2 a := fun a u0 u1 => by
        have hl : a.toNat < L.length := by omega
        have hg := List.getElem?_eq_getElem hl
        have v := x3 a.toNat _ (by omega) hg
        have w := y3 a.toNat _ (by omega) hg
        have r := x4 _ (List.getElem_mem hl)
        rw [Int.toNat_of_nonneg u0] at v w
        generalize L[a.toNat] = rr at v w r
        unfold rcOk at r
        unfold cdR at v
        unfold cX cY cK
        rw [g237, v, w.1, w.2.1, w.2.2]
        omega
      unfold ivP pRec pOk
      rw [y1, e36, el]
      exact ⟨⟨⟨by omega, fun a u0 u1 => (recs a u0 u1).1⟩, fun a u0 u1 => ⟨(recs a u0 u1).2.1, (recs a u0 u1).2.2.1⟩⟩, rfl, fun a u0 u1 => (recs a u0 u1).2.2.2⟩
  refine ⟨by rw [key.1], ivA_cong hA1 (b2 _ _ (by omega)) (b2 _ _ (by omega)) (b2 _ _ (by omega)) (b2 _ _ (by omega)) (b2 _ _ (by omega)), ivF_cong hF (fun b => fr _ _ (by omega) (by omega) (by omega) (by omega)) (fun b z => fr _ _ (by omega) (by omega) (by omega) (by omega)), ivL_cong hL (fr _ _ (by omega) (by omega) (by omega) (by omega)) (fr _ _ (by omega) (by omega) (by omega) (by omega)) (gr _ (by omega) (by omega) (by omega)) (gr _ (by omega) (by omega) (by omega)), key.2, ivQ_cong hQ (fr _ _ (by omega) (by omega) (by omega) (by omega)) (gr _ (by omega) (by omega) (by omega)) (gr _ (by omega) (by omega) (by omega)), ivT_cong hT (gr _ (by omega) (by omega) (by omega)), ivS_cong hn.2 hS (fr _ _ (by omega) (by omega) (by omega) (by omega)) (fun a b c d => fr a b (by omega) (by omega) (by omega) (by omega)) (fun a c d => gr a (by omega) (by omega) (by omega)) (fun a c d => gr a (by omega) (by omega) (by omega)), ivO_cong hA hO (fr _ _ (by omega) (by omega) (by omega) (by omega)) (fr _ _ (by omega) (by omega) (by omega) (by omega)) (fun a b c d => fr a b (by omega) (by omega) (by omega) (by omega)) (fun a c d => gr a (by omega) (by omega) (by omega)) (fun a c d => gr a (by omega) (by omega) (by omega))⟩
