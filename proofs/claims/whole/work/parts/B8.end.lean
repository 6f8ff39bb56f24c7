/-! end on both sides -/
theorem mFault_cg {G G1 : Nat → Int → Int} {z l o : Int} (h : ∀ a, 245 ≤ a → a ≤ 248 → G1 a = G a) (hM : mFault G1 z l o) : mFault G z l o := by
  have h5 := h 245 (by decide) (by decide)
  have h6 := h 246 (by decide) (by decide)
  have h7 := h 247 (by decide) (by decide)
  have h8 := h 248 (by decide) (by decide)
  have ef : mFlat G1 ↔ mFlat G := by
    unfold mFlat mRFlat mLine fT
    rw [h5, h6, h7, h8]
  have eo : ∀ q : Nat, oM G1 10 q = oM G 10 q := fun q => by
    induction q with
    | zero => rfl
    | succ q ih =>
      show oM G1 10 q + mSz G1 10 (q : Int) = oM G 10 q + mSz G 10 (q : Int)
      rw [ih]
      unfold mSz
      rw [h5, h6]
  rcases hM with ⟨a1, a2, a3⟩ | ⟨a1, a2, a3⟩ | ⟨a1, a2, Ge, hE, a3⟩
  · exact Or.inl ⟨a1, ef.mp a2, a3⟩
  · exact Or.inr (Or.inl ⟨fun y => a1 (ef.mpr y), by rw [← h5]; exact a2, a3⟩)
  · have hW : mEdW G 10 Ge := fun q hq => by
      have y := hE.2 q hq
      unfold mRing mEdge mAt mRc mSz at y ⊢
      rw [eo q, h5, h6, h7, h8] at y
      exact y
    have r6 : mGe G Ge 246 = Ge 246 := (show mGe G Ge 246 = G 246 from if_neg (by decide)).trans (by rw [hE.1 246 (by decide), h6])
    have r7 : mGe G Ge 247 = Ge 247 := (show mGe G Ge 247 = G 247 from if_neg (by decide)).trans (by rw [hE.1 247 (by decide), h7])
    have r8 : mGe G Ge 248 = Ge 248 := (show mGe G Ge 248 = G 248 from if_neg (by decide)).trans (by rw [hE.1 248 (by decide), h8])
    have i1 := mGe_in (G := G) (G2 := Ge) (a := 251) (by decide)
    have i2 := mGe_in (G := G) (G2 := Ge) (a := 252) (by decide)
    have i3 := mGe_in (G := G) (G2 := Ge) (a := 253) (by decide)
    have i4 := mGe_in (G := G) (G2 := Ge) (a := 254) (by decide)
    have i5 := mGe_in (G := G) (G2 := Ge) (a := 255) (by decide)
    have i6 := mGe_in (G := G) (G2 := Ge) (a := 256) (by decide)
    have ec : ∀ a b : Int, mCross (mGe G Ge) a b ↔ mCross Ge a b := fun a b => by
      unfold mCross mTouch mNext mBack mOn
      rw [i1, i2, i3, i4, i5, i6, r6]
    have eu : ∀ n : Int, mOut (mGe G Ge) n ↔ mOut Ge n := fun n => by
      unfold mOut mIn mC mCr mOn
      rw [i1, i2, i3, i4, i5, r6, r7, r8]
    have ew : ∀ n : Int, mWith (mGe G Ge) n ↔ mWith Ge n := fun n => by
      unfold mWith mIn mC mCr mOn
      rw [i1, i2, i3, i4, i5, r6, r7, r8]
    rw [eo 4] at a3
    refine Or.inr (Or.inr ⟨fun y => a1 (ef.mpr y), by rw [← h5]; exact a2, mGe G Ge, mGe_ed hW, ?_⟩)
    rw [eu, ew]
    rcases a3 with ⟨b1, b2, b3, b4⟩ | ⟨b1, b2⟩
    · exact Or.inl ⟨b1, b2, (ec _ _).mpr b3, fun a b x1 x2 x3 x4 y => b4 a b x1 x2 x3 x4 ((ec a b).mp y)⟩
    · exact Or.inr ⟨fun a b x1 x2 x3 y => b1 a b x1 x2 x3 ((ec a b).mp y), b2⟩
/-- what the class's end makes of the shape at k -/
def newS (F F' : Nat → Nat → Int) (G G' : Nat → Int → Int) (k : Nat) : Prop := (tlOk F' G' k ∧ boxP (cS F' G' k 4 0) (F' k 7) (F' k 8) (F' k 9) (F' k 10)) ∧ (F' (k + 21) 0 = nf (runsC F' G' k) ∧ F' (k + 21) 1 = ((runsC F' G' k).length : Int)) ∧ (F' k 3 = F k 3 ∧ F' k 4 = F k 4 ∧ F' k 5 = F k 5 ∧ F' k 6 = F k 6) ∧ (¬ F k 4 = 1 → ∀ q : Nat, q < 4 → F' (k + 3 + 3 * q) 2 = F (k + 3 + 3 * q) 2 ∧ G' (k + 3 + 3 * q + 1) = G (k + 3 + 3 * q + 1) ∧ G' (k + 3 + 3 * q + 2) = G (k + 3 + 3 * q + 2)) ∧ ((F' (k + 15) 2 = F (k + 15) 2 ∧ F' (k + 18) 2 = F (k + 18) 2) ∧ (G' (k + 15 + 1) = G (k + 15 + 1) ∧ G' (k + 15 + 2) = G (k + 15 + 2)) ∧ (G' (k + 18 + 1) = G (k + 18 + 1) ∧ G' (k + 18 + 2) = G (k + 18 + 2))) ∧ (F k 4 = 1 → F' (k + 3) 2 = F (k + 15) 2 + F (k + 18) 2 ∧ (F' (k + 6) 2 = 0 ∧ F' (k + 9) 2 = 0 ∧ F' (k + 12) 2 = 0) ∧ ∀ i : Int, 0 ≤ i → (i < F (k + 15) 2 → G' (k + 4) i = G (k + 15 + 1) i ∧ G' (k + 5) i = G (k + 15 + 2) i) ∧ (i < F (k + 18) 2 → G' (k + 4) (F (k + 15) 2 + i) = G (k + 18 + 1) (F (k + 18) 2 - 1 - i) ∧ G' (k + 5) (F (k + 15) 2 + i) = G (k + 18 + 2) (F (k + 18) 2 - 1 - i)))
theorem new_fr {F F2 F3 F4 : Nat → Nat → Int} {G G2 G3 G4 : Nat → Int → Int} {k : Nat} {E : List Ev} (hK : isSh k) (h2 : ∀ a b, a ≠ 224 → F2 a b = fU F 0 10 0 a b) (hg : gFr G G2) (hf : fnC F2 G2 k F3 G3) (ht : tkR (k + 21) k F3 G3 (0, 0, -1, []) F4 G4 E false) : (∀ a b, a ≠ 224 → a ≠ 231 → ¬ (k ≤ a ∧ a < k + 22) → ¬ (a = 0 ∧ b = 10) → F4 a b = F a b) ∧ (∀ b, F4 224 b = F2 224 b) ∧ F4 0 10 = 0 ∧ (∀ a, ¬ (225 ≤ a ∧ a ≤ 229) → ¬ (232 ≤ a ∧ a ≤ 234) → a ≠ k + 4 → a ≠ k + 5 → G4 a = G a) := by
  have hK' := hK
  unfold isSh at hK'
  obtain ⟨f1, f2⟩ := fn_fr hf
  obtain ⟨-, -, t3, t4⟩ := ht
  refine ⟨fun a b z1 z2 z3 z4 => ?_, fun b => ?_, ?_, fun a z1 z2 z3 z4 => ?_⟩
  · rw [t3 a b z2 (fun y => by omega) (fun _ => by omega), f1 a b (by omega) (by omega), h2 a b z1, fU_n z4]
  · rw [t3 224 b (by omega) (fun y => by omega) (fun _ => by omega), f1 224 b (by omega) (by omega)]
  · rw [t3 0 10 (by omega) (fun y => by omega) (fun _ => by omega), f1 0 10 (by omega) (by omega), h2 0 10 (by omega), fU_hit]
  · rw [t4 a z2 (fun y => by omega), f2 a z3 z4, hg a (by omega)]
theorem new_cls {F F2 F3 F4 F' : Nat → Nat → Int} {G G2 G3 G4 G' : Nat → Int → Int} {k : Nat} (hK : isSh k) (op : opOk F G k) (h2 : ∀ a b, a ≠ 224 → F2 a b = fU F 0 10 0 a b) (hg : gFr G G2) (hf : fnC F2 G2 k F3 G3) (htl : tlOk F3 G3 k) (ht : tkR (k + 21) k F3 G3 (0, 0, -1, []) F4 G4 (runsC F3 G3 k) false) (hF' : ∀ a b, k ≤ a → a < k + 22 → F' a b = F4 a b) (hG' : ∀ a, k ≤ a → a < k + 22 → G' a = G4 a) : newS F F' G G' k := by
  have hK' := hK
  unfold isSh at hK'
  obtain ⟨f1, f2⟩ := fn_fr hf
  obtain ⟨-, t2, t3, t4⟩ := ht
  have a3 : ∀ a b, k ≤ a → a < k + 21 → F' a b = F3 a b := fun a b x1 x2 => by rw [hF' a b x1 (by omega), t3 a b (by omega) (fun y => by omega) (fun _ => by omega)]
  have g3 : ∀ a, k ≤ a → a < k + 22 → G' a = G3 a := fun a x1 x2 => by rw [hG' a x1 x2, t4 a (by omega) (fun y => by omega)]
  have b2 : ∀ a b, k ≤ a → a < k + 22 → F2 a b = F a b := fun a b x1 x2 => by rw [h2 a b (by omega), fU_n (by omega)]
  have g2 : ∀ a, k ≤ a → a < k + 22 → G2 a = G a := fun a x1 x2 => hg a (by omega)
  have er := runsC_cong hK (F := F3) (F1 := F') (G := G3) (G1 := G') a3 (fun a x1 x2 => g3 a x1 (by omega))
  have a2 : ∀ a b, k ≤ a → a < k + 21 → ¬ (a = k ∧ 7 ≤ b ∧ b ≤ 10) → ¬ (a = k + 3 ∧ b = 2) → F' a b = F a b := fun a b x1 x2 x3 x4 => by rw [a3 a b x1 x2, f1 a b x3 x4, b2 a b x1 (by omega)]
  have gg : ∀ a, k ≤ a → a < k + 22 → a ≠ k + 4 → a ≠ k + 5 → G' a = G a := fun a x1 x2 x3 x4 => by rw [g3 a x1 x2, f2 a x3 x4, g2 a x1 x2]
  obtain ⟨Fm, m1, m2, lf, tp, rt, bt, m3, m4, m5⟩ := hf
  have fm : ∀ a b, ¬ (a = k ∧ 7 ≤ b ∧ b ≤ 10) → F3 a b = Fm a b := fun a b y => by rw [m3, fU_n (by omega), fU_n (by omega), fU_n (by omega), fU_n (by omega)]
  have v7 : F3 k 7 = lf := by rw [m3, fU_n (by omega), fU_n (by omega), fU_n (by omega), fU_hit]
  have v8 : F3 k 8 = tp := by rw [m3, fU_n (by omega), fU_n (by omega), fU_hit]
  have v9 : F3 k 9 = rt := by rw [m3, fU_n (by omega), fU_hit]
  have v10 : F3 k 10 = bt := by rw [m3, fU_hit]
  refine ⟨⟨tlOk_cong htl a3 (fun a x1 x2 => g3 a x1 (by omega)), ?_⟩, ⟨?_, ?_⟩, ⟨a2 k 3 (by omega) (by omega) (by omega) (by omega), a2 k 4 (by omega) (by omega) (by omega) (by omega), a2 k 5 (by omega) (by omega) (by omega) (by omega), a2 k 6 (by omega) (by omega) (by omega) (by omega)⟩, fun y q hq => ?_, ⟨⟨a2 _ _ (by omega) (by omega) (by omega) (by omega), a2 _ _ (by omega) (by omega) (by omega) (by omega)⟩, ⟨gg _ (by omega) (by omega) (by omega) (by omega), gg _ (by omega) (by omega) (by omega) (by omega)⟩, gg _ (by omega) (by omega) (by omega) (by omega), gg _ (by omega) (by omega) (by omega) (by omega)⟩, fun y => ?_⟩
  · rw [a3 k 7 (by omega) (by omega), a3 k 8 (by omega) (by omega), a3 k 9 (by omega) (by omega), a3 k 10 (by omega) (by omega), v7, v8, v9, v10]
    exact boxP_cong m5 (cS_cong (fun a x1 x2 => by rw [a3 a 2 x1 x2, fm a 2 (by omega)]) (fun a x1 x2 => g3 a x1 (by omega)))
  · rw [er, hF' _ _ (by omega) (by omega), (t2 (by omega)).1, f1 _ _ (by omega) (by omega), b2 _ _ (by omega) (by omega), op.2.2.2.2.2.2.1]
    show 0 + nf (runsC F3 G3 k) + 0 = _
    omega
  · rw [er, hF' _ _ (by omega) (by omega), (t2 (by omega)).2, f1 _ _ (by omega) (by omega), b2 _ _ (by omega) (by omega), op.2.2.2.2.2.2.2]
    omega
  · have y2 : ¬ F2 k 4 = 1 := by rw [b2 k 4 (by omega) (by omega)]; exact y
    rcases m1 with ⟨-, n1, n2⟩ | ⟨n0, -⟩
    · refine ⟨?_, ?_, ?_⟩
      · rw [a3 _ _ (by omega) (by omega), fm _ _ (by omega), n1, b2 _ _ (by omega) (by omega)]
      · rw [g3 _ (by omega) (by omega), n2, g2 _ (by omega) (by omega)]
      · rw [g3 _ (by omega) (by omega), n2, g2 _ (by omega) (by omega)]
    · exact absurd n0 y2
  · have y2 : F2 k 4 = 1 := by rw [b2 k 4 (by omega) (by omega)]; exact y
    rcases m1 with ⟨n0, -⟩ | ⟨-, n1, -, n3, n4⟩
    · exact absurd y2 n0
    · obtain ⟨-, s2, s3, s4⟩ := op.2.2.2.2.2.1 y
      refine ⟨?_, ⟨?_, ?_, ?_⟩, fun i i0 => ⟨fun i1 => ?_, fun i1 => ?_⟩⟩
      · rw [a3 _ _ (by omega) (by omega), fm _ _ (by omega), n1, fU_hit, b2 _ _ (by omega) (by omega), b2 _ _ (by omega) (by omega)]
      · rw [a2 _ _ (by omega) (by omega) (by omega) (by omega), s2]
      · rw [a2 _ _ (by omega) (by omega) (by omega) (by omega), s3]
      · rw [a2 _ _ (by omega) (by omega) (by omega) (by omega), s4]
      · have w := n3 i i0 (by rw [b2 _ _ (by omega) (by omega)]; exact i1)
        rw [g2 (k + 16) (by omega) (by omega), g2 (k + 17) (by omega) (by omega)] at w
        rw [g3 (k + 4) (by omega) (by omega), g3 (k + 5) (by omega) (by omega)]
        exact w
      · have w := n4 i i0 (by rw [b2 _ _ (by omega) (by omega)]; exact i1)
        rw [b2 (k + 15) 2 (by omega) (by omega), b2 (k + 18) 2 (by omega) (by omega), g2 (k + 19) (by omega) (by omega), g2 (k + 20) (by omega) (by omega)] at w
        rw [g3 (k + 4) (by omega) (by omega), g3 (k + 5) (by omega) (by omega)]
        exact w
theorem new_pts {F F' : Nat → Nat → Int} {G G' G1 : Nat → Int → Int} {k : Nat} (sa : same F G k 10) (h23 : F k 4 = 1 → G 246 42 = 0 ∧ G 246 43 = 0) (hN : newS F F' G G' k) (hR : ∀ a, 245 ≤ a → a ≤ 249 → G1 a = G a) (x y : Int) : cS F' G' k 4 0 x y ↔ cM G1 4 0 x y := by
  obtain ⟨⟨htl, -⟩, -, ⟨-, e4, -, -⟩, hn1, ⟨⟨u1, u2⟩, -, -⟩, hn2⟩ := hN
  have r6 := hR 246 (by decide) (by decide)
  have r7 := hR 247 (by decide) (by decide)
  have r8 := hR 248 (by decide) (by decide)
  unfold cM
  rw [r6, r7, r8]
  by_cases c : F k 4 = 1
  · obtain ⟨s1, ⟨s2, s3, s4⟩, s5⟩ := hn2 c
    have tl := htl.2.2 (by rw [e4]; exact c)
    rw [u1, u2] at tl
    obtain ⟨⟨l1, l2⟩, l3, l4⟩ := sa.2.2.2 c
    have z23 := h23 c
    have k1 : G 246 (40 + 0) = F (k + 15) 2 := l1
    have k2 : G 246 (40 + 1) = F (k + 18) 2 := l3
    constructor
    · rintro ⟨q, j, h, hx, hy⟩
      rcases h with ⟨hq, j0, j1⟩ | h
      · rcases q4 hq with e | e | e | e <;> subst e
        · have j2 : j < F (k + 15) 2 + F (k + 18) 2 := by rw [← s1]; exact j1
          by_cases d : j < F (k + 15) 2
          · have w := (s5 j j0).1 d
            have v := l2 j j0 d
            refine ⟨0, j, Or.inl ⟨by decide, by decide, j0, by rw [k1]; exact d⟩, ?_, ?_⟩
            · rw [show 960 + 24 * (0 : Int) + j = 96 * 10 + j by omega, v.1, ← w.1]
              exact hx
            · rw [show 960 + 24 * (0 : Int) + j = 96 * 10 + j by omega, v.2, ← w.2]
              exact hy
          · have w := (s5 (j - F (k + 15) 2) (by omega)).2 (by omega)
            have v := l4 (F (k + 18) 2 - 1 - (j - F (k + 15) 2)) (by omega) (by omega)
            rw [show F (k + 15) 2 + (j - F (k + 15) 2) = j by omega] at w
            refine ⟨1, F (k + 18) 2 - 1 - (j - F (k + 15) 2), Or.inl ⟨by decide, by decide, by omega, by rw [k2]; omega⟩, ?_, ?_⟩
            · rw [show 960 + 24 * (1 : Int) + (F (k + 18) 2 - 1 - (j - F (k + 15) 2)) = 96 * 10 + 24 + (F (k + 18) 2 - 1 - (j - F (k + 15) 2)) by omega, v.1, ← w.1]
              exact hx
            · rw [show 960 + 24 * (1 : Int) + (F (k + 18) 2 - 1 - (j - F (k + 15) 2)) = 96 * 10 + 24 + (F (k + 18) 2 - 1 - (j - F (k + 15) 2)) by omega, v.2, ← w.2]
              exact hy
        · have j2 : j < F' (k + 6) 2 := j1
          omega
        · have j2 : j < F' (k + 9) 2 := j1
          omega
        · have j2 : j < F' (k + 12) 2 := j1
          omega
      · omega
    · rintro ⟨q, j, h, hx, hy⟩
      rcases h with ⟨q0, q1, j0, j1⟩ | h
      · rcases (show q = 0 ∨ q = 1 ∨ q = 2 ∨ q = 3 by omega) with e | e | e | e <;> subst e
        · rw [k1] at j1
          have w := (s5 j j0).1 j1
          have v := l2 j j0 j1
          rw [show 96 * (10 : Int) + j = 960 + 24 * 0 + j by omega] at v
          refine ⟨0, j, Or.inl ⟨by decide, j0, ?_⟩, ?_, ?_⟩
          · show j < F' (k + 3) 2
            rw [s1]
            omega
          · show x = G' (k + 4) j
            rw [w.1, ← v.1]
            exact hx
          · show y = G' (k + 5) j
            rw [w.2, ← v.2]
            exact hy
        · rw [k2] at j1
          have w := (s5 (F (k + 18) 2 - 1 - j) (by omega)).2 (by omega)
          have v := l4 j j0 j1
          rw [show 96 * (10 : Int) + 24 + j = 960 + 24 * 1 + j by omega] at v
          rw [show F (k + 18) 2 - 1 - (F (k + 18) 2 - 1 - j) = j by omega] at w
          refine ⟨0, F (k + 15) 2 + (F (k + 18) 2 - 1 - j), Or.inl ⟨by decide, by omega, ?_⟩, ?_, ?_⟩
          · show F (k + 15) 2 + (F (k + 18) 2 - 1 - j) < F' (k + 3) 2
            rw [s1]
            omega
          · show x = G' (k + 4) _
            rw [w.1, ← v.1]
            exact hx
          · show y = G' (k + 5) _
            rw [w.2, ← v.2]
            exact hy
        · rw [show 40 + (2 : Int) = 42 from rfl, z23.1] at j1
          omega
        · rw [show 40 + (3 : Int) = 43 from rfl, z23.2] at j1
          omega
      · omega
  · constructor
    · rintro ⟨q, j, h, hx, hy⟩
      rcases h with ⟨hq, j0, j1⟩ | h
      · obtain ⟨m1, m2, m3⟩ := hn1 c q hq
        rw [m1] at j1
        rw [m2] at hx
        rw [m3] at hy
        have g := rg10 sa c (r := (q : Int)) (by omega) (by omega)
        rw [show ((q : Int)).toNat = q by omega] at g
        have v := g.2 j j0 j1
        exact ⟨(q : Int), j, Or.inl ⟨by omega, by omega, j0, by rw [g.1]; exact j1⟩, by rw [v.1]; exact hx, by rw [v.2]; exact hy⟩
      · omega
    · rintro ⟨q, j, h, hx, hy⟩
      rcases h with ⟨q0, q1, j0, j1⟩ | h
      · obtain ⟨m1, m2, m3⟩ := hn1 c q.toNat (by omega)
        have g := rg10 sa c q0 q1
        rw [g.1] at j1
        have v := g.2 j j0 j1
        exact ⟨q.toNat, j, Or.inl ⟨by omega, j0, by rw [m1]; exact j1⟩, by rw [m2, ← v.1]; exact hx, by rw [m3, ← v.2]; exact hy⟩
      · omega
theorem new_cpl {F F' : Nat → Nat → Int} {G G' G1 Gx Gy : Nat → Int → Int} {k : Nat} {n : Int} (hn : 0 ≤ n ∧ n ≤ 9) (sa : same F G k 10) (h23 : F k 4 = 1 → G 246 42 = 0 ∧ G 246 43 = 0) (hN : newS F F' G G' k) (hR : ∀ a, 245 ≤ a → a ≤ 249 → G1 a = G a) (hen : enI G1 Gx Gy n 4 4 0) (hY : ∀ a, 245 ≤ a → a ≤ 249 → G' a = Gy a) : cpl F' G' k n := by
  have hp := new_pts sa h23 hN hR
  obtain ⟨⟨htl, hbx⟩, htal, ⟨e3, e4, e5, e6⟩, hn1, ⟨⟨u1, u2⟩, ⟨u3, u4⟩, u5, u6⟩, hn2⟩ := hN
  obtain ⟨-, n2, -, n4, -, n6, n7⟩ := hen
  have y5 := hY 245 (by decide) (by decide)
  have y6 := hY 246 (by decide) (by decide)
  have y7 := hY 247 (by decide) (by decide)
  have y8 := hY 248 (by decide) (by decide)
  have y9 := hY 249 (by decide) (by decide)
  have r5 := hR 245 (by decide) (by decide)
  have r6 := hR 246 (by decide) (by decide)
  have r7 := hR 247 (by decide) (by decide)
  have r8 := hR 248 (by decide) (by decide)
  rw [r5, r6] at n2
  rw [r6, r7, r8] at n4
  have told : ∀ q : Int, 0 ≤ q → q < 4 → G' 245 (4 * n + q) = G 245 (4 * 10 + q) ∧ G' 246 (4 * n + q) = G 246 (4 * 10 + q) := fun q a b => by
    have z := (n2 (4 * n + q)).2 (by omega)
    rw [show 40 + (4 * n + q - 4 * n) = 4 * 10 + q by omega] at z
    rw [y5, y6]
    exact z
  have t0 := told 0 (by decide) (by decide)
  have t1 := told 1 (by decide) (by decide)
  have t2 := told 2 (by decide) (by decide)
  have t3 := told 3 (by decide) (by decide)
  rw [Int.add_zero, Int.add_zero] at t0
  have cc : ∀ q j : Int, 0 ≤ q → q < 4 → 0 ≤ j → j < G 246 (4 * 10 + q) → G' 247 (96 * n + 24 * q + j) = G 247 (96 * 10 + 24 * q + j) ∧ G' 248 (96 * n + 24 * q + j) = G 248 (96 * 10 + 24 * q + j) := fun q j a b c d => by
    have z := n4 q j (Or.inl ⟨a, b, c, by rw [show 40 + q = 4 * 10 + q by omega]; exact d⟩)
    rw [show 960 + 24 * q + j = 96 * 10 + 24 * q + j by omega] at z
    rw [y7, y8]
    exact z
  refine ⟨⟨htl, hbx⟩, htal, ?_, ⟨?_, fun q a b => ?_, fun c q hq => ?_, fun c => ?_⟩, fun c => ?_⟩
  · have hb2 := boxP_cong n7 hp
    have hs : ∀ x y, cS F' G' k 4 0 x y → (0 ≤ x ∧ x ≤ 600) ∧ (0 ≤ y ∧ y ≤ 600) := fun x y hc => by
      obtain ⟨q, j, hq, hx, hy⟩ := hc
      rcases hq with ⟨hq, j0, j1⟩ | hq
      · rw [hx, hy]
        exact (htl.1.2.1 q hq).2 j j0 j1
      · omega
    have q := htl.1.2.2.1
    obtain ⟨z1, z2, z3, z4⟩ := boxP_uniq hs hb2 hbx (by omega) (by omega)
    unfold bxS
    rw [y9]
    exact ⟨z1, z2, z3, z4⟩
  · unfold tld
    rw [t0.1, t1.1, t2.1, t3.1, e3, e4, e5, e6]
    exact sa.1
  · rw [(told q a b).2]
    exact sa.2.1 q a b
  · rw [e4] at c
    obtain ⟨m1, m2, m3⟩ := hn1 c q hq
    obtain ⟨g1, g2⟩ := sa.2.2.1 c q hq
    rw [(told (q : Int) (by omega) (by omega)).2, m1, m2, m3]
    refine ⟨g1, fun i i0 i1 => ?_⟩
    have z := cc (q : Int) i (by omega) (by omega) i0 (by rw [g1]; exact i1)
    rw [z.1, z.2]
    exact g2 i i0 i1
  · rw [e4] at c
    obtain ⟨⟨l1, l2⟩, l3, l4⟩ := sa.2.2.2 c
    unfold rls
    rw [t0.2, t1.2, u1, u2, u3, u4, u5, u6]
    refine ⟨⟨l1, fun i i0 i1 => ?_⟩, l3, fun i i0 i1 => ?_⟩
    · have z := cc 0 i (by decide) (by decide) i0 (by rw [Int.add_zero, l1]; exact i1)
      rw [show 96 * n + 24 * 0 + i = 96 * n + i by omega, show 96 * (10 : Int) + 24 * 0 + i = 96 * 10 + i by omega] at z
      rw [z.1, z.2]
      exact l2 i i0 i1
    · have z := cc 1 i (by decide) (by decide) i0 (by rw [l3]; exact i1)
      rw [show 96 * n + 24 * 1 + i = 96 * n + 24 + i by omega, show 96 * (10 : Int) + 24 * 1 + i = 96 * 10 + 24 + i by omega] at z
      rw [z.1, z.2]
      exact l4 i i0 i1
  · have c2 := c
    rw [e4] at c2
    obtain ⟨s1, ⟨s2, s3, s4⟩, s5⟩ := hn2 c2
    have tl := htl.2.2 c
    rw [u1, u2] at tl
    unfold jnR
    rw [s1, s2, s3, s4, u1, u3, u4, u5, u6]
    refine ⟨by omega, rfl, rfl, rfl, fun i i0 i1 => ⟨(s5 i i0).1 i1, ?_⟩⟩
    have z := (s5 i i0).2 (by omega)
    rw [show F (k + 18) 2 - 1 - i = F (k + 15) 2 - 1 - i by omega] at z
    exact z
theorem op_ok {F : Nat → Nat → Int} {G : Nat → Int → Int} {k : Nat} (hK : isSh k) (hO : ivO F G) (op : opn F G k) : mOk G 10 ∧ mPl G := by
  obtain ⟨o1, o2, -⟩ := hO
  obtain ⟨p, sa, h23⟩ := op
  have e4 := e41 sa
  have hra := op_rail hK p
  refine ⟨⟨by decide, o1, o2, fun y => ?_⟩, fun r i r0 r1 i0 i1 => ?_⟩
  · have y2 : F k 4 = 1 := by rw [← e4]; exact y
    rw [(sa.2.2.2 y2).1.1]
    exact hra.1.2
  · by_cases c : F k 4 = 1
    · obtain ⟨⟨l1, l2⟩, l3, l4⟩ := sa.2.2.2 c
      have z23 := h23 c
      rcases (show r = 0 ∨ r = 1 ∨ r = 2 ∨ r = 3 by omega) with e | e | e | e <;> subst e
      · have i2 : i < F (k + 15) 2 := by rw [← l1]; exact i1
        have v := l2 i i0 i2
        rw [show 96 * (10 : Int) + i = 960 + 24 * 0 + i by omega] at v
        rw [v.1, v.2]
        exact p.2.2.2.1.2 i i0 i2
      · have i2 : i < F (k + 18) 2 := by rw [← l3]; exact i1
        have v := l4 i i0 i2
        rw [show 96 * (10 : Int) + 24 + i = 960 + 24 * 1 + i by omega] at v
        rw [v.1, v.2]
        exact p.2.2.2.2.1.2 i i0 i2
      · rw [show 40 + (2 : Int) = 42 from rfl, z23.1] at i1
        omega
      · rw [show 40 + (3 : Int) = 43 from rfl, z23.2] at i1
        omega
    · have g := rg10 sa c r0 r1
      rw [g.1] at i1
      have v := g.2 i i0 i1
      rw [v.1, v.2]
      exact (p.2.1 r.toNat (by omega)).2 i i0 i1
theorem end_fault {F F2 : Nat → Nat → Int} {G : Nat → Int → Int} {k : Nat} {w z l o : Int} (hK : isSh k) (sa : same F G k 10) (hO : mOk G 10) (hS : if fU F 0 10 0 k 4 = 1 then w = (if fU F 0 10 0 (k + 15) 2 < 2 ∨ ¬ fU F 0 10 0 (k + 15) 2 = fU F 0 10 0 (k + 18) 2 then 1 else 0) ∧ F2 224 7 = -1 ∧ F2 224 8 = -1 else sFault (fU F 0 10 0) G k w (F2 224 7) (F2 224 8)) (hM : mFault G z l o) : w = z ∧ F2 224 7 = l ∧ F2 224 8 = o := by
  have hK' := hK
  unfold isSh at hK'
  have e4 := e41 sa
  rw [fU_n (show ¬ (k = 0 ∧ 4 = 10) by omega)] at hS
  by_cases c : F k 4 = 1
  · rw [if_pos c, fU_n (by omega), fU_n (by omega)] at hS
    obtain ⟨h1, h2, h3⟩ := hS
    obtain ⟨⟨l1, -⟩, l3, -⟩ := sa.2.2.2 c
    have k1 : G 246 40 = F (k + 15) 2 := l1
    have k2 : G 246 41 = F (k + 18) 2 := l3
    have c' : G 245 41 = 1 := by rw [e4]; exact c
    have ef : mFlat G ↔ (F (k + 15) 2 < 2 ∨ ¬ F (k + 15) 2 = F (k + 18) 2) := by
      unfold mFlat
      rw [if_pos c', k1, k2]
      omega
    rcases hM with ⟨a1, a2, a3, a4⟩ | ⟨a1, -, a2, a3, a4⟩ | ⟨-, a2, -⟩
    · rw [if_pos (ef.mp a2)] at h1
      omega
    · rw [if_neg (fun y => a1 (ef.mpr y))] at h1
      omega
    · exact absurd c' a2
  · rw [if_neg c, sFault_cong (F := F) (F1 := fU F 0 10 0) (fun a => fU_n (by omega))] at hS
    exact fault_eq sa c hO hS hM
theorem o_end {F : Nat → Nat → Int} {G : Nat → Int → Int} (h : Inv F G) : oq_end Inv F G := by
  obtain ⟨hA, hF, hL, hP, hQ, hT, hS, hO⟩ := id h
  have hn := hA.1
  by_cases c0 : F 0 10 = 1
  · have n9 := hA.2.2.2.2.1 c0
    have hn9 : 0 ≤ F 0 8 ∧ F 0 8 < 10 := by omega
    have hKs := isSh_n hn9
    have op := hO.2.2 c0
    have hmk := op_ok hKs hO op
    generalize hkk : 2 + 22 * (F 0 8).toNat = k at op hKs
    have hKs' := hKs
    unfold isSh at hKs'
    refine ⟨_, l_end_ok F G _ (c_Dk_end F G k hn9 hkk.symm c0 op.1), fun k' F1 G1 hk => ?_⟩
    obtain ⟨ek, w, Gm, ⟨F2, G2, d1, d2, d3, d4, d5⟩, hG1⟩ := hk
    -- what the class leaves
    have cl : (∀ a b, a ≠ 224 → a ≠ 231 → ¬ (k ≤ a ∧ a < k + 22) → ¬ (a = 0 ∧ (b = 8 ∨ b = 10)) → F1 a b = F a b) ∧ (∀ b, F1 224 b = F2 224 b) ∧ F1 0 10 = 0 ∧ (∀ a, ¬ (225 ≤ a ∧ a ≤ 229) → ¬ (232 ≤ a ∧ a ≤ 234) → a ≠ k + 4 → a ≠ k + 5 → a ≠ 222 → a ≠ 264 → G1 a = G a) := by
      rcases d5 with ⟨-, x1, x2⟩ | ⟨-, F3, G3, F4, G4, x1, x2, x3, x4, x5⟩
      · refine ⟨fun a b z1 z2 z3 z4 => ?_, fun b => by rw [x1], ?_, fun a z1 z2 z3 z4 z5 z6 => ?_⟩
        · rw [x1, d1 a b z1, fU_n (by omega)]
        · rw [x1, d1 0 10 (by decide), fU_hit]
        · rw [hG1, gU_k _ _ _ z6, x2, d2 a (by omega)]
      · obtain ⟨y1, y2, y3, y4⟩ := new_fr hKs d1 d2 x1 x3
        refine ⟨fun a b z1 z2 z3 z4 => ?_, fun b => ?_, ?_, fun a z1 z2 z3 z4 z5 z6 => ?_⟩
        · rw [x4, fU_n (by omega), y1 a b z1 z2 z3 (by omega)]
        · rw [x4, fU_n (by omega), y2]
        · rw [x4, fU_n (by omega), y3]
        · rw [hG1, gU_k _ _ _ z6, x5, gU_k _ _ _ z5, y4 a z1 z2 z3 z4]
    obtain ⟨cf, c24, c10, cg⟩ := cl
    have hR : ∀ a, 245 ≤ a → a ≤ 263 → G1 a = G a := fun a z1 z2 => cg a (by omega) (by omega) (by omega) (by omega) (by omega) (by omega)
    have r5 := hR 245 (by decide) (by decide)
    have r6 := hR 246 (by decide) (by decide)
    have r7 := hR 247 (by decide) (by decide)
    have r8 := hR 248 (by decide) (by decide)
    have f1 : ∀ b, F1 244 b = F 244 b := fun b => cf 244 b (by omega) (by omega) (by omega) (by omega)
    have hmk1 : mOk G1 10 ∧ mPl G1 := by
      unfold mOk mPl at hmk ⊢
      rw [r5, r6, r7, r8]
      exact hmk
    have o41 := hO.1 1 (by decide) (by decide)
    refine ⟨_, c_Mo_end F1 G1 (by rw [f1, hA.2.1]; omega) (by rw [f1, hA.2.2.2.1]; exact hA.2.2.1) hmk1.1 hmk1.2 (by rw [r6]; exact o41), fun z F' G' h2 => ?_⟩
    rcases h2 with ⟨a, -⟩ | ⟨-, m1, m2, m3, m4, m5⟩
    · rw [f1, hA.2.2.2.1] at a
      omega
    · obtain ⟨ew, e7, e8⟩ := end_fault hKs op.2.1 hmk.1 d4 (mFault_cg (fun a z1 z2 => hR a z1 (by omega)) m4)
      have ff : ∀ a b, ¬ (a = 244 ∧ (b = 0 ∨ b = 1 ∨ b = 2 ∨ b = 9 ∨ b = 10 ∨ b = 11 ∨ b = 12)) → F' a b = F1 a b := fun a b y => by
        rcases m5 with ⟨-, m, -⟩ | ⟨-, m, -⟩
        · exact m a b (by omega)
        · exact m a b (by omega)
      have hF' : ivF F' := by
        unfold ivF
        rw [ff 224 6 (by omega), ff 224 7 (by omega), ff 224 8 (by omega), c24, c24, c24, d3, e7, e8, m3]
        exact ⟨ew.symm, rfl, rfl⟩
      have fs : ∀ a b, a ≠ 224 → a ≠ 231 → ¬ (k ≤ a ∧ a < k + 22) → ¬ (a = 0 ∧ (b = 8 ∨ b = 10)) → ¬ (a = 244 ∧ (b = 0 ∨ b = 1 ∨ b = 2 ∨ b = 9 ∨ b = 10 ∨ b = 11 ∨ b = 12)) → F' a b = F a b := fun a b y1 y2 y3 y4 y5 => by rw [ff a b y5, cf a b y1 y2 y3 y4]
      have g264 : G1 264 0 = (iI w).toInt := by rw [hG1, gU_hit]
      rw [ek]
      rcases d5 with ⟨w0, x1, x2⟩ | ⟨w0, F3, G3, F4, G4, x1, x2, x3, x4, x5⟩
      · rcases m5 with ⟨z0, m6, m7⟩ | ⟨z0, -⟩
        · have fq : ∀ a b, a ≠ 224 → ¬ (a = 0 ∧ b = 10) → ¬ (a = 244 ∧ (b = 0 ∨ b = 2 ∨ b = 9 ∨ b = 10 ∨ b = 11 ∨ b = 12)) → F' a b = F a b := fun a b y1 y2 y3 => by rw [m6 a b y3, x1, d1 a b y1, fU_n y2]
          have gq : ∀ a, ¬ (225 ≤ a ∧ a ≤ 229) → ¬ (251 ≤ a ∧ a ≤ 256) → a ≠ 264 → G' a = G a := fun a y1 y2 y3 => by rw [m7 a (by omega), hG1, gU_k _ _ _ y3, x2, d2 a (by omega)]
          have o0 : F' 0 10 = 0 := by rw [ff 0 10 (by omega), c10]
          refine ⟨by decide, m1, fun _ => ?_, ?_, hF', ivL_cong hL (fq _ _ (by omega) (by omega) (by omega)) (fq _ _ (by omega) (by omega) (by omega)) (gq _ (by omega) (by omega) (by omega)) (gq _ (by omega) (by omega) (by omega)), ivP_cong hP (fq _ _ (by omega) (by omega) (by omega)) (fq _ _ (by omega) (by omega) (by omega)) (gq _ (by omega) (by omega) (by omega)) (gq _ (by omega) (by omega) (by omega)) (gq _ (by omega) (by omega) (by omega)) (gq _ (by omega) (by omega) (by omega)), ivQ_cong hQ (fq _ _ (by omega) (by omega) (by omega)) (gq _ (by omega) (by omega) (by omega)) (gq _ (by omega) (by omega) (by omega)), ivT_cong hT (gq _ (by omega) (by omega) (by omega)), ivS_cong hn.2 hS (fq _ _ (by omega) (by omega) (by omega)) (fun a b c d => fq a b (by omega) (by omega) (by omega)) (fun a c d => gq a (by omega) (by omega) (by omega)) (fun a c d => gq a (by omega) (by omega) (by omega)), ?_, ?_, fun y => ?_⟩
          · rw [m7 264 (by decide), g264, ew]
          · unfold ivA
            rw [fq 0 8 (by omega) (by omega) (by omega), o0, fq 244 1 (by omega) (by omega) (by omega), m2, fq 235 6 (by omega) (by omega) (by omega)]
            exact ⟨hn, hA.2.1, Or.inl rfl, rfl, fun y => absurd y (by decide), hA.2.2.2.2.2⟩
          · unfold cnts
            rw [gq 246 (by decide) (by decide) (by decide)]
            exact hO.1
          · rw [gq 245 (by decide) (by decide) (by decide)]
            exact hO.2.1
          · rw [o0] at y
            exact absurd y (by decide)
        · exact absurd (ew.trans z0) w0
      · rcases m5 with ⟨z0, -⟩ | ⟨z0, m6, m7, Gx, Gy, m8, m9, m10⟩
        · exact absurd (ew.symm.trans w0) z0
        · rw [f1, hA.2.1] at m7 m9 m10
          have en := id m9
          obtain ⟨en1, en2, en3, -, en5, -, -⟩ := m9
          have n8 : F' 0 8 = F 0 8 + 1 := by rw [ff 0 8 (by omega), x4, fU_hit]
          have o0 : F' 0 10 = 0 := by rw [ff 0 10 (by omega), c10]
          have gq : ∀ a, ¬ (225 ≤ a ∧ a ≤ 229) → ¬ (232 ≤ a ∧ a ≤ 234) → a ≠ k + 4 → a ≠ k + 5 → a ≠ 222 → a ≠ 264 → ¬ (245 ≤ a ∧ a ≤ 256) → G' a = G a := fun a y1 y2 y3 y4 y5 y6 y7 => by rw [m10, gU_k _ _ _ (by omega), en1 a (by omega), m8 a (by omega), cg a y1 y2 y3 y4 y5 y6]
          have hY : ∀ a, 245 ≤ a → a ≤ 249 → G' a = Gy a := fun a y1 y2 => by rw [m10, gU_k _ _ _ (by omega)]
          have g222 : G' 222 = zU (G 222) (F 0 8) (F 0 8) := by
            obtain ⟨-, -, -, y4⟩ := new_fr hKs d1 d2 x1 x3
            rw [m10, gU_k _ _ _ (by decide), en1 222 (by decide), m8 222 (by decide), hG1, gU_k _ _ _ (by decide), x5, gU_self, y4 222 (by omega) (by omega) (by omega) (by omega)]
          have g250 : G' 250 = zU (G 250) (F 0 8) (F 0 8) := by
            rw [m10, gU_self, en1 250 (by decide), m8 250 (by decide), hR 250 (by decide) (by decide)]
          have hnew : newS F F' G G' k := by
            refine new_cls hKs op.1 d1 d2 x1 x2 x3 (fun a b z1 z2 => ?_) (fun a z1 z2 => ?_)
            · rw [ff a b (by omega), x4, fU_n (by omega)]
            · rw [m10, gU_k _ _ _ (by omega), en1 a (by omega), m8 a (by omega), hG1, gU_k _ _ _ (by omega), x5, gU_k _ _ _ (by omega)]
          refine ⟨by decide, m1, fun _ => ?_, ?_, hF', ivL_cong hL (fs _ _ (by omega) (by omega) (by omega) (by omega) (by omega)) (fs _ _ (by omega) (by omega) (by omega) (by omega) (by omega)) (gq _ (by omega) (by omega) (by omega) (by omega) (by omega) (by omega) (by omega)) (gq _ (by omega) (by omega) (by omega) (by omega) (by omega) (by omega) (by omega)), ivP_cong hP (fs _ _ (by omega) (by omega) (by omega) (by omega) (by omega)) (fs _ _ (by omega) (by omega) (by omega) (by omega) (by omega)) (gq _ (by omega) (by omega) (by omega) (by omega) (by omega) (by omega) (by omega)) (gq _ (by omega) (by omega) (by omega) (by omega) (by omega) (by omega) (by omega)) (gq _ (by omega) (by omega) (by omega) (by omega) (by omega) (by omega) (by omega)) (gq _ (by omega) (by omega) (by omega) (by omega) (by omega) (by omega) (by omega)), fun j j0 j1 => ?_, ivT_cong hT (gq _ (by omega) (by omega) (by omega) (by omega) (by omega) (by omega) (by omega)), fun j j0 j1 => ?_, ?_, ?_, fun y => ?_⟩
          · rw [m10, gU_a (by decide), en1 264 (by decide), m8 264 (by decide), g264, ew]
          · unfold ivA
            rw [n8, o0, m7, m2, fs 235 6 (by omega) (by omega) (by omega) (by omega) (by omega)]
            exact ⟨by omega, rfl, Or.inl rfl, rfl, fun y => absurd y (by decide), hA.2.2.2.2.2⟩
          · rw [n8] at j1 ⊢
            rw [g222, g250]
            unfold zU
            split
            · omega
            · have y := hQ j j0 (by omega)
              exact ⟨y.1, y.2.1, by omega⟩
          · rw [n8] at j1
            by_cases e : j = F 0 8
            · subst e
              rw [hkk]
              exact new_cpl (by omega) op.2.1 op.2.2 hnew (fun a y1 y2 => hR a y1 (by omega)) en hY
            · refine cpl_cong (hS j j0 (by omega)) (fun a b c d => fs a b (by omega) (by omega) (by omega) (by omega) (by omega)) (fun a c d => gq a (by omega) (by omega) (by omega) (by omega) (by omega) (by omega) (by omega)) ⟨fun i y0 y1 => ?_, fun i y0 y1 => ?_⟩
              · have z1 := (en2 i).1 (by omega)
                rw [hY 245 (by decide) (by decide), hY 246 (by decide) (by decide), hY 249 (by decide) (by decide), z1.1, z1.2, en5 i (by omega), r5, r6, hR 249 (by decide) (by decide)]
                exact ⟨rfl, rfl, rfl⟩
              · have z1 := en3 i (by omega)
                rw [hY 247 (by decide) (by decide), hY 248 (by decide) (by decide), z1.1, z1.2, r7, r8]
                exact ⟨rfl, rfl⟩
          · intro q y0 y1
            have z1 := (en2 (4 * 10 + q)).1 (by omega)
            rw [hY 246 (by decide) (by decide), z1.2, r6]
            exact hO.1 q y0 y1
          · have z1 := (en2 41).1 (by omega)
            rw [hY 245 (by decide) (by decide), z1.1, r5]
            exact hO.2.1
          · rw [o0] at y
            exact absurd y (by decide)
  · have c0' : F 0 10 = 0 := by have := hA.2.2.1; omega
    refine ⟨_, l_end_ISE F G (t_Dk_end_1 F G c0'), fun k F1 G1 hk => ?_⟩
    obtain ⟨ek, eF, eG⟩ := hk
    rw [ek, eF, eG]
    refine ⟨_, n_Mo_end F G (by rw [hA.2.2.2.1]; exact c0'), fun z F2 G2 h2 => ?_⟩
    obtain ⟨b1, b2⟩ := h2
    rw [b1, b2]
    exact ⟨by decide, fU_hit, fun y => absurd y (by decide), iv_t h 1⟩
/-- every call keeps it -/
theorem iv_all (F : Nat → Nat → Int) (G : Nat → Int → Int) (h : Inv F G) : opsAll Inv F G := ⟨fun p1 p2 p3 p4 q1 q2 q3 q4 => o_begin h p1 p2 p3 p4 q1 q2 q3 q4, fun p1 p2 p3 q1 q2 q3 => o_corner h p1 p2 p3 q1 q2 q3, fun p1 p2 p3 q1 q2 q3 => o_rail h p1 p2 p3 q1 q2 q3, o_end h, fun p1 q1 => o_fault h p1 q1, fun p1 p2 q1 q2 => o_shape h p1 p2 q1 q2, fun p1 q1 => o_count h p1 q1, o_stitch h, fun p1 p2 q1 q2 => o_record h p1 p2 q1 q2, fun p1 q1 => o_byteAt h p1 q1, fun p1 p2 q1 q2 => o_load h p1 p2 q1 q2, o_decode h, o_reorder h, fun p1 q1 => o_order h p1 q1, fun p1 q1 => o_thread h p1 q1, fun p1 p2 q1 q2 => o_under h p1 p2 q1 q2, fun p1 p2 q1 q2 => o_needle h p1 p2 q1 q2, fun p1 p2 q1 q2 => o_hoop h p1 p2 q1 q2, fun p1 q1 => o_stop h p1 q1⟩
theorem iv_0 : Inv fI0 gI0 := by
  refine ⟨?_, ?_, ?_, ?_, fun j j0 j1 => ?_, fun T _ _ => ?_, fun j j0 j1 => ?_, fun q _ _ => ?_, ?_, fun y => ?_⟩
  · unfold ivA
    decide
  · unfold ivF
    decide
  · refine ⟨⟨by decide, fun i i0 i1 => ?_⟩, by decide, fun i i0 i1 => rfl⟩
    show 0 ≤ (0 : Int) ∧ (0 : Int) < 256
    decide
  · refine ⟨⟨⟨by decide, fun i i0 i1 => ?_⟩, fun i i0 i1 => ?_⟩, by decide, fun i i0 i1 => ?_⟩
    · exact absurd i1 (by show ¬ i < 0; omega)
    · exact absurd i1 (by show ¬ i < 0; omega)
    · exact absurd i1 (by show ¬ i < 0; omega)
  · exact absurd j1 (by show ¬ j < 0; omega)
  · show 0 ≤ (0 : Int) ∧ (0 : Int) < 256
    decide
  · exact absurd j1 (by show ¬ j < 0; omega)
  · show 0 ≤ (0 : Int) ∧ (0 : Int) ≤ 24
    decide
  · show 0 ≤ (0 : Int) ∧ (0 : Int) ≤ 2
    decide
  · exact absurd y (by decide)
