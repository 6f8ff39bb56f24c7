/-! both sides find the same fault -/
theorem same_R {F : Nat → Nat → Int} {G : Nat → Int → Int} {k : Nat} {sn : Int} (h : same F G k sn) (hf : ¬ F k 4 = 1) : cplR F G k sn := by
  obtain ⟨ht, hc, hr, hl⟩ := h
  intro q hq
  obtain ⟨r1, r2⟩ := hr hf q hq
  have e2 : ¬ G 245 (4 * sn + 1) = 1 := by rw [ht.2.1]; exact hf
  have hs : mSz G sn (q : Int) = F (k + 3 + 3 * q) 2 := by
    unfold mSz
    rw [if_neg e2, r1]
  rw [hs]
  refine ⟨rfl, fun i i0 i1 => ?_⟩
  have hm : mAt G sn (q : Int) i = 96 * sn + 24 * q + i := if_neg e2
  rw [hm]
  exact ⟨(r2 i i0 i1).1.symm, (r2 i i0 i1).2.symm⟩
theorem rg10 {F : Nat → Nat → Int} {G : Nat → Int → Int} {k : Nat} (h : same F G k 10) (hf : ¬ F k 4 = 1) {r : Int} (h0 : 0 ≤ r) (h1 : r < 4) : G 246 (40 + r) = F (k + 3 + 3 * r.toNat) 2 ∧ ∀ i : Int, 0 ≤ i → i < F (k + 3 + 3 * r.toNat) 2 → G 247 (960 + 24 * r + i) = G (k + 3 + 3 * r.toNat + 1) i ∧ G 248 (960 + 24 * r + i) = G (k + 3 + 3 * r.toNat + 2) i := by
  obtain ⟨r1, r2⟩ := h.2.2.1 hf r.toNat (by omega)
  rw [show 4 * (10 : Int) + ((r.toNat : Nat) : Int) = 40 + r by omega] at r1
  refine ⟨r1, fun i a b => ?_⟩
  have z := r2 i a b
  rw [show 96 * (10 : Int) + 24 * ((r.toNat : Nat) : Int) + i = 960 + 24 * r + i by omega] at z
  exact z
theorem rflat_iff {F : Nat → Nat → Int} {G : Nat → Int → Int} {k : Nat} (h : same F G k 10) (hf : ¬ F k 4 = 1) {r : Int} (h0 : 0 ≤ r) (h1 : r < 4) : rFlat F G (k + 3 + 3 * r.toNat) ↔ (G 246 (40 + r) < 3 ∨ mLine G r (G 246 (40 + r)) 0) := by
  obtain ⟨r1, r2⟩ := rg10 h hf h0 h1
  rw [r1]
  have key : ∀ a b : Int, 0 ≤ a → a < F (k + 3 + 3 * r.toNat) 2 → 0 ≤ b → b < F (k + 3 + 3 * r.toNat) 2 → fT G r b a = rTurn (G (k + 3 + 3 * r.toNat + 1)) (G (k + 3 + 3 * r.toNat + 2)) b a := fun a b a0 a1 b0 b1 => by
    have z0 := r2 0 (by omega) (by omega)
    have za := r2 a a0 a1
    have zb := r2 b b0 b1
    rw [Int.add_zero] at z0
    unfold fT eTurn rTurn
    rw [z0.1, z0.2, za.1, za.2, zb.1, zb.2]
    grind
  constructor
  · intro hl
    by_cases c : F (k + 3 + 3 * r.toNat) 2 < 3
    · exact Or.inl c
    · refine Or.inr (fun a b b0 ba hab => ?_)
      have ha : a < F (k + 3 + 3 * r.toNat) 2 := by omega
      rw [key a b (by omega) ha b0 (by omega)]
      by_cases d : b = 0
      · subst d
        unfold rTurn
        grind
      · exact hl b a (by omega) ba ha
  · rintro (c | c) a b a1 ab hb
    · omega
    · rw [← key b a (by omega) hb (by omega) (by omega)]
      exact c b a (by omega) ab (Or.inl hb)
theorem e41 {F : Nat → Nat → Int} {G : Nat → Int → Int} {k : Nat} (h : same F G k 10) : G 245 41 = F k 4 := by
  have z := h.1.2.1
  rwa [show (4 * 10 + 1 : Int) = 41 from rfl] at z
theorem flat_iff {F : Nat → Nat → Int} {G : Nat → Int → Int} {k : Nat} (h : same F G k 10) (hf : ¬ F k 4 = 1) : sFlat F G k ↔ mFlat G := by
  have e : ¬ G 245 41 = 1 := by rw [e41 h]; exact hf
  have z0 := (rg10 h hf (r := 0) (by omega) (by omega)).1
  rw [Int.add_zero] at z0
  unfold sFlat mFlat
  rw [if_neg e]
  constructor
  · rintro ⟨q, ⟨a, b⟩, c, d⟩
    have zq := (rg10 h hf a b).1
    have hc := h.2.1 q a b
    rw [show 4 * (10 : Int) + q = 40 + q by omega] at hc
    by_cases n : G 246 (40 + q) = 0
    · left
      rcases c with c | c
      · subst c
        rw [Int.add_zero] at n
        exact n
      · omega
    · exact Or.inr ⟨q, ⟨a, b⟩, by omega, (rflat_iff h hf a b).mp d⟩
  · rintro (c | ⟨r, ⟨a, b⟩, c, d⟩)
    · refine ⟨0, by omega, Or.inl rfl, fun i j i1 ij hj => ?_⟩
      omega
    · have zq := (rg10 h hf a b).1
      exact ⟨r, ⟨a, b⟩, Or.inr (by omega), (rflat_iff h hf a b).mpr d⟩
theorem oCM {F : Nat → Nat → Int} {G : Nat → Int → Int} {k : Nat} {sn : Int} (h : cplR F G k sn) : ∀ q : Nat, q ≤ 4 → oC F k q = oM G sn q
  | 0, _ => rfl
  | q + 1, hq => by
    show oC F k q + F (k + 3 + 3 * q) 2 = oM G sn q + mSz G sn (q : Int)
    rw [oCM h q (by omega), (h q (by omega)).1]
theorem ed_pair {F : Nat → Nat → Int} {G G1 Ge : Nat → Int → Int} {k : Nat} {sn : Int} (hc : cplR F G k sn) (hC : edgesAt F G k G1) (hE : mEdW G sn Ge) {q : Nat} (hq : q < 4) {j : Int} (hj : 0 ≤ j ∧ j < mSz G sn q) : G1 225 (oM G sn q + j) = Ge 251 (oM G sn q + j) ∧ G1 226 (oM G sn q + j) = Ge 252 (oM G sn q + j) ∧ G1 227 (oM G sn q + j) = Ge 253 (oM G sn q + j) ∧ G1 228 (oM G sn q + j) = Ge 254 (oM G sn q + j) ∧ G1 229 (oM G sn q + j) = oM G sn q + rJ (mSz G sn q) j ∧ Ge 255 (oM G sn q + j) = q ∧ Ge 256 (oM G sn q + j) = j := by
  obtain ⟨e1, e2, e3, e4, e5, e6⟩ := ed_eq hc hE hq hj
  obtain ⟨c1, c2, c3, c4, c5⟩ := hC.2 q hq j hj.1 (by rw [(hc q hq).1]; exact hj.2)
  rw [oCM hc q (by omega)] at c1 c2 c3 c4 c5
  rw [e1, e2, e3, e4, e5, e6, c1, c2, c3, c4, c5, (hc q hq).1]
  exact ⟨rfl, rfl, rfl, rfl, rfl, rfl, rfl⟩
theorem on_fst {x1 y1 x2 y2 : Int} : eOn x1 y1 x2 y2 x2 y2 := by
  unfold eOn eTurn
  refine ⟨by grind, ?_, ?_⟩
  · rw [Int.sub_self, Int.mul_zero]
    exact Int.le_refl 0
  · rw [Int.sub_self, Int.mul_zero]
    exact Int.le_refl 0
theorem cross_iff {F : Nat → Nat → Int} {G G1 Ge : Nat → Int → Int} {k : Nat} (h : same F G k 10) (hf : ¬ F k 4 = 1) (hO : mOk G 10) (hC : edgesAt F G k G1) (hE : mEdges G 10 Ge) {a b : Int} (h0 : 0 ≤ a) (hab : a < b) (hb : b < oM G 10 4) : iCross G1 a b ↔ mCross Ge a b := by
  have hc := same_R h hf
  obtain ⟨qa, ia, ha4, a0, a1, ea⟩ := oM_split h0 4 (show a < oM G 10 4 by omega)
  obtain ⟨qb, ib, hb4, b0, b1, eb⟩ := oM_split (show 0 ≤ b by omega) 4 hb
  obtain ⟨p1, p2, p3, p4, p5, p6, p7⟩ := ed_pair hc hC hE.2 ha4 ⟨a0, a1⟩
  obtain ⟨s1, s2, s3, s4, s5, s6, s7⟩ := ed_pair hc hC hE.2 hb4 ⟨b0, b1⟩
  obtain ⟨u1, u2, u3, u4, -, -⟩ := ed_eq hc hE.2 ha4 ⟨a0, a1⟩
  obtain ⟨v1, v2, v3, v4, -, -⟩ := ed_eq hc hE.2 hb4 ⟨b0, b1⟩
  rw [← ea] at p1 p2 p3 p4 p5 p6 p7 u1 u2 u3 u4
  rw [← eb] at s1 s2 s3 s4 s5 s6 s7 v1 v2 v3 v4
  have ht : iShare G1 a b ↔ mTouch Ge a b := by
    unfold iShare mTouch mOn
    rw [p1, p2, p3, p4, s1, s2, s3, s4]
    exact share_iff
  have hk1 : iBack G1 a b ↔ mBack Ge a b := by
    unfold iBack mBack
    rw [p1, p2, p3, p4, s1, s2, s3, s4]
  have hk2 : iBack G1 b a ↔ mBack Ge b a := by
    unfold iBack mBack
    rw [p1, p2, p3, p4, s1, s2, s3, s4]
  have ra := rJ_in (n := mSz G 10 qa) (i := ia) ⟨a0, a1⟩
  have rb := rJ_in (n := mSz G 10 qb) (i := ib) ⟨b0, b1⟩
  unfold iCross mCross mNext
  rw [p5, s5, p6, s6, p7, s7]
  by_cases e : qa = qb
  · subst e
    have hz : Ge 246 (40 + ((qa : Nat) : Int)) = mSz G 10 qa := by
      rw [hE.1 246 (by decide)]
      have z := (rg10 h hf (r := (qa : Int)) (by omega) (by omega)).1
      rw [show ((qa : Int)).toNat = qa by omega] at z
      rw [z, (hc qa ha4).1]
    rw [hz]
    by_cases c1 : rJ (mSz G 10 qa) ia = ib
    · rw [if_pos (show oM G 10 qa + rJ (mSz G 10 qa) ia = b by omega), if_pos c1.symm]
      have t : mTouch Ge a b := by
        left
        unfold mOn
        have x1 : Ge 251 b = Ge 253 a := by rw [v1, u3, (hc qa ha4).1, c1]
        have x2 : Ge 252 b = Ge 254 a := by rw [v2, u4, (hc qa ha4).1, c1]
        rw [x1, x2]
        exact on_fst
      rw [hk1]
      exact ⟨fun z => ⟨t, Or.inr z⟩, fun z => z.2.resolve_left (fun w => w rfl)⟩
    · rw [if_neg (show ¬ oM G 10 qa + rJ (mSz G 10 qa) ia = b by omega), if_neg (show ¬ ib = rJ (mSz G 10 qa) ia from fun w => c1 w.symm)]
      by_cases c2 : rJ (mSz G 10 qa) ib = ia
      · rw [if_pos (show oM G 10 qa + rJ (mSz G 10 qa) ib = a by omega), if_pos c2.symm]
        have t : mTouch Ge a b := by
          right
          right
          left
          unfold mOn
          have x1 : Ge 251 a = Ge 253 b := by rw [u1, v3, (hc qa ha4).1, c2]
          have x2 : Ge 252 a = Ge 254 b := by rw [u2, v4, (hc qa ha4).1, c2]
          rw [x1, x2]
          exact on_fst
        rw [hk2]
        exact ⟨fun z => ⟨t, Or.inr z⟩, fun z => z.2.resolve_left (fun w => w rfl)⟩
      · rw [if_neg (show ¬ oM G 10 qa + rJ (mSz G 10 qa) ib = a by omega), if_neg (show ¬ ia = rJ (mSz G 10 qa) ib from fun w => c2 w.symm), ht]
        exact ⟨fun z => ⟨z, Or.inr trivial⟩, fun z => z.1⟩
  · have n1 : ¬ oM G 10 qa + rJ (mSz G 10 qa) ia = b := fun w => e (ed_ring hO ha4 hb4 ⟨b0, b1⟩ eb (by omega)).symm
    have n2 : ¬ oM G 10 qb + rJ (mSz G 10 qb) ib = a := fun w => e (ed_ring hO hb4 ha4 ⟨a0, a1⟩ ea (by omega))
    rw [if_neg n1, if_neg n2, ht]
    exact ⟨fun z => ⟨z, Or.inl (by omega)⟩, fun z => z.1⟩
theorem in_iff {F : Nat → Nat → Int} {G Ge : Nat → Int → Int} {k : Nat} {sn : Int} (hO : mOk G sn) (hc : cplR F G k sn) (hE : mEdW G sn Ge) (x y : Int) {r : Int} (hr : 0 ≤ r ∧ r < 4) : rInside (G (k + 3 + 3 * r.toNat + 1)) (G (k + 3 + 3 * r.toNat + 2)) (F (k + 3 + 3 * r.toNat) 2) x y ↔ mIn Ge (oM G sn 4) r x y := by
  have hq : r.toNat < 4 := by omega
  have e1 := par_r hO hc hE x y hr
  unfold rInside mIn
  rw [e1]
  refine and_congr ⟨fun z w w0 w1 w2 w3 => ?_, fun z i i0 i1 w => ?_⟩ Iff.rfl
  · obtain ⟨q, i, hq', i0, i1, rfl⟩ := oM_split w0 4 w1
    have e5 := (ed_eq hc hE hq' ⟨i0, i1⟩).2.2.2.2.1
    have e7 : q = r.toNat := by omega
    subst e7
    exact z i i0 (by rw [(hc _ hq).1]; exact i1) ((ed_on hc hE hq ⟨i0, i1⟩ x y).mp w3)
  · have i2 : i < mSz G sn ((r.toNat : Nat) : Int) := by
      rw [← (hc _ hq).1]
      exact i1
    have hm := oM_mono hO (a := r.toNat) 4 (by omega) hq
    have hg := (oM_rng hO r.toNat (by omega)).1
    have e5 := (ed_eq hc hE hq ⟨i0, i2⟩).2.2.2.2.1
    exact z (oM G sn r.toNat + i) (by omega) (by omega) (by omega) ((ed_on hc hE hq ⟨i0, i2⟩ x y).mpr w)
theorem bin_iff {F : Nat → Nat → Int} {G Ge : Nat → Int → Int} {k : Nat} (h : same F G k 10) (hf : ¬ F k 4 = 1) (hO : mOk G 10) (hE : mEdges G 10 Ge) {r v : Int} (hr : 0 ≤ r ∧ r < 4) (hv : 0 ≤ v ∧ v < 4) (hs : 0 < F (k + 3 + 3 * r.toNat) 2) : bIn F G (k + 3 + 3 * r.toNat) (k + 3 + 3 * v.toNat) ↔ mIn Ge (oM G 10 4) v (Ge 247 (960 + 24 * r)) (Ge 248 (960 + 24 * r)) := by
  have z := (rg10 h hf hr.1 hr.2).2 0 (by omega) hs
  rw [Int.add_zero] at z
  rw [hE.1 247 (by decide), hE.1 248 (by decide), z.1, z.2]
  exact in_iff hO (same_R h hf) hE.2 _ _ hv
theorem out_iff {F : Nat → Nat → Int} {G Ge : Nat → Int → Int} {k : Nat} (h : same F G k 10) (hf : ¬ F k 4 = 1) (hO : mOk G 10) (hE : mEdges G 10 Ge) : sOut F G k ↔ mOut Ge (oM G 10 4) := by
  unfold sOut mOut
  constructor
  · rintro ⟨q, ⟨a, b⟩, c, d⟩
    refine ⟨q, ⟨a, b⟩, ?_, fun w => d ((bin_iff h hf hO hE ⟨by omega, b⟩ ⟨by omega, by omega⟩ c).mpr w)⟩
    rw [hE.1 246 (by decide), (rg10 h hf (by omega) b).1]
    exact c
  · rintro ⟨q, ⟨a, b⟩, c, d⟩
    rw [hE.1 246 (by decide), (rg10 h hf (by omega) b).1] at c
    exact ⟨q, ⟨a, b⟩, c, fun w => d ((bin_iff h hf hO hE ⟨by omega, b⟩ ⟨by omega, by omega⟩ c).mp w)⟩
theorem with_iff {F : Nat → Nat → Int} {G Ge : Nat → Int → Int} {k : Nat} (h : same F G k 10) (hf : ¬ F k 4 = 1) (hO : mOk G 10) (hE : mEdges G 10 Ge) : sWith F G k ↔ mWith Ge (oM G 10 4) := by
  unfold sWith mWith
  constructor
  · rintro ⟨q, v, ⟨a, b⟩, ⟨a', b'⟩, n, c, d⟩
    have hv : 0 < F (k + 3 + 3 * v.toNat) 2 := by
      obtain ⟨i, i0, i1, -⟩ := oddN_some _ d.2
      omega
    refine ⟨q, v, ⟨a, b⟩, ⟨a', b'⟩, fun w => n w.symm, ?_, ?_, (bin_iff h hf hO hE ⟨by omega, b⟩ ⟨by omega, b'⟩ c).mp d⟩
    · rw [hE.1 246 (by decide), (rg10 h hf (by omega) b).1]
      exact c
    · rw [hE.1 246 (by decide), (rg10 h hf (by omega) b').1]
      exact hv
  · rintro ⟨q, v, ⟨a, b⟩, ⟨a', b'⟩, n, c, -, d⟩
    rw [hE.1 246 (by decide), (rg10 h hf (by omega) b).1] at c
    exact ⟨q, v, ⟨a, b⟩, ⟨a', b'⟩, fun w => n w.symm, c, (bin_iff h hf hO hE ⟨by omega, b⟩ ⟨by omega, b'⟩ c).mpr d⟩
theorem fault_eq {F : Nat → Nat → Int} {G : Nat → Int → Int} {k : Nat} {z l o z' l' o' : Int} (h : same F G k 10) (hf : ¬ F k 4 = 1) (hO : mOk G 10) (hS : sFault F G k z l o) (hM : mFault G z' l' o') : z = z' ∧ l = l' ∧ o = o' := by
  have e := flat_iff h hf
  have n41 : ¬ G 245 41 = 1 := by rw [e41 h]; exact hf
  rcases hS with ⟨a1, a2, a3, a4⟩ | ⟨a1, G1, hC, a3⟩
  · rcases hM with ⟨b1, b2, b3, b4⟩ | ⟨b1, -⟩ | ⟨b1, -⟩
    · exact ⟨by omega, by omega, by omega⟩
    · exact absurd (e.mp a2) b1
    · exact absurd (e.mp a2) b1
  · rcases hM with ⟨b1, b2, -⟩ | ⟨-, b2, -⟩ | ⟨b1, b2, Ge, hE, b3⟩
    · exact absurd (e.mpr b2) a1
    · exact absurd b2 n41
    · have eo := oCM (same_R h hf) 4 (by omega)
      rw [eo] at a3
      have hx : ∀ a b : Int, 0 ≤ a → a < b → b < oM G 10 4 → (iCross G1 a b ↔ mCross Ge a b) := fun a b p q r => cross_iff h hf hO hC hE p q r
      have hu := out_iff h hf hO hE
      have hw := with_iff h hf hO hE
      rcases a3 with ⟨c1, c2, c3, c4⟩ | ⟨c1, c2, c3, c4⟩
      · rcases b3 with ⟨d1, d2, d3, d4⟩ | ⟨d1, -⟩
        · have n1 : ¬ (l' < l ∨ (l' = l ∧ o' < o)) := fun w => c4 l' o' d2.1 d2.2.1 d2.2.2 w ((hx l' o' d2.1 d2.2.1 d2.2.2).mpr d3)
          have n2 : ¬ (l < l' ∨ (l = l' ∧ o < o')) := fun w => d4 l o c2.1 c2.2.1 c2.2.2 w ((hx l o c2.1 c2.2.1 c2.2.2).mp c3)
          exact ⟨by omega, by omega, by omega⟩
        · exact absurd ((hx l o c2.1 c2.2.1 c2.2.2).mp c3) (d1 l o c2.1 c2.2.1 c2.2.2)
      · rcases b3 with ⟨d1, d2, d3, d4⟩ | ⟨d1, d2, d3, d4⟩
        · exact absurd ((hx l' o' d2.1 d2.2.1 d2.2.2).mpr d3) (c1 l' o' d2.1 d2.2.1 d2.2.2)
        · refine ⟨?_, by omega, by omega⟩
          rw [hu, hw] at c4
          rcases c4 with ⟨x1, x2⟩ | ⟨x2, ⟨x1, x3⟩ | ⟨x1, x3⟩⟩ <;> rcases d4 with ⟨y1, y2⟩ | ⟨y2, ⟨y1, y3⟩ | ⟨y1, y3⟩⟩
          · omega
          · exact absurd x2 y2
          · exact absurd x2 y2
          · exact absurd y2 x2
          · omega
          · exact absurd x3 y3
          · exact absurd y2 x2
          · exact absurd y3 x3
          · omega
