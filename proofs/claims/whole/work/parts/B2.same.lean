/-! a finished shape of the class and its twin in the reference -/
def tld (F : Nat → Nat → Int) (G : Nat → Int → Int) (k : Nat) (sn : Int) : Prop := G 245 (4 * sn) = F k 3 ∧ G 245 (4 * sn + 1) = F k 4 ∧ G 245 (4 * sn + 2) = F k 5 ∧ G 245 (4 * sn + 3) = F k 6
def cnts (G : Nat → Int → Int) (sn : Int) : Prop := ∀ q : Int, 0 ≤ q → q < 4 → 0 ≤ G 246 (4 * sn + q) ∧ G 246 (4 * sn + q) ≤ 24
def rgs (F : Nat → Nat → Int) (G : Nat → Int → Int) (k : Nat) (sn : Int) : Prop := ∀ q : Nat, q < 4 → G 246 (4 * sn + q) = F (k + 3 + 3 * q) 2 ∧ ∀ i : Int, 0 ≤ i → i < F (k + 3 + 3 * q) 2 → G 247 (96 * sn + 24 * q + i) = G (k + 3 + 3 * q + 1) i ∧ G 248 (96 * sn + 24 * q + i) = G (k + 3 + 3 * q + 2) i
def rls (F : Nat → Nat → Int) (G : Nat → Int → Int) (k : Nat) (sn : Int) : Prop := (G 246 (4 * sn) = F (k + 15) 2 ∧ ∀ i : Int, 0 ≤ i → i < F (k + 15) 2 → G 247 (96 * sn + i) = G (k + 15 + 1) i ∧ G 248 (96 * sn + i) = G (k + 15 + 2) i) ∧ (G 246 (4 * sn + 1) = F (k + 18) 2 ∧ ∀ i : Int, 0 ≤ i → i < F (k + 18) 2 → G 247 (96 * sn + 24 + i) = G (k + 18 + 1) i ∧ G 248 (96 * sn + 24 + i) = G (k + 18 + 2) i)
def same (F : Nat → Nat → Int) (G : Nat → Int → Int) (k : Nat) (sn : Int) : Prop := tld F G k sn ∧ cnts G sn ∧ (¬ F k 4 = 1 → rgs F G k sn) ∧ (F k 4 = 1 → rls F G k sn)
/-- the ring of a satin shape is made of its rails -/
def jnR (F : Nat → Nat → Int) (G : Nat → Int → Int) (k : Nat) : Prop := F (k + 3) 2 = 2 * F (k + 15) 2 ∧ F (k + 6) 2 = 0 ∧ F (k + 9) 2 = 0 ∧ F (k + 12) 2 = 0 ∧ ∀ i : Int, 0 ≤ i → i < F (k + 15) 2 → (G (k + 4) i = G (k + 15 + 1) i ∧ G (k + 5) i = G (k + 15 + 2) i) ∧ (G (k + 4) (F (k + 15) 2 + i) = G (k + 18 + 1) (F (k + 15) 2 - 1 - i) ∧ G (k + 5) (F (k + 15) 2 + i) = G (k + 18 + 2) (F (k + 15) 2 - 1 - i))
def bxS (F : Nat → Nat → Int) (G : Nat → Int → Int) (k : Nat) (sn : Int) : Prop := G 249 (4 * sn) = F k 7 ∧ G 249 (4 * sn + 1) = F k 8 ∧ G 249 (4 * sn + 2) = F k 9 ∧ G 249 (4 * sn + 3) = F k 10
def cpl (F : Nat → Nat → Int) (G : Nat → Int → Int) (k : Nat) (sn : Int) : Prop := (tlOk F G k ∧ boxP (cS F G k 4 0) (F k 7) (F k 8) (F k 9) (F k 10)) ∧ (F (k + 21) 0 = nf (runsC F G k) ∧ F (k + 21) 1 = ((runsC F G k).length : Int)) ∧ bxS F G k sn ∧ same F G k sn ∧ (F k 4 = 1 → jnR F G k)
theorem q4 {q : Nat} (h : q < 4) : q = 0 ∨ q = 1 ∨ q = 2 ∨ q = 3 := by omega
theorem cpl_R {F : Nat → Nat → Int} {G : Nat → Int → Int} {k : Nat} {sn : Int} (h : cpl F G k sn) : cplR F G k sn := by
  obtain ⟨⟨hT, -⟩, -, -, ⟨ht, hc, hr, hl⟩, hj⟩ := h
  intro q hq
  by_cases e : F k 4 = 1
  · obtain ⟨j1, j2, j3, j4, j5⟩ := hj e
    obtain ⟨⟨r1, r2⟩, r3, r4⟩ := hl e
    have t3 := hT.2.2 e
    have e2 : G 245 (4 * sn + 1) = 1 := by rw [ht.2.1, e]
    rcases q4 hq with a | a | a | a <;> subst a
    · have hs : mSz G sn ((0 : Nat) : Int) = 2 * F (k + 15) 2 := by
        unfold mSz
        rw [if_pos e2, if_pos (by rfl), r1]
      rw [hs]
      refine ⟨j1, fun i i0 i1 => ?_⟩
      have hm : mAt G sn ((0 : Nat) : Int) i = mRc G sn i := if_pos e2
      rw [hm]
      unfold mRc
      rw [r1]
      by_cases d : i < F (k + 15) 2
      · rw [if_pos d, (r2 i i0 d).1, (r2 i i0 d).2]
        exact ⟨(j5 i i0 d).1.1, (j5 i i0 d).1.2⟩
      · rw [if_neg d]
        have z1 := (j5 (i - F (k + 15) 2) (by omega) (by omega)).2
        have z2 := r4 (2 * F (k + 15) 2 - 1 - i) (by omega) (by omega)
        rw [show F (k + 15) 2 + (i - F (k + 15) 2) = i by omega, show F (k + 15) 2 - 1 - (i - F (k + 15) 2) = 2 * F (k + 15) 2 - 1 - i by omega] at z1
        rw [show 96 * sn + 24 + 2 * F (k + 15) 2 - 1 - i = 96 * sn + 24 + (2 * F (k + 15) 2 - 1 - i) by omega, z2.1, z2.2]
        exact z1
    · have hs : mSz G sn ((1 : Nat) : Int) = 0 := by
        unfold mSz
        rw [if_pos e2, if_neg (by decide)]
      rw [hs]
      exact ⟨j2, fun i i0 i1 => by omega⟩
    · have hs : mSz G sn ((2 : Nat) : Int) = 0 := by
        unfold mSz
        rw [if_pos e2, if_neg (by decide)]
      rw [hs]
      exact ⟨j3, fun i i0 i1 => by omega⟩
    · have hs : mSz G sn ((3 : Nat) : Int) = 0 := by
        unfold mSz
        rw [if_pos e2, if_neg (by decide)]
      rw [hs]
      exact ⟨j4, fun i i0 i1 => by omega⟩
  · obtain ⟨r1, r2⟩ := hr e q hq
    have e2 : ¬ G 245 (4 * sn + 1) = 1 := by rw [ht.2.1]; exact e
    have hs : mSz G sn (q : Int) = F (k + 3 + 3 * q) 2 := by
      unfold mSz
      rw [if_neg e2, r1]
    rw [hs]
    refine ⟨rfl, fun i i0 i1 => ?_⟩
    have hm : mAt G sn (q : Int) i = 96 * sn + 24 * q + i := if_neg e2
    rw [hm]
    exact ⟨(r2 i i0 i1).1.symm, (r2 i i0 i1).2.symm⟩
theorem cpl_ok {F : Nat → Nat → Int} {G : Nat → Int → Int} {k : Nat} {sn : Int} (hn : 0 ≤ sn ∧ sn ≤ 10) (h : cpl F G k sn) : mOk G sn := by
  obtain ⟨⟨hT, -⟩, -, -, ⟨ht, hc, hr, hl⟩, hj⟩ := h
  have h4 := hT.1.2.2.2.1.2.1
  refine ⟨hn, hc, ?_, fun z => ?_⟩
  · rw [ht.2.1]
    exact h4
  · have e : F k 4 = 1 := by rw [← ht.2.1]; exact z
    rw [(hl e).1.1]
    exact (hT.2.2 e).2.1
-- the reference's edges can be laid
def edV (G : Nat → Int → Int) (sn : Int) (a : Nat) (q : Nat) (i : Int) : Int := if a = 251 then G 247 (mAt G sn q i) else if a = 252 then G 248 (mAt G sn q i) else if a = 253 then G 247 (mAt G sn q (rJ (mSz G sn q) i)) else if a = 254 then G 248 (mAt G sn q (rJ (mSz G sn q) i)) else if a = 255 then (q : Int) else i
def edL (G : Nat → Int → Int) (sn : Int) : Nat → Int → Int := fun a e => if e < oM G sn 1 then edV G sn a 0 (e - oM G sn 0) else if e < oM G sn 2 then edV G sn a 1 (e - oM G sn 1) else if e < oM G sn 3 then edV G sn a 2 (e - oM G sn 2) else edV G sn a 3 (e - oM G sn 3)
theorem edL_at {G : Nat → Int → Int} {sn : Int} (hO : mOk G sn) {q : Nat} (hq : q < 4) {j : Int} (hj : 0 ≤ j ∧ j < mSz G sn q) (a : Nat) : edL G sn a (oM G sn q + j) = edV G sn a q j := by
  have m0 := mSz_nn hO (q := 0) (by decide)
  have m1 := mSz_nn hO (q := 1) (by decide)
  have m2 := mSz_nn hO (q := 2) (by decide)
  have o1 : oM G sn 1 = oM G sn 0 + mSz G sn ((0 : Nat) : Int) := rfl
  have o2 : oM G sn 2 = oM G sn 1 + mSz G sn ((1 : Nat) : Int) := rfl
  have o3 : oM G sn 3 = oM G sn 2 + mSz G sn ((2 : Nat) : Int) := rfl
  unfold edL
  rcases q4 hq with e | e | e | e <;> subst e
  · rw [if_pos (by omega), show oM G sn 0 + j - oM G sn 0 = j by omega]
  · rw [if_neg (by omega), if_pos (by omega), show oM G sn 1 + j - oM G sn 1 = j by omega]
  · rw [if_neg (by omega), if_neg (by omega), if_pos (by omega), show oM G sn 2 + j - oM G sn 2 = j by omega]
  · rw [if_neg (by omega), if_neg (by omega), if_neg (by omega), show oM G sn 3 + j - oM G sn 3 = j by omega]
theorem edL_ok {G : Nat → Int → Int} {sn : Int} (hO : mOk G sn) : mEdW G sn (edL G sn) := by
  intro q hq j h0 h1
  unfold mEdge m6
  rw [edL_at hO hq ⟨h0, h1⟩, edL_at hO hq ⟨h0, h1⟩, edL_at hO hq ⟨h0, h1⟩, edL_at hO hq ⟨h0, h1⟩, edL_at hO hq ⟨h0, h1⟩, edL_at hO hq ⟨h0, h1⟩]
  exact ⟨rfl, rfl, rfl, rfl, rfl, rfl⟩
theorem cpl_has {F : Nat → Nat → Int} {G : Nat → Int → Int} {k : Nat} {sn : Int} (hn : 0 ≤ sn ∧ sn ≤ 10) (h : cpl F G k sn) : hasR G sn = hasC F G k := by
  have hO := cpl_ok hn h
  have hR := cpl_R h
  rw [← hasR_eq (edL_ok hO)]
  funext x y
  apply propext
  have e := has_m hO hR (edL_ok hO) x y
  constructor
  · rintro ⟨a, b⟩
    have c := e.mp b
    have d := sHs_box h.1.2 c
    exact ⟨a, ⟨d.1, d.2.1, d.2.2.1, d.2.2.2⟩, c⟩
  · rintro ⟨a, -, b⟩
    exact ⟨a, e.mpr b⟩
theorem cpl_mSh {F : Nat → Nat → Int} {G : Nat → Int → Int} {k : Nat} {sn : Int} (hn : 0 ≤ sn ∧ sn ≤ 9) (h : cpl F G k sn) : mSh G sn := by
  have hO := cpl_ok ⟨hn.1, by omega⟩ h
  have hR := cpl_R h
  have h0 := h
  obtain ⟨⟨hT, hB⟩, -, hx, ⟨ht, hc, hr, hl⟩, hj⟩ := h
  have hs := hT.1
  refine ⟨hn, hO, fun q i hq i0 i1 => ?_, ?_, ?_, fun z => ?_, fun Ge hE x y hm => ?_⟩
  · obtain ⟨r1, r2⟩ := hR q hq
    rw [← (r2 i i0 i1).1, ← (r2 i i0 i1).2]
    exact (hs.2.1 q hq).2 i i0 (by rw [r1]; exact i1)
  · rw [ht.1, ht.2.2.1, ht.2.2.2]
    exact ⟨hs.2.2.2.1.1, hs.2.2.2.1.2.2.1, hs.2.2.2.1.2.2.2⟩
  · unfold bx4
    rw [hx.1, hx.2.1, hx.2.2.1, hx.2.2.2]
    exact hs.2.2.1
  · have e : F k 4 = 1 := by rw [← ht.2.1]; exact z
    have t3 := hT.2.2 e
    rw [(hl e).1.1, (hl e).2.1]
    exact ⟨t3.1, t3.2.1, t3.2.2⟩
  · have c := (has_m hO hR hE.2 x y).mp hm.2
    have d := sHs_box hB c
    unfold bxM
    rw [hx.1, hx.2.1, hx.2.2.1, hx.2.2.2]
    exact ⟨⟨d.1, d.2.1⟩, d.2.2.1, d.2.2.2⟩
-- runs are the same where the corners are the same
theorem oEv_cg {X X' Y Y' : Int → Int} : ∀ n : Nat, (∀ i : Int, 0 ≤ i → i < n → X' i = X i ∧ Y' i = Y i) → oEv X' Y' n = oEv X Y n
  | 0, _ => rfl
  | n + 1, h => by
    show oEv X' Y' n ++ [(X' (n : Int), Y' (n : Int), decide ((n : Int) = 0))] = oEv X Y n ++ [(X (n : Int), Y (n : Int), decide ((n : Int) = 0))]
    rw [oEv_cg n (fun i a b => h i a (by omega)), (h (n : Int) (by omega) (by omega)).1, (h (n : Int) (by omega) (by omega)).2]
theorem oRing_cg {X X' Y Y' : Int → Int} {n : Int} (h : ∀ i : Int, 0 ≤ i → i < n → X' i = X i ∧ Y' i = Y i) : oRing X' Y' n = oRing X Y n := by
  unfold oRing
  split
  · rename_i c
    rw [oEv_cg n.toNat (fun i a b => h i a (by omega)), (h 0 (by omega) c).1, (h 0 (by omega) c).2]
  · rfl
theorem oAll_cg {X X' Y Y' : Nat → Int → Int} {N N' : Nat → Int} : ∀ n : Nat, (∀ r, r < n → N' r = N r ∧ ∀ i : Int, 0 ≤ i → i < N r → X' r i = X r i ∧ Y' r i = Y r i) → oAll X' Y' N' n = oAll X Y N n
  | 0, _ => rfl
  | n + 1, h => by
    show oAll X' Y' N' n ++ oRing (X' n) (Y' n) (N' n) = oAll X Y N n ++ oRing (X n) (Y n) (N n)
    rw [oAll_cg n (fun r hr => h r (by omega)), (h n (by omega)).1, oRing_cg (h n (by omega)).2]
theorem sgE_cg {X0 X0' Y0 Y0' X1 X1' Y1 Y1' : Int → Int} {i m : Int} (h : (X0' i = X0 i ∧ Y0' i = Y0 i) ∧ (X1' i = X1 i ∧ Y1' i = Y1 i)) (h2 : (X0' (i + 1) = X0 (i + 1) ∧ Y0' (i + 1) = Y0 (i + 1)) ∧ (X1' (i + 1) = X1 (i + 1) ∧ Y1' (i + 1) = Y1 (i + 1))) : ∀ n : Nat, sgE X0' Y0' X1' Y1' i m n = sgE X0 Y0 X1 Y1 i m n
  | 0 => rfl
  | n + 1 => by
    show sgE X0' Y0' X1' Y1' i m n ++ [(al (X0' i) (X0' (i + 1)) (n : Int) m, al (Y0' i) (Y0' (i + 1)) (n : Int) m, decide (i = 0 ∧ (n : Int) = 0))] ++ [(al (X1' i) (X1' (i + 1)) (n : Int) m, al (Y1' i) (Y1' (i + 1)) (n : Int) m, false)] = sgE X0 Y0 X1 Y1 i m n ++ [(al (X0 i) (X0 (i + 1)) (n : Int) m, al (Y0 i) (Y0 (i + 1)) (n : Int) m, decide (i = 0 ∧ (n : Int) = 0))] ++ [(al (X1 i) (X1 (i + 1)) (n : Int) m, al (Y1 i) (Y1 (i + 1)) (n : Int) m, false)]
    rw [sgE_cg h h2 n, h.1.1, h.1.2, h.2.1, h.2.2, h2.1.1, h2.1.2, h2.2.1, h2.2.2]
theorem satP_cg {X0 X0' Y0 Y0' X1 X1' Y1 Y1' : Int → Int} {sp : Int} : ∀ n : Nat, (∀ i : Int, 0 ≤ i → i < (n : Int) + 1 → (X0' i = X0 i ∧ Y0' i = Y0 i) ∧ (X1' i = X1 i ∧ Y1' i = Y1 i)) → satP X0' Y0' X1' Y1' sp n = satP X0 Y0 X1 Y1 sp n
  | 0, _ => rfl
  | n + 1, h => by
    have a := h (n : Int) (by omega) (by omega)
    have b := h ((n : Int) + 1) (by omega) (by omega)
    have e : sgM X0' Y0' X1' Y1' sp (n : Int) = sgM X0 Y0 X1 Y1 sp (n : Int) := by
      unfold sgM sgF
      rw [a.1.1, a.1.2, a.2.1, a.2.2, b.1.1, b.1.2, b.2.1, b.2.2]
    show satP X0' Y0' X1' Y1' sp n ++ sgE X0' Y0' X1' Y1' (n : Int) (sgM X0' Y0' X1' Y1' sp (n : Int)) (sgM X0' Y0' X1' Y1' sp (n : Int)).toNat = satP X0 Y0 X1 Y1 sp n ++ sgE X0 Y0 X1 Y1 (n : Int) (sgM X0 Y0 X1 Y1 sp (n : Int)) (sgM X0 Y0 X1 Y1 sp (n : Int)).toNat
    rw [satP_cg n (fun i c d => h i c (by omega)), e, sgE_cg a b]
theorem satE_cg {X0 X0' Y0 Y0' X1 X1' Y1 Y1' : Int → Int} {sp n : Int} (hn : 1 ≤ n) (h : ∀ i : Int, 0 ≤ i → i < n → (X0' i = X0 i ∧ Y0' i = Y0 i) ∧ (X1' i = X1 i ∧ Y1' i = Y1 i)) : satE X0' Y0' X1' Y1' sp n = satE X0 Y0 X1 Y1 sp n := by
  have a := h (n - 1) (by omega) (by omega)
  unfold satE
  rw [satP_cg (n - 1).toNat (fun i c d => h i c (by omega)), a.1.1, a.1.2, a.2.1, a.2.2]
theorem cpl_runs {F : Nat → Nat → Int} {G : Nat → Int → Int} {k : Nat} {sn : Int} (hn : 0 ≤ sn ∧ sn ≤ 10) (h : cpl F G k sn) : rnR G sn = runsC F G k := by
  have e0 := cpl_has hn h
  obtain ⟨⟨hT, -⟩, -, hx, ⟨ht, hc, hr, hl⟩, hj⟩ := h
  unfold rnR runsM runsC
  rw [e0, ht.2.1, ht.2.2.1, ht.2.2.2]
  by_cases c0 : F k 4 = 0
  · rw [if_pos c0, if_pos c0]
    congr 1
    · unfold lwM lwF
      rw [ht.2.2.2, hx.1, hx.2.1, hx.2.2.1]
    · unfold hgM hgF
      rw [ht.2.2.2, hx.1, hx.2.2.1, hx.2.2.2]
  · rw [if_neg c0, if_neg c0]
    by_cases c1 : F k 4 = 1
    · rw [if_pos c1, if_pos c1]
      obtain ⟨⟨r1, r2⟩, r3, r4⟩ := hl c1
      have t3 := hT.2.2 c1
      rw [r1]
      exact satE_cg (by omega) (fun i a b => ⟨⟨(r2 i a b).1, (r2 i a b).2⟩, (r4 i a (by omega)).1, (r4 i a (by omega)).2⟩)
    · rw [if_neg c1, if_neg c1]
      unfold outM outE
      refine oAll_cg 4 (fun q hq => ?_)
      obtain ⟨r1, r2⟩ := hr c1 q hq
      exact ⟨r1, fun i a b => ⟨(r2 i a b).1, (r2 i a b).2⟩⟩
-- what a finished shape hangs on
def agR (G G1 : Nat → Int → Int) (sn : Int) : Prop := (∀ i : Int, 4 * sn ≤ i → i < 4 * sn + 4 → G1 245 i = G 245 i ∧ G1 246 i = G 246 i ∧ G1 249 i = G 249 i) ∧ ∀ i : Int, 96 * sn ≤ i → i < 96 * sn + 96 → G1 247 i = G 247 i ∧ G1 248 i = G 248 i
theorem cS_cong {F F1 : Nat → Nat → Int} {G G1 : Nat → Int → Int} {k : Nat} (hF : ∀ a, k ≤ a → a < k + 21 → F1 a 2 = F a 2) (hG : ∀ a, k ≤ a → a < k + 21 → G1 a = G a) (x y : Int) : cS F1 G1 k 4 0 x y ↔ cS F G k 4 0 x y := by
  constructor
  · rintro ⟨q, j, h, h2, h3⟩
    rcases h with h | h
    · rw [hF _ (by omega) (by omega)] at h
      rw [hG _ (by omega) (by omega)] at h2 h3
      exact ⟨q, j, Or.inl h, h2, h3⟩
    · omega
  · rintro ⟨q, j, h, h2, h3⟩
    rcases h with h | h
    · rw [← hF _ (by omega) (by omega)] at h
      rw [← hG _ (by omega) (by omega)] at h2 h3
      exact ⟨q, j, Or.inl h, h2, h3⟩
    · omega
theorem same_cong {F F1 : Nat → Nat → Int} {G G1 : Nat → Int → Int} {k : Nat} {sn : Int} (h : same F G k sn) (hF : ∀ a b, k ≤ a → a < k + 22 → F1 a b = F a b) (hG : ∀ a, k ≤ a → a < k + 22 → G1 a = G a) (hA : ∀ i : Int, 4 * sn ≤ i → i < 4 * sn + 4 → G1 245 i = G 245 i ∧ G1 246 i = G 246 i) (hA2 : ∀ i : Int, 96 * sn ≤ i → i < 96 * sn + 96 → G1 247 i = G 247 i ∧ G1 248 i = G 248 i) (hm : ∀ q : Nat, q < 4 → ¬ F k 4 = 1 → F (k + 3 + 3 * q) 2 ≤ 24) (hm2 : F k 4 = 1 → F (k + 15) 2 ≤ 24 ∧ F (k + 18) 2 ≤ 24) : same F1 G1 k sn := by
  obtain ⟨ht, hc, hr, hl⟩ := h
  have a0 := hA (4 * sn) (by omega) (by omega)
  have a1 := hA (4 * sn + 1) (by omega) (by omega)
  refine ⟨?_, fun q q0 q1 => ?_, fun e q hq => ?_, fun e => ?_⟩
  · unfold tld
    rw [a0.1, a1.1, (hA (4 * sn + 2) (by omega) (by omega)).1, (hA (4 * sn + 3) (by omega) (by omega)).1, hF k 3 (by omega) (by omega), hF k 4 (by omega) (by omega), hF k 5 (by omega) (by omega), hF k 6 (by omega) (by omega)]
    exact ht
  · rw [(hA (4 * sn + q) (by omega) (by omega)).2]
    exact hc q q0 q1
  · rw [hF k 4 (by omega) (by omega)] at e
    obtain ⟨r1, r2⟩ := hr e q hq
    have hb := hm q hq e
    rw [(hA (4 * sn + q) (by omega) (by omega)).2, hF _ _ (by omega) (by omega), hG (k + 3 + 3 * q + 1) (by omega) (by omega), hG (k + 3 + 3 * q + 2) (by omega) (by omega)]
    refine ⟨r1, fun i i0 i1 => ?_⟩
    have z := hA2 (96 * sn + 24 * q + i) (by omega) (by omega)
    rw [z.1, z.2]
    exact r2 i i0 i1
  · rw [hF k 4 (by omega) (by omega)] at e
    obtain ⟨⟨r1, r2⟩, r3, r4⟩ := hl e
    have hb := hm2 e
    unfold rls
    rw [a0.2, a1.2, hF (k + 15) 2 (by omega) (by omega), hF (k + 18) 2 (by omega) (by omega), hG (k + 15 + 1) (by omega) (by omega), hG (k + 15 + 2) (by omega) (by omega), hG (k + 18 + 1) (by omega) (by omega), hG (k + 18 + 2) (by omega) (by omega)]
    refine ⟨⟨r1, fun i i0 i1 => ?_⟩, r3, fun i i0 i1 => ?_⟩
    · have z := hA2 (96 * sn + i) (by omega) (by omega)
      rw [z.1, z.2]
      exact r2 i i0 i1
    · have z := hA2 (96 * sn + 24 + i) (by omega) (by omega)
      rw [z.1, z.2]
      exact r4 i i0 i1
theorem same_bd {F : Nat → Nat → Int} {G : Nat → Int → Int} {k : Nat} {sn : Int} (h : same F G k sn) : (∀ q : Nat, q < 4 → ¬ F k 4 = 1 → F (k + 3 + 3 * q) 2 ≤ 24) ∧ (F k 4 = 1 → F (k + 15) 2 ≤ 24 ∧ F (k + 18) 2 ≤ 24) := by
  obtain ⟨-, hc, hr, hl⟩ := h
  refine ⟨fun q hq e => ?_, fun e => ?_⟩
  · rw [← (hr e q hq).1]
    exact (hc q (by omega) (by omega)).2
  · have a := hc 0 (by omega) (by omega)
    have b := hc 1 (by omega) (by omega)
    rw [Int.add_zero] at a
    rw [← (hl e).1.1, ← (hl e).2.1]
    exact ⟨a.2, b.2⟩
theorem cpl_cong {F F1 : Nat → Nat → Int} {G G1 : Nat → Int → Int} {k : Nat} {sn : Int} (h : cpl F G k sn) (hF : ∀ a b, k ≤ a → a < k + 22 → F1 a b = F a b) (hG : ∀ a, k ≤ a → a < k + 22 → G1 a = G a) (hA : agR G G1 sn) : cpl F1 G1 k sn := by
  obtain ⟨⟨hT, hB⟩, hu, hx, hs, hj⟩ := h
  have hK := hT.1.1
  have e1 := runsC_cong hK (F := F) (F1 := F1) (G := G) (G1 := G1) (fun a b c d => hF a b c (by omega)) (fun a c d => hG a c (by omega))
  have hb := same_bd hs
  refine ⟨⟨tlOk_cong hT (fun a b c d => hF a b c (by omega)) (fun a c d => hG a c (by omega)), ?_⟩, ?_, ?_, ?_, fun e => ?_⟩
  · rw [hF k 7 (by omega) (by omega), hF k 8 (by omega) (by omega), hF k 9 (by omega) (by omega), hF k 10 (by omega) (by omega)]
    exact boxP_cong hB (cS_cong (fun a c d => hF a 2 c (by omega)) (fun a c d => hG a c (by omega)))
  · rw [e1, hF (k + 21) 0 (by omega) (by omega), hF (k + 21) 1 (by omega) (by omega)]
    exact hu
  · unfold bxS
    rw [(hA.1 (4 * sn) (by omega) (by omega)).2.2, (hA.1 (4 * sn + 1) (by omega) (by omega)).2.2, (hA.1 (4 * sn + 2) (by omega) (by omega)).2.2, (hA.1 (4 * sn + 3) (by omega) (by omega)).2.2, hF k 7 (by omega) (by omega), hF k 8 (by omega) (by omega), hF k 9 (by omega) (by omega), hF k 10 (by omega) (by omega)]
    exact hx
  · exact same_cong hs hF hG (fun i a b => ⟨(hA.1 i a b).1, (hA.1 i a b).2.1⟩) hA.2 hb.1 hb.2
  · rw [hF k 4 (by omega) (by omega)] at e
    unfold jnR
    rw [hF (k + 3) 2 (by omega) (by omega), hF (k + 6) 2 (by omega) (by omega), hF (k + 9) 2 (by omega) (by omega), hF (k + 12) 2 (by omega) (by omega), hF (k + 15) 2 (by omega) (by omega), hG (k + 4) (by omega) (by omega), hG (k + 5) (by omega) (by omega), hG (k + 15 + 1) (by omega) (by omega), hG (k + 15 + 2) (by omega) (by omega), hG (k + 18 + 1) (by omega) (by omega), hG (k + 18 + 2) (by omega) (by omega)]
    exact hj e
