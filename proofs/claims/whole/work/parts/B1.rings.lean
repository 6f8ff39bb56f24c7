/-! the reference's edges are the class's rings; a shape lies in its box -/
theorem oddN_tail {P : Int → Prop} {a : Nat} : ∀ b : Nat, (∀ i : Int, (a : Int) ≤ i → i < ((a + b : Nat) : Int) → ¬ P i) → (oddN P (a + b) ↔ oddN P a)
  | 0, _ => Iff.rfl
  | b + 1, h => by
    have ih := oddN_tail (P := P) (a := a) b (fun i h1 h2 => h i h1 (by omega))
    have hn : ¬ P ((a + b : Nat) : Int) := h _ (by omega) (by omega)
    show (oddN P (a + b) ∧ ¬ P ((a + b : Nat) : Int)) ∨ (¬ oddN P (a + b) ∧ P ((a + b : Nat) : Int)) ↔ _
    rw [ih]
    constructor
    · rintro (⟨h1, -⟩ | ⟨-, h1⟩)
      · exact h1
      · exact absurd h1 hn
    · exact fun h1 => Or.inl ⟨h1, hn⟩
theorem oddN_mid {P Q : Int → Prop} {a : Nat} (h0 : ¬ oddN P a) : ∀ m : Nat, (∀ j : Int, 0 ≤ j → j < m → (P ((a : Int) + j) ↔ Q j)) → (oddN P (a + m) ↔ oddN Q m)
  | 0, _ => ⟨fun h => absurd h h0, fun h => absurd h id⟩
  | m + 1, h => by
    have ih := oddN_mid (Q := Q) h0 m (fun j h1 h2 => h j h1 (by omega))
    have hm : P ((a + m : Nat) : Int) ↔ Q (m : Int) := by
      have := h (m : Int) (by omega) (by omega)
      rwa [← Int.natCast_add] at this
    show (oddN P (a + m) ∧ ¬ P ((a + m : Nat) : Int)) ∨ (¬ oddN P (a + m) ∧ P ((a + m : Nat) : Int)) ↔ (oddN Q m ∧ ¬ Q (m : Int)) ∨ (¬ oddN Q m ∧ Q (m : Int))
    rw [ih, hm]
theorem oddN_none {P : Int → Prop} {n : Nat} (h : ∀ i : Int, 0 ≤ i → i < n → ¬ P i) : ¬ oddN P n := by
  have := (oddN_tail (P := P) (a := 0) n (fun i h1 h2 => h i h1 (by omega)))
  rw [Nat.zero_add] at this
  exact fun z => this.mp z
theorem oddN_seg {P Q : Int → Prop} {a m n : Int} (ha : 0 ≤ a) (hm : 0 ≤ m) (hn : a + m ≤ n) (h0 : ∀ i : Int, 0 ≤ i → i < n → (i < a ∨ a + m ≤ i) → ¬ P i) (h1 : ∀ j : Int, 0 ≤ j → j < m → (P (a + j) ↔ Q j)) : oddN P n.toNat ↔ oddN Q m.toNat := by
  have e : n.toNat = (a.toNat + m.toNat) + (n - a - m).toNat := by omega
  rw [e, oddN_tail (n - a - m).toNat (fun i q1 q2 => h0 i (by omega) (by omega) (by omega))]
  refine oddN_mid (oddN_none (fun i q1 q2 => h0 i q1 (by omega) (by omega))) m.toNat (fun j q1 q2 => ?_)
  rw [Int.toNat_of_nonneg ha]
  exact h1 j q1 (by omega)
theorem oddN_some {P : Int → Prop} : ∀ n : Nat, oddN P n → ∃ i : Int, 0 ≤ i ∧ i < n ∧ P i
  | 0, h => absurd h id
  | n + 1, h => by
    rcases h with ⟨h, -⟩ | ⟨-, h⟩
    · obtain ⟨i, h1, h2, h3⟩ := oddN_some n h
      exact ⟨i, h1, by omega, h3⟩
    · exact ⟨(n : Int), by omega, by omega, h⟩
-- the same rings on both sides
def cplR (F : Nat → Nat → Int) (G : Nat → Int → Int) (k : Nat) (sn : Int) : Prop := ∀ q : Nat, q < 4 → F (k + 3 + 3 * q) 2 = mSz G sn q ∧ ∀ i : Int, 0 ≤ i → i < mSz G sn q → G (k + 3 + 3 * q + 1) i = G 247 (mAt G sn q i) ∧ G (k + 3 + 3 * q + 2) i = G 248 (mAt G sn q i)
theorem mSz_nn {G : Nat → Int → Int} {sn : Int} (h : mOk G sn) {q : Nat} (hq : q < 4) : 0 ≤ mSz G sn q := by
  have h1 := h.2.1 q (by omega) (by omega)
  have h2 := h.2.1 0 (by omega) (by omega)
  rw [Int.add_zero] at h2
  unfold mSz
  split
  · split <;> omega
  · omega
theorem rJ_in {n i : Int} (h : 0 ≤ i ∧ i < n) : 0 ≤ rJ n i ∧ rJ n i < n := by
  unfold rJ
  split <;> omega
theorem ed_eq {F : Nat → Nat → Int} {G Ge : Nat → Int → Int} {k : Nat} {sn : Int} (hc : cplR F G k sn) (hE : mEdW G sn Ge) {q : Nat} (hq : q < 4) {j : Int} (hj : 0 ≤ j ∧ j < mSz G sn q) : Ge 251 (oM G sn q + j) = G (k + 3 + 3 * q + 1) j ∧ Ge 252 (oM G sn q + j) = G (k + 3 + 3 * q + 2) j ∧ Ge 253 (oM G sn q + j) = G (k + 3 + 3 * q + 1) (rJ (F (k + 3 + 3 * q) 2) j) ∧ Ge 254 (oM G sn q + j) = G (k + 3 + 3 * q + 2) (rJ (F (k + 3 + 3 * q) 2) j) ∧ Ge 255 (oM G sn q + j) = q ∧ Ge 256 (oM G sn q + j) = j := by
  obtain ⟨h1, h2⟩ := hc q hq
  obtain ⟨e1, e2, e3, e4, e5, e6⟩ := hE q hq j hj.1 hj.2
  have hr := rJ_in hj
  rw [h1, e1, e2, e3, e4, e5, e6, (h2 j hj.1 hj.2).1, (h2 j hj.1 hj.2).2, (h2 _ hr.1 hr.2).1, (h2 _ hr.1 hr.2).2]
  exact ⟨rfl, rfl, rfl, rfl, rfl, rfl⟩
theorem ed_on {F : Nat → Nat → Int} {G Ge : Nat → Int → Int} {k : Nat} {sn : Int} (hc : cplR F G k sn) (hE : mEdW G sn Ge) {q : Nat} (hq : q < 4) {j : Int} (hj : 0 ≤ j ∧ j < mSz G sn q) (x y : Int) : mOn Ge x y (oM G sn q + j) ↔ rOn (G (k + 3 + 3 * q + 1)) (G (k + 3 + 3 * q + 2)) (F (k + 3 + 3 * q) 2) x y j := by
  obtain ⟨e1, e2, e3, e4, -, -⟩ := ed_eq hc hE hq hj
  unfold mOn rOn
  rw [e1, e2, e3, e4]
theorem ed_cr {F : Nat → Nat → Int} {G Ge : Nat → Int → Int} {k : Nat} {sn : Int} (hc : cplR F G k sn) (hE : mEdW G sn Ge) {q : Nat} (hq : q < 4) {j : Int} (hj : 0 ≤ j ∧ j < mSz G sn q) (x y : Int) : mCr Ge x y (oM G sn q + j) ↔ rCr (G (k + 3 + 3 * q + 1)) (G (k + 3 + 3 * q + 2)) (F (k + 3 + 3 * q) 2) x y j := by
  obtain ⟨e1, e2, e3, e4, -, -⟩ := ed_eq hc hE hq hj
  unfold mCr rCr
  rw [e1, e2, e3, e4]
/-- an edge of the reference belongs to one ring -/
theorem ed_ring {G : Nat → Int → Int} {sn z : Int} (hO : mOk G sn) {a : Nat} (ha : a < 4) {q : Nat} {i : Int} (hq : q < 4) (hi : 0 ≤ i ∧ i < mSz G sn q) (hz : z = oM G sn q + i) (h : oM G sn a ≤ z ∧ z < oM G sn a + mSz G sn a) : q = a := by
  rcases Nat.lt_trichotomy q a with h1 | h1 | h1
  · have := oM_mono hO a (by omega) h1
    omega
  · exact h1
  · have := oM_mono hO q (by omega) h1
    omega
theorem on_all {F : Nat → Nat → Int} {G Ge : Nat → Int → Int} {k : Nat} {sn : Int} (hO : mOk G sn) (hc : cplR F G k sn) (hE : mEdW G sn Ge) (x y : Int) : (∃ e : Int, 0 ≤ e ∧ e < oM G sn 4 ∧ mOn Ge x y e) ↔ ∃ q : Int, 0 ≤ q ∧ q < 4 ∧ sOn F G k x y q := by
  constructor
  · rintro ⟨z, h0, h1, h2⟩
    obtain ⟨q, i, hq, hi0, hi1, rfl⟩ := oM_split h0 4 h1
    refine ⟨(q : Int), by omega, by omega, i, hi0, ?_, ?_⟩
    · rw [show ((q : Int)).toNat = q by omega, (hc q hq).1]
      exact hi1
    · rw [show ((q : Int)).toNat = q by omega]
      exact (ed_on hc hE hq ⟨hi0, hi1⟩ x y).mp h2
  · rintro ⟨q, h0, h1, i, hi0, hi1, h2⟩
    have hq : q.toNat < 4 := by omega
    rw [(hc _ hq).1] at hi1
    have hm := oM_mono hO (a := q.toNat) 4 (by omega) hq
    have hr := (oM_rng hO q.toNat (by omega)).1
    exact ⟨oM G sn q.toNat + i, by omega, by omega, (ed_on hc hE hq ⟨hi0, hi1⟩ x y).mpr h2⟩
theorem par_r {F : Nat → Nat → Int} {G Ge : Nat → Int → Int} {k : Nat} {sn : Int} (hO : mOk G sn) (hc : cplR F G k sn) (hE : mEdW G sn Ge) (x y : Int) {r : Int} (hr : 0 ≤ r ∧ r < 4) : oddN (mC Ge r x y) (oM G sn 4).toNat ↔ sIn F G k x y r := by
  have hq : r.toNat < 4 := by omega
  unfold sIn
  rw [(hc _ hq).1]
  refine oddN_seg (a := oM G sn r.toNat) (oM_rng hO r.toNat (by omega)).1 (mSz_nn hO hq) (oM_mono hO 4 (by omega) hq) (fun i h0 h1 h2 h3 => ?_) (fun j h0 h1 => ?_)
  · obtain ⟨q, i', hq', hi0, hi1, rfl⟩ := oM_split h0 4 h1
    have e5 := (ed_eq hc hE hq' ⟨hi0, hi1⟩).2.2.2.2.1
    have e6 : (q : Int) = r := e5.symm.trans h3.1
    have e7 : q = r.toNat := by omega
    subst e7
    omega
  · have e5 := (ed_eq hc hE hq ⟨h0, h1⟩).2.2.2.2.1
    have e8 := ed_cr hc hE hq ⟨h0, h1⟩ x y
    unfold mC
    rw [e5, ← (hc _ hq).1]
    constructor
    · exact fun h => e8.mp h.2
    · exact fun h => ⟨by omega, e8.mpr h⟩
/-- in the shape, its box left aside -/
def sHs (F : Nat → Nat → Int) (G : Nat → Int → Int) (k : Nat) (x y : Int) : Prop := (∃ q : Int, 0 ≤ q ∧ q < 4 ∧ sOn F G k x y q) ∨ ((∀ q : Int, 0 ≤ q → q < 4 → ¬ sOn F G k x y q) ∧ oddN (sIn F G k x y) 4)
theorem has_m {F : Nat → Nat → Int} {G Ge : Nat → Int → Int} {k : Nat} {sn : Int} (hO : mOk G sn) (hc : cplR F G k sn) (hE : mEdW G sn Ge) (x y : Int) : mHas Ge (oM G sn 4) x y ↔ sHs F G k x y := by
  have h1 := on_all hO hc hE x y
  have h2 : (∀ e : Int, 0 ≤ e → e < oM G sn 4 → ¬ mOn Ge x y e) ↔ (∀ q : Int, 0 ≤ q → q < 4 → ¬ sOn F G k x y q) := by
    constructor
    · intro h q a b c
      obtain ⟨z, w1, w2, w3⟩ := h1.mpr ⟨q, a, b, c⟩
      exact h z w1 w2 w3
    · intro h z a b c
      obtain ⟨q, w1, w2, w3⟩ := h1.mp ⟨z, a, b, c⟩
      exact h q w1 w2 w3
  have h3 : oddN (fun r => oddN (mC Ge r x y) (oM G sn 4).toNat) 4 ↔ oddN (sIn F G k x y) 4 := oddN_congr 4 (fun r a b => par_r hO hc hE x y ⟨a, by omega⟩)
  unfold mHas sHs
  rw [h1, h2, h3]
-- a closed ring is crossed an even number of times by a far line
theorem par_chain {Q : Int → Prop} : ∀ n : Nat, (oddN (fun i => (Q i ∧ ¬ Q (i + 1)) ∨ (¬ Q i ∧ Q (i + 1))) n ↔ ((Q 0 ∧ ¬ Q (n : Int)) ∨ (¬ Q 0 ∧ Q (n : Int))))
  | 0 => by
    constructor
    · exact fun h => absurd h id
    · rintro (⟨h1, h2⟩ | ⟨h1, h2⟩)
      · exact absurd h1 h2
      · exact absurd h2 h1
  | n + 1 => by
    have ih := par_chain (Q := Q) n
    show (oddN _ n ∧ ¬ ((Q (n : Int) ∧ ¬ Q ((n : Int) + 1)) ∨ (¬ Q (n : Int) ∧ Q ((n : Int) + 1)))) ∨ (¬ oddN _ n ∧ ((Q (n : Int) ∧ ¬ Q ((n : Int) + 1)) ∨ (¬ Q (n : Int) ∧ Q ((n : Int) + 1)))) ↔ ((Q 0 ∧ ¬ Q ((n : Int) + 1)) ∨ (¬ Q 0 ∧ Q ((n : Int) + 1)))
    rw [ih]
    by_cases a : Q 0 <;> by_cases b : Q (n : Int) <;> by_cases c : Q ((n : Int) + 1) <;> simp [a, b, c]
theorem ring_even {Q : Int → Prop} {sz : Int} : ¬ oddN (fun i => (Q i ∧ ¬ Q (rJ sz i)) ∨ (¬ Q i ∧ Q (rJ sz i))) sz.toNat := by
  rcases Int.lt_or_le 0 sz with h | h
  · have e : sz.toNat = (sz - 1).toNat + 1 := by omega
    rw [e]
    have h1 := oddN_congr (P := fun i => (Q i ∧ ¬ Q (rJ sz i)) ∨ (¬ Q i ∧ Q (rJ sz i))) (Q := fun i => (Q i ∧ ¬ Q (i + 1)) ∨ (¬ Q i ∧ Q (i + 1))) (sz - 1).toNat (fun i a b => by
      have : rJ sz i = i + 1 := if_pos (by omega)
      rw [this])
    have h2 := par_chain (Q := Q) (sz - 1).toNat
    have h3 : rJ sz (((sz - 1).toNat : Nat) : Int) = 0 := if_neg (by omega)
    show ¬ ((oddN _ (sz - 1).toNat ∧ ¬ ((Q (((sz - 1).toNat : Nat) : Int) ∧ ¬ Q (rJ sz (((sz - 1).toNat : Nat) : Int))) ∨ (¬ Q (((sz - 1).toNat : Nat) : Int) ∧ Q (rJ sz (((sz - 1).toNat : Nat) : Int))))) ∨ (¬ oddN _ (sz - 1).toNat ∧ ((Q (((sz - 1).toNat : Nat) : Int) ∧ ¬ Q (rJ sz (((sz - 1).toNat : Nat) : Int))) ∨ (¬ Q (((sz - 1).toNat : Nat) : Int) ∧ Q (rJ sz (((sz - 1).toNat : Nat) : Int))))))
    rw [h1, h2, h3]
    by_cases a : Q 0 <;> by_cases b : Q (((sz - 1).toNat : Nat) : Int) <;> simp [a, b]
  · rw [show sz.toNat = 0 by omega]
    exact id
theorem cr_left {x1 y1 x2 y2 x y : Int} (h1 : x < x1) (h2 : x < x2) : eCr x1 y1 x2 y2 x y ↔ ((y < y1 ∧ ¬ y < y2) ∨ (¬ y < y1 ∧ y < y2)) := by
  unfold eCr
  constructor
  · exact fun h => h.1
  · intro h
    refine ⟨h, ?_⟩
    have e : eTurn x1 y1 x2 y2 x y = (x1 - x) * (y2 - y) + (x2 - x) * (y - y1) := by
      unfold eTurn
      grind
    rw [e]
    rcases h with ⟨a, b⟩ | ⟨a, b⟩
    · right
      refine ⟨by omega, ?_⟩
      have p1 := le0_mul (a := x1 - x) (b := y2 - y) (Or.inr ⟨by omega, by omega⟩)
      have p2 := Int.mul_pos (show 0 < x2 - x by omega) (show 0 < y1 - y by omega)
      have p3 : (x2 - x) * (y - y1) = - ((x2 - x) * (y1 - y)) := by grind
      omega
    · left
      refine ⟨by omega, ?_⟩
      have p1 := Int.mul_pos (show 0 < x1 - x by omega) (show 0 < y2 - y by omega)
      have p2 := Int.mul_nonneg (show 0 ≤ x2 - x by omega) (show 0 ≤ y - y1 by omega)
      omega
theorem cr_right {x1 y1 x2 y2 x y : Int} (h : eCr x1 y1 x2 y2 x y) : (x < x1 ∨ x < x2) ∧ ((y1 ≤ y ∧ y < y2) ∨ (y2 ≤ y ∧ y < y1)) := by
  obtain ⟨h1, h2⟩ := h
  have e : eTurn x1 y1 x2 y2 x y = (x1 - x) * (y2 - y) + (x2 - x) * (y - y1) := by
    unfold eTurn
    grind
  rw [e] at h2
  refine ⟨?_, by omega⟩
  rcases Int.lt_or_le x x1 with a | a
  · exact Or.inl a
  · rcases Int.lt_or_le x x2 with b | b
    · exact Or.inr b
    · exfalso
      rcases h1 with ⟨c, d⟩ | ⟨c, d⟩
      · have p1 : 0 ≤ (x1 - x) * (y2 - y) := by
          have := Int.mul_nonneg (show 0 ≤ x - x1 by omega) (show 0 ≤ y - y2 by omega)
          have e2 : (x - x1) * (y - y2) = (x1 - x) * (y2 - y) := by grind
          omega
        have p2 : 0 ≤ (x2 - x) * (y - y1) := by
          have := Int.mul_nonneg (show 0 ≤ x - x2 by omega) (show 0 ≤ y1 - y by omega)
          have e2 : (x - x2) * (y1 - y) = (x2 - x) * (y - y1) := by grind
          omega
        omega
      · have p1 := le0_mul (a := x1 - x) (b := y2 - y) (Or.inl ⟨by omega, by omega⟩)
        have p2 := le0_mul (a := x2 - x) (b := y - y1) (Or.inl ⟨by omega, by omega⟩)
        omega
theorem ring_box {xs ys : Int → Int} {sz x y lf tp rt bt : Int} (hb : ∀ i : Int, 0 ≤ i → i < sz → lf ≤ xs i ∧ tp ≤ ys i ∧ xs i ≤ rt ∧ ys i ≤ bt) (h : oddN (rCr xs ys sz x y) sz.toNat) : lf ≤ x ∧ x ≤ rt ∧ tp ≤ y ∧ y ≤ bt := by
  obtain ⟨i, h0, h1, h2⟩ := oddN_some _ h
  have hi : 0 ≤ i ∧ i < sz := by omega
  have hr := rJ_in hi
  have b1 := hb i hi.1 hi.2
  have b2 := hb _ hr.1 hr.2
  obtain ⟨c1, c2⟩ := cr_right h2
  refine ⟨?_, by omega, by omega, by omega⟩
  rcases Int.lt_or_le x lf with z | z
  · exfalso
    refine ring_even (Q := fun i => y < ys i) (sz := sz) ?_
    refine (oddN_congr sz.toNat (fun j a b => ?_)).mp h
    have hj : 0 ≤ j ∧ j < sz := by omega
    have b3 := hb j hj.1 hj.2
    have b4 := hb _ (rJ_in hj).1 (rJ_in hj).2
    exact cr_left (by omega) (by omega)
  · exact z
theorem sHs_box {F : Nat → Nat → Int} {G : Nat → Int → Int} {k : Nat} {lf tp rt bt x y : Int} (hb : boxP (cS F G k 4 0) lf tp rt bt) (h : sHs F G k x y) : lf ≤ x ∧ x ≤ rt ∧ tp ≤ y ∧ y ≤ bt := by
  have hq : ∀ q : Int, 0 ≤ q → q < 4 → ∀ i : Int, 0 ≤ i → i < F (k + 3 + 3 * q.toNat) 2 → lf ≤ G (k + 3 + 3 * q.toNat + 1) i ∧ tp ≤ G (k + 3 + 3 * q.toNat + 2) i ∧ G (k + 3 + 3 * q.toNat + 1) i ≤ rt ∧ G (k + 3 + 3 * q.toNat + 2) i ≤ bt := fun q a b i c d => hb.1 _ _ ⟨q.toNat, i, Or.inl ⟨by omega, c, d⟩, rfl, rfl⟩
  rcases h with ⟨q, a, b, i, c, d, e⟩ | ⟨-, h⟩
  · have hi : 0 ≤ i ∧ i < F (k + 3 + 3 * q.toNat) 2 := ⟨c, d⟩
    have b1 := hq q a b i c d
    have b2 := hq q a b _ (rJ_in hi).1 (rJ_in hi).2
    have m1 := bwn' e.2.1
    have m2 := bwn' e.2.2
    omega
  · obtain ⟨q, a, b, e⟩ := oddN_some _ h
    exact ring_box (fun i c d => hq q a (by omega) i c d) e
