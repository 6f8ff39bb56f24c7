/-! geometry: when two edges share a point -/
theorem sq_nn (a : Int) : 0 ≤ a * a := by
  rcases Int.le_total 0 a with h | h
  · exact Int.mul_nonneg h h
  · have := Int.mul_nonneg (show 0 ≤ -a by omega) (show 0 ≤ -a by omega)
    rwa [Int.neg_mul_neg] at this
theorem sq_0 {a : Int} (h : a * a ≤ 0) : a = 0 := by
  have h1 := sq_nn a
  have h2 : a * a = 0 := by omega
  rcases Int.mul_eq_zero.mp h2 with h3 | h3 <;> exact h3
theorem mul_pos' {a b : Int} (h : 0 < a) (h2 : 0 < b) : 0 < a * b := Int.mul_pos h h2
theorem mul_le0 {a b : Int} (h : a * b ≤ 0) : (a ≤ 0 ∧ 0 ≤ b) ∨ (0 ≤ a ∧ b ≤ 0) := by
  rcases Int.lt_or_le a 0 with h1 | h1
  · rcases Int.lt_or_le b 0 with h2 | h2
    · exact absurd (Int.mul_pos_of_neg_of_neg h1 h2) (by omega)
    · exact Or.inl ⟨by omega, h2⟩
  · rcases Int.lt_or_le 0 b with h2 | h2
    · rcases Int.lt_or_le 0 a with h3 | h3
      · exact absurd (Int.mul_pos h3 h2) (by omega)
      · exact Or.inl ⟨h3, by omega⟩
    · exact Or.inr ⟨h1, h2⟩
theorem le0_mul {a b : Int} (h : (a ≤ 0 ∧ 0 ≤ b) ∨ (0 ≤ a ∧ b ≤ 0)) : a * b ≤ 0 := by
  rcases h with ⟨h1, h2⟩ | ⟨h1, h2⟩
  · have := Int.mul_nonneg (show 0 ≤ -a by omega) h2
    rw [Int.neg_mul] at this
    omega
  · have := Int.mul_nonneg h1 (show 0 ≤ -b by omega)
    rw [Int.mul_neg] at this
    omega
theorem sgn_le0 {a b : Int} : sgn a * sgn b ≤ 0 ↔ a * b ≤ 0 := by
  unfold sgn
  constructor
  · intro h
    apply le0_mul
    rcases Int.lt_trichotomy a 0 with h1 | h1 | h1
    · rcases Int.lt_trichotomy b 0 with h2 | h2 | h2
      · rw [if_pos h1, if_pos h2] at h
        exact absurd h (by decide)
      · omega
      · omega
    · omega
    · rcases Int.lt_trichotomy b 0 with h2 | h2 | h2
      · omega
      · omega
      · rw [if_neg (by omega), if_neg (by omega), if_neg (by omega), if_neg (by omega)] at h
        exact absurd h (by decide)
  · intro h
    rcases mul_le0 h with ⟨h1, h2⟩ | ⟨h1, h2⟩
    · apply le0_mul
      refine Or.inl ⟨?_, ?_⟩
      · split
        · decide
        · rw [if_pos (by omega)]
          exact Int.le_refl _
      · rw [if_neg (by omega)]
        split <;> decide
    · apply le0_mul
      refine Or.inr ⟨?_, ?_⟩
      · rw [if_neg (by omega)]
        split <;> decide
      · split
        · decide
        · rw [if_pos (by omega)]
          exact Int.le_refl _
theorem sgn_lt0 {a b : Int} : sgn a * sgn b < 0 ↔ (a < 0 ∧ 0 < b) ∨ (0 < a ∧ b < 0) := by
  unfold sgn
  constructor
  · intro h
    rcases Int.lt_trichotomy a 0 with h1 | h1 | h1
    · rcases Int.lt_trichotomy b 0 with h2 | h2 | h2
      · rw [if_pos h1, if_pos h2] at h
        exact absurd h (by decide)
      · subst h2
        simp at h
      · exact Or.inl ⟨h1, h2⟩
    · subst h1
      simp at h
    · rcases Int.lt_trichotomy b 0 with h2 | h2 | h2
      · exact Or.inr ⟨h1, h2⟩
      · subst h2
        simp at h
      · rw [if_neg (by omega), if_neg (by omega), if_neg (by omega), if_neg (by omega)] at h
        exact absurd h (by decide)
  · intro h
    rcases h with ⟨h1, h2⟩ | ⟨h1, h2⟩
    · rw [if_pos h1, if_neg (by omega), if_neg (by omega)]
      decide
    · rw [if_neg (by omega), if_neg (by omega), if_pos h2]
      decide
/-- a point of a line that isn't upright, between its ends by its x, is between them -/
theorem on_x {x1 y1 x2 y2 x y : Int} (hx : ¬ x1 = x2) (ht : eTurn x1 y1 x2 y2 x y = 0) (h : (x - x1) * (x - x2) ≤ 0) : eOn x1 y1 x2 y2 x y := by
  refine ⟨ht, h, ?_⟩
  unfold eTurn at ht
  have hd : 0 < (x2 - x1) * (x2 - x1) := by
    have h1 := sq_nn (x2 - x1)
    rcases Int.lt_or_le 0 ((x2 - x1) * (x2 - x1)) with h2 | h2
    · exact h2
    · exact absurd (sq_0 h2) (by omega)
  have e : (x2 - x1) * (x2 - x1) * ((y - y1) * (y - y2)) = (y2 - y1) * (y2 - y1) * ((x - x1) * (x - x2)) := by grind
  rcases Int.lt_or_le 0 ((y - y1) * (y - y2)) with h3 | h3
  · have h4 := Int.mul_pos hd h3
    have h5 := le0_mul (a := (y2 - y1) * (y2 - y1)) (b := (x - x1) * (x - x2)) (Or.inr ⟨sq_nn _, h⟩)
    omega
  · exact h3
theorem bwn {a b x : Int} (h : min a b ≤ x ∧ x ≤ max a b) : (x - a) * (x - b) ≤ 0 := by
  apply le0_mul
  rcases Int.le_total a b with h1 | h1
  · rw [Int.min_eq_left h1, Int.max_eq_right h1] at h
    omega
  · rw [Int.min_eq_right h1, Int.max_eq_left h1] at h
    omega
theorem bwn' {a b x : Int} (h : (x - a) * (x - b) ≤ 0) : min a b ≤ x ∧ x ≤ max a b := by
  rcases mul_le0 h with ⟨h1, h2⟩ | ⟨h1, h2⟩ <;> omega
def eTch (a1 b1 a2 b2 c1 d1 c2 d2 : Int) : Prop := eOn a1 b1 a2 b2 c1 d1 ∨ eOn a1 b1 a2 b2 c2 d2 ∨ eOn c1 d1 c2 d2 a1 b1 ∨ eOn c1 d1 c2 d2 a2 b2
/-- all on one line, and the boxes meet -/
theorem col_tch {a1 b1 a2 b2 c1 d1 c2 d2 : Int} (hx : ¬ eApart a1 a2 c1 c2) (hy : ¬ eApart b1 b2 d1 d2) (t1 : eTurn a1 b1 a2 b2 c1 d1 = 0) (t2 : eTurn a1 b1 a2 b2 c2 d2 = 0) (t3 : eTurn c1 d1 c2 d2 a1 b1 = 0) (t4 : eTurn c1 d1 c2 d2 a2 b2 = 0) : eTch a1 b1 a2 b2 c1 d1 c2 d2 := by
  unfold eApart at hx hy
  by_cases hc : c1 = c2
  · by_cases ha : a1 = a2
    · have e1 : a1 = c1 := by omega
      by_cases h1 : min b1 b2 ≤ d1 ∧ d1 ≤ max b1 b2
      · exact Or.inl ⟨t1, by rw [e1]; simp, bwn h1⟩
      · by_cases h2 : min d1 d2 ≤ b1 ∧ b1 ≤ max d1 d2
        · exact Or.inr (Or.inr (Or.inl ⟨t3, by rw [e1]; simp, bwn h2⟩))
        · refine Or.inr (Or.inr (Or.inr ⟨t4, ?_, bwn (by omega)⟩))
          rw [← ha, e1]
          simp
    · exact Or.inl (on_x ha t1 (bwn (by omega)))
  · by_cases h1 : min c1 c2 ≤ a1 ∧ a1 ≤ max c1 c2
    · exact Or.inr (Or.inr (Or.inl (on_x hc t3 (bwn h1))))
    · by_cases h2 : min c1 c2 ≤ a2 ∧ a2 ≤ max c1 c2
      · exact Or.inr (Or.inr (Or.inr (on_x hc t4 (bwn h2))))
      · exact Or.inl (on_x (by omega) t1 (bwn (by omega)))
/-- one end on the other's line -/
theorem one_tch {a1 b1 a2 b2 c1 d1 c2 d2 : Int} (hx : ¬ eApart a1 a2 c1 c2) (hy : ¬ eApart b1 b2 d1 d2) (t1 : eTurn a1 b1 a2 b2 c1 d1 = 0) (t34 : eTurn c1 d1 c2 d2 a1 b1 * eTurn c1 d1 c2 d2 a2 b2 ≤ 0) : eTch a1 b1 a2 b2 c1 d1 c2 d2 := by
  by_cases hon : (c1 - a1) * (c1 - a2) ≤ 0 ∧ (d1 - b1) * (d1 - b2) ≤ 0
  · exact Or.inl ⟨t1, hon.1, hon.2⟩
  · have key : eTurn c1 d1 c2 d2 a1 b1 = 0 ∧ eTurn c1 d1 c2 d2 a2 b2 = 0 := by
      unfold eTurn at t1 t34 ⊢
      have hcr : (a1 - c1) * (b2 - d1) = (b1 - d1) * (a2 - c1) := by grind
      by_cases hA : 0 < (c1 - a1) * (c1 - a2)
      · have e1 : (c1 - a1) * (c1 - a2) * (((c2 - c1) * (b1 - d1) - (a1 - c1) * (d2 - d1)) * ((c2 - c1) * (b2 - d1) - (a2 - c1) * (d2 - d1))) = ((c1 - a1) * (c1 - a2) * (d2 - d1) - (a1 - c1) * (b2 - d1) * (c2 - c1)) * ((c1 - a1) * (c1 - a2) * (d2 - d1) - (a1 - c1) * (b2 - d1) * (c2 - c1)) := by grind
        have e2 : ((c1 - a1) * (c1 - a2) * (d2 - d1) - (a1 - c1) * (b2 - d1) * (c2 - c1)) = 0 := by
          apply sq_0
          rw [← e1]
          exact le0_mul (Or.inr ⟨by omega, t34⟩)
        have n1 : ¬ c1 - a1 = 0 := by
          intro z
          rw [z] at hA
          simp at hA
        have n2 : ¬ c1 - a2 = 0 := by
          intro z
          rw [z] at hA
          simp at hA
        constructor
        · have e3 : (c1 - a2) * ((c2 - c1) * (b1 - d1) - (a1 - c1) * (d2 - d1)) = 0 := by grind
          rcases Int.mul_eq_zero.mp e3 with z | z
          · exact absurd z n2
          · exact z
        · have e3 : (c1 - a1) * ((c2 - c1) * (b2 - d1) - (a2 - c1) * (d2 - d1)) = 0 := by grind
          rcases Int.mul_eq_zero.mp e3 with z | z
          · exact absurd z n1
          · exact z
      · have hB : 0 < (d1 - b1) * (d1 - b2) := by omega
        have e1 : (d1 - b1) * (d1 - b2) * (((c2 - c1) * (b1 - d1) - (a1 - c1) * (d2 - d1)) * ((c2 - c1) * (b2 - d1) - (a2 - c1) * (d2 - d1))) = ((d1 - b1) * (d1 - b2) * (c2 - c1) - (a1 - c1) * (b2 - d1) * (d2 - d1)) * ((d1 - b1) * (d1 - b2) * (c2 - c1) - (a1 - c1) * (b2 - d1) * (d2 - d1)) := by grind
        have e2 : ((d1 - b1) * (d1 - b2) * (c2 - c1) - (a1 - c1) * (b2 - d1) * (d2 - d1)) = 0 := by
          apply sq_0
          rw [← e1]
          exact le0_mul (Or.inr ⟨by omega, t34⟩)
        have n1 : ¬ d1 - b1 = 0 := by
          intro z
          rw [z] at hB
          simp at hB
        have n2 : ¬ d1 - b2 = 0 := by
          intro z
          rw [z] at hB
          simp at hB
        constructor
        · have e3 : (d1 - b2) * ((c2 - c1) * (b1 - d1) - (a1 - c1) * (d2 - d1)) = 0 := by grind
          rcases Int.mul_eq_zero.mp e3 with z | z
          · exact absurd z n2
          · exact z
        · have e3 : (d1 - b1) * ((c2 - c1) * (b2 - d1) - (a2 - c1) * (d2 - d1)) = 0 := by grind
          rcases Int.mul_eq_zero.mp e3 with z | z
          · exact absurd z n1
          · exact z
    refine col_tch hx hy t1 ?_ key.1 key.2
    have k1 := key.1
    have k2 := key.2
    unfold eTurn at t1 k1 k2 ⊢
    grind
theorem eTurn_rev (x1 y1 x2 y2 x y : Int) : eTurn x2 y2 x1 y1 x y = - eTurn x1 y1 x2 y2 x y := by
  unfold eTurn
  grind
theorem eOn_rev {x1 y1 x2 y2 x y : Int} : eOn x2 y2 x1 y1 x y ↔ eOn x1 y1 x2 y2 x y := by
  unfold eOn
  rw [eTurn_rev, Int.mul_comm (x - x2), Int.mul_comm (y - y2)]
  constructor <;> exact fun h => ⟨by omega, h.2⟩
theorem apart_rev {a1 a2 c1 c2 : Int} : eApart a2 a1 c1 c2 ↔ eApart a1 a2 c1 c2 := by
  unfold eApart
  rw [Int.max_comm a2, Int.min_comm a2]
theorem apart_rev' {a1 a2 c1 c2 : Int} : eApart a1 a2 c2 c1 ↔ eApart a1 a2 c1 c2 := by
  unfold eApart
  rw [Int.max_comm c2, Int.min_comm c2]
theorem apart_swap {a1 a2 c1 c2 : Int} : eApart c1 c2 a1 a2 ↔ eApart a1 a2 c1 c2 := by
  unfold eApart
  exact Or.comm
theorem tch_swap {a1 b1 a2 b2 c1 d1 c2 d2 : Int} (h : eTch c1 d1 c2 d2 a1 b1 a2 b2) : eTch a1 b1 a2 b2 c1 d1 c2 d2 := by
  rcases h with h | h | h | h
  · exact Or.inr (Or.inr (Or.inl h))
  · exact Or.inr (Or.inr (Or.inr h))
  · exact Or.inl h
  · exact Or.inr (Or.inl h)
theorem tch_revB {a1 b1 a2 b2 c1 d1 c2 d2 : Int} (h : eTch a1 b1 a2 b2 c2 d2 c1 d1) : eTch a1 b1 a2 b2 c1 d1 c2 d2 := by
  rcases h with h | h | h | h
  · exact Or.inr (Or.inl h)
  · exact Or.inl h
  · exact Or.inr (Or.inr (Or.inl (eOn_rev.mp h)))
  · exact Or.inr (Or.inr (Or.inr (eOn_rev.mp h)))
theorem neg_pr {a b : Int} : -a * -b = a * b := Int.neg_mul_neg a b
/-- an end on the other edge: the turns of the other's ends differ, or are nought -/
theorem on_34 {a1 b1 a2 b2 c1 d1 c2 d2 : Int} (h : eOn a1 b1 a2 b2 c1 d1) : eTurn c1 d1 c2 d2 a1 b1 * eTurn c1 d1 c2 d2 a2 b2 ≤ 0 := by
  obtain ⟨t1, hA, hB⟩ := h
  unfold eTurn at t1 ⊢
  have hcr : (a1 - c1) * (b2 - d1) = (b1 - d1) * (a2 - c1) := by grind
  rcases Int.lt_or_le ((c1 - a1) * (c1 - a2)) 0 with h | h
  · have e1 : (c1 - a1) * (c1 - a2) * (((c2 - c1) * (b1 - d1) - (a1 - c1) * (d2 - d1)) * ((c2 - c1) * (b2 - d1) - (a2 - c1) * (d2 - d1))) = ((c1 - a1) * (c1 - a2) * (d2 - d1) - (a1 - c1) * (b2 - d1) * (c2 - c1)) * ((c1 - a1) * (c1 - a2) * (d2 - d1) - (a1 - c1) * (b2 - d1) * (c2 - c1)) := by grind
    have e2 := sq_nn ((c1 - a1) * (c1 - a2) * (d2 - d1) - (a1 - c1) * (b2 - d1) * (c2 - c1))
    rw [← e1] at e2
    rcases Int.lt_or_le 0 (((c2 - c1) * (b1 - d1) - (a1 - c1) * (d2 - d1)) * ((c2 - c1) * (b2 - d1) - (a2 - c1) * (d2 - d1))) with z | z
    · have := Int.mul_neg_of_neg_of_pos h z
      omega
    · exact z
  · have hA0 : (c1 - a1) * (c1 - a2) = 0 := by omega
    have hC : (a1 - c1) * (b2 - d1) * ((a1 - c1) * (b2 - d1)) = 0 := by
      have e : (a1 - c1) * (b2 - d1) * ((a1 - c1) * (b2 - d1)) = (c1 - a1) * (c1 - a2) * ((d1 - b1) * (d1 - b2)) := by grind
      rw [e, hA0, Int.zero_mul]
    have hC0 : (a1 - c1) * (b2 - d1) = 0 := sq_0 (by omega)
    have e3 : ((c2 - c1) * (b1 - d1) - (a1 - c1) * (d2 - d1)) * ((c2 - c1) * (b2 - d1) - (a2 - c1) * (d2 - d1)) = (d1 - b1) * (d1 - b2) * ((c2 - c1) * (c2 - c1)) := by grind
    rw [e3]
    exact le0_mul (Or.inl ⟨hB, sq_nn _⟩)
theorem on_apart {a1 b1 a2 b2 c1 d1 c2 d2 : Int} (h : eOn a1 b1 a2 b2 c1 d1) : ¬ eApart a1 a2 c1 c2 ∧ ¬ eApart b1 b2 d1 d2 := by
  have h1 := bwn' h.2.1
  have h2 := bwn' h.2.2
  unfold eApart
  omega
theorem on_share {a1 b1 a2 b2 c1 d1 c2 d2 : Int} (h : eOn a1 b1 a2 b2 c1 d1) : eShare a1 b1 a2 b2 c1 d1 c2 d2 := by
  obtain ⟨h1, h2⟩ := on_apart (c2 := c2) (d2 := d2) h
  refine ⟨h1, h2, ?_, sgn_le0.mpr (on_34 h)⟩
  rw [sgn_le0, h.1, Int.zero_mul]
  exact Int.le_refl 0
theorem share_swap {a1 b1 a2 b2 c1 d1 c2 d2 : Int} (h : eShare c1 d1 c2 d2 a1 b1 a2 b2) : eShare a1 b1 a2 b2 c1 d1 c2 d2 :=
  ⟨fun z => h.1 (apart_swap.mp z), fun z => h.2.1 (apart_swap.mp z), h.2.2.2, h.2.2.1⟩
theorem share_revB {a1 b1 a2 b2 c1 d1 c2 d2 : Int} (h : eShare a1 b1 a2 b2 c2 d2 c1 d1) : eShare a1 b1 a2 b2 c1 d1 c2 d2 := by
  obtain ⟨h1, h2, h3, h4⟩ := h
  refine ⟨fun z => h1 (apart_rev'.mpr z), fun z => h2 (apart_rev'.mpr z), ?_, ?_⟩
  · rw [sgn_le0] at h3 ⊢
    rw [Int.mul_comm]
    exact h3
  · rw [sgn_le0] at h4 ⊢
    rw [eTurn_rev, eTurn_rev c1 d1 c2 d2, neg_pr] at h4
    exact h4
/-- edges that cross have boxes that meet -/
theorem cross_x {a1 b1 a2 b2 c1 d1 c2 d2 : Int} (h12 : (eTurn a1 b1 a2 b2 c1 d1 < 0 ∧ 0 < eTurn a1 b1 a2 b2 c2 d2) ∨ (0 < eTurn a1 b1 a2 b2 c1 d1 ∧ eTurn a1 b1 a2 b2 c2 d2 < 0)) (h34 : (eTurn c1 d1 c2 d2 a1 b1 < 0 ∧ 0 < eTurn c1 d1 c2 d2 a2 b2) ∨ (0 < eTurn c1 d1 c2 d2 a1 b1 ∧ eTurn c1 d1 c2 d2 a2 b2 < 0)) : ¬ eApart a1 a2 c1 c2 := by
  have e0 : eTurn c1 d1 c2 d2 a1 b1 - eTurn c1 d1 c2 d2 a2 b2 = eTurn a1 b1 a2 b2 c2 d2 - eTurn a1 b1 a2 b2 c1 d1 := by
    unfold eTurn
    grind
  have e1 : eTurn c1 d1 c2 d2 a1 b1 * a2 - eTurn c1 d1 c2 d2 a2 b2 * a1 = eTurn a1 b1 a2 b2 c2 d2 * c1 - eTurn a1 b1 a2 b2 c1 d1 * c2 := by
    unfold eTurn
    grind
  generalize eTurn a1 b1 a2 b2 c1 d1 = t1 at *
  generalize eTurn a1 b1 a2 b2 c2 d2 = t2 at *
  generalize eTurn c1 d1 c2 d2 a1 b1 = t3 at *
  generalize eTurn c1 d1 c2 d2 a2 b2 = t4 at *
  have go : ∀ (m1 m2 : Int), (m1 ≤ m2 → False) → True := fun _ _ _ => trivial
  clear go
  intro hap
  unfold eApart at hap
  have p : ∀ {w v a b : Int}, 0 ≤ w → a ≤ b → w * a ≤ w * b := fun hw hab => Int.mul_le_mul_of_nonneg_left hab hw
  rcases hap with hap | hap
  · -- every a is less than every c
    rcases h34 with ⟨h3, h4⟩ | ⟨h3, h4⟩
    · have h1 : 0 < t1 ∧ t2 < 0 := by omega
      have q1 := Int.mul_le_mul_of_nonneg_left (show a2 ≤ max a1 a2 by omega) (show 0 ≤ -t3 by omega)
      have q2 := Int.mul_le_mul_of_nonneg_left (show a1 ≤ max a1 a2 by omega) (show 0 ≤ t4 by omega)
      have q3 := Int.mul_le_mul_of_nonneg_left (show max a1 a2 + 1 ≤ c1 by omega) (show 0 ≤ -t2 by omega)
      have q4 := Int.mul_le_mul_of_nonneg_left (show max a1 a2 + 1 ≤ c2 by omega) (show 0 ≤ t1 by omega)
      generalize max a1 a2 = M at *
      have e2 : (t4 - t3) * M = (t1 - t2) * M := by rw [show t4 - t3 = t1 - t2 by omega]
      grind
    · have h1 : t1 < 0 ∧ 0 < t2 := by omega
      have q1 := Int.mul_le_mul_of_nonneg_left (show a2 ≤ max a1 a2 by omega) (show 0 ≤ t3 by omega)
      have q2 := Int.mul_le_mul_of_nonneg_left (show a1 ≤ max a1 a2 by omega) (show 0 ≤ -t4 by omega)
      have q3 := Int.mul_le_mul_of_nonneg_left (show max a1 a2 + 1 ≤ c1 by omega) (show 0 ≤ t2 by omega)
      have q4 := Int.mul_le_mul_of_nonneg_left (show max a1 a2 + 1 ≤ c2 by omega) (show 0 ≤ -t1 by omega)
      generalize max a1 a2 = M at *
      have e2 : (t3 - t4) * M = (t2 - t1) * M := by rw [e0]
      grind
  · rcases h34 with ⟨h3, h4⟩ | ⟨h3, h4⟩
    · have h1 : 0 < t1 ∧ t2 < 0 := by omega
      have q1 := Int.mul_le_mul_of_nonneg_left (show max c1 c2 + 1 ≤ a2 by omega) (show 0 ≤ -t3 by omega)
      have q2 := Int.mul_le_mul_of_nonneg_left (show max c1 c2 + 1 ≤ a1 by omega) (show 0 ≤ t4 by omega)
      have q3 := Int.mul_le_mul_of_nonneg_left (show c1 ≤ max c1 c2 by omega) (show 0 ≤ -t2 by omega)
      have q4 := Int.mul_le_mul_of_nonneg_left (show c2 ≤ max c1 c2 by omega) (show 0 ≤ t1 by omega)
      generalize max c1 c2 = M at *
      have e2 : (t4 - t3) * M = (t1 - t2) * M := by rw [show t4 - t3 = t1 - t2 by omega]
      grind
    · have h1 : t1 < 0 ∧ 0 < t2 := by omega
      have q1 := Int.mul_le_mul_of_nonneg_left (show max c1 c2 + 1 ≤ a2 by omega) (show 0 ≤ t3 by omega)
      have q2 := Int.mul_le_mul_of_nonneg_left (show max c1 c2 + 1 ≤ a1 by omega) (show 0 ≤ -t4 by omega)
      have q3 := Int.mul_le_mul_of_nonneg_left (show c1 ≤ max c1 c2 by omega) (show 0 ≤ t2 by omega)
      have q4 := Int.mul_le_mul_of_nonneg_left (show c2 ≤ max c1 c2 by omega) (show 0 ≤ -t1 by omega)
      generalize max c1 c2 = M at *
      have e2 : (t3 - t4) * M = (t2 - t1) * M := by rw [e0]
      grind
theorem eTurn_flip (x1 y1 x2 y2 x y : Int) : eTurn y1 x1 y2 x2 y x = - eTurn x1 y1 x2 y2 x y := by
  unfold eTurn
  grind
/-- two ways to say that edges share a point -/
theorem share_iff {a1 b1 a2 b2 c1 d1 c2 d2 : Int} : eShare a1 b1 a2 b2 c1 d1 c2 d2 ↔ (eOn a1 b1 a2 b2 c1 d1 ∨ eOn a1 b1 a2 b2 c2 d2 ∨ eOn c1 d1 c2 d2 a1 b1 ∨ eOn c1 d1 c2 d2 a2 b2 ∨ (sgn (eTurn a1 b1 a2 b2 c1 d1) * sgn (eTurn a1 b1 a2 b2 c2 d2) < 0 ∧ sgn (eTurn c1 d1 c2 d2 a1 b1) * sgn (eTurn c1 d1 c2 d2 a2 b2) < 0)) := by
  constructor
  · rintro ⟨hx, hy, h12, h34⟩
    rw [sgn_le0] at h12 h34
    have up : eTch a1 b1 a2 b2 c1 d1 c2 d2 → (eOn a1 b1 a2 b2 c1 d1 ∨ eOn a1 b1 a2 b2 c2 d2 ∨ eOn c1 d1 c2 d2 a1 b1 ∨ eOn c1 d1 c2 d2 a2 b2 ∨ (sgn (eTurn a1 b1 a2 b2 c1 d1) * sgn (eTurn a1 b1 a2 b2 c2 d2) < 0 ∧ sgn (eTurn c1 d1 c2 d2 a1 b1) * sgn (eTurn c1 d1 c2 d2 a2 b2) < 0)) := by
      rintro (h | h | h | h)
      · exact Or.inl h
      · exact Or.inr (Or.inl h)
      · exact Or.inr (Or.inr (Or.inl h))
      · exact Or.inr (Or.inr (Or.inr (Or.inl h)))
    by_cases z1 : eTurn a1 b1 a2 b2 c1 d1 = 0
    · exact up (one_tch hx hy z1 h34)
    · by_cases z2 : eTurn a1 b1 a2 b2 c2 d2 = 0
      · refine up (tch_revB (one_tch (fun z => hx (apart_rev'.mp z)) (fun z => hy (apart_rev'.mp z)) z2 ?_))
        rw [eTurn_rev, eTurn_rev c1 d1 c2 d2, neg_pr]
        exact h34
      · by_cases z3 : eTurn c1 d1 c2 d2 a1 b1 = 0
        · exact up (tch_swap (one_tch (fun z => hx (apart_swap.mp z)) (fun z => hy (apart_swap.mp z)) z3 h12))
        · by_cases z4 : eTurn c1 d1 c2 d2 a2 b2 = 0
          · refine up (tch_swap (tch_revB (one_tch (fun z => hx (apart_swap.mp (apart_rev'.mp z))) (fun z => hy (apart_swap.mp (apart_rev'.mp z))) z4 ?_)))
            rw [eTurn_rev, eTurn_rev a1 b1 a2 b2, neg_pr]
            exact h12
          · refine Or.inr (Or.inr (Or.inr (Or.inr ⟨sgn_lt0.mpr ?_, sgn_lt0.mpr ?_⟩)))
            · rcases mul_le0 h12 with h | h <;> omega
            · rcases mul_le0 h34 with h | h <;> omega
  · rintro (h | h | h | h | ⟨h1, h2⟩)
    · exact on_share h
    · exact share_revB (on_share h)
    · exact share_swap (on_share h)
    · exact share_swap (share_revB (on_share h))
    · have k1 := sgn_lt0.mp h1
      have k2 := sgn_lt0.mp h2
      refine ⟨cross_x k1 k2, ?_, by omega, by omega⟩
      refine cross_x (a1 := b1) (b1 := a1) (a2 := b2) (b2 := a2) (c1 := d1) (d1 := c1) (c2 := d2) (d2 := c2) ?_ ?_
      · rw [eTurn_flip, eTurn_flip a1 b1 a2 b2]
        omega
      · rw [eTurn_flip, eTurn_flip c1 d1 c2 d2]
        omega
