/-! an edge on a line -/
theorem btw {a b x : Int} : (x - a) * (x - b) ≤ 0 ↔ min a b ≤ x ∧ x ≤ max a b := by
  rcases Int.lt_or_le x a with c | c
  · rcases Int.lt_or_le x b with d | d
    · have z := Int.mul_pos_of_neg_of_neg (a := x - a) (b := x - b) (by omega) (by omega)
      omega
    · have z := Int.mul_nonpos_of_nonneg_of_nonpos (a := x - b) (b := x - a) (by omega) (by omega)
      rw [Int.mul_comm] at z
      omega
  · rcases Int.lt_or_le x b with d | d
    · have z := Int.mul_nonpos_of_nonneg_of_nonpos (a := x - a) (b := x - b) (by omega) (by omega)
      omega
    · have z := Int.mul_nonneg (a := x - a) (b := x - b) (by omega) (by omega)
      constructor
      · intro q
        rcases Int.mul_eq_zero.mp (show (x - a) * (x - b) = 0 by omega) with y | y <;> omega
      · intro q
        have h : x - a = 0 ∨ x - b = 0 := by omega
        rw [Int.mul_eq_zero.mpr h]
        omega
theorem turn_line {x1 y1 x2 y2 sx sy bx b0 p : Int} : eTurn x1 y1 x2 y2 (sx * p + bx) (sy * p + b0) = ((x2 - x1) * sy - (y2 - y1) * sx) * p + ((x2 - x1) * (b0 - y1) - (y2 - y1) * (bx - x1)) := by
  unfold eTurn
  grind
def slE (x1 y1 x2 y2 sx sy : Int) : Int := (x2 - x1) * sy - (y2 - y1) * sx
def bsE (x1 y1 x2 y2 bx b0 : Int) : Int := (x2 - x1) * (b0 - y1) - (y2 - y1) * (bx - x1)
theorem eOn_line {x1 y1 x2 y2 sx sy bx b0 p : Int} : eOn x1 y1 x2 y2 (sx * p + bx) (sy * p + b0) ↔ ((min x1 x2 ≤ sx * p + bx ∧ sx * p + bx ≤ max x1 x2) ∧ (min y1 y2 ≤ sy * p + b0 ∧ sy * p + b0 ≤ max y1 y2)) ∧ slE x1 y1 x2 y2 sx sy * p + bsE x1 y1 x2 y2 bx b0 = 0 := by
  unfold eOn slE bsE
  rw [turn_line, btw, btw]
  exact ⟨fun h => ⟨⟨h.2.1, h.2.2⟩, h.1⟩, fun h => ⟨h.2, h.1.1, h.1.2⟩⟩
theorem eCr_up {x1 y1 x2 y2 sx sy bx b0 p : Int} (h : y1 < y2) : eCr x1 y1 x2 y2 (sx * p + bx) (sy * p + b0) ↔ (min y1 y2 ≤ sy * p + b0 ∧ sy * p + b0 ≤ max y1 y2 - 1) ∧ 0 < slE x1 y1 x2 y2 sx sy * p + bsE x1 y1 x2 y2 bx b0 := by
  unfold eCr slE bsE
  rw [turn_line]
  omega
theorem eCr_dn {x1 y1 x2 y2 sx sy bx b0 p : Int} (h : ¬ y1 < y2) : eCr x1 y1 x2 y2 (sx * p + bx) (sy * p + b0) ↔ (min y1 y2 ≤ sy * p + b0 ∧ sy * p + b0 ≤ max y1 y2 - 1) ∧ 0 < (-slE x1 y1 x2 y2 sx sy) * p + -bsE x1 y1 x2 y2 bx b0 := by
  unfold eCr slE bsE
  rw [turn_line, Int.neg_mul]
  omega
theorem mul_b1 {a b : Int} (ha : -600 ≤ a ∧ a ≤ 600) (hb : b = -1 ∨ b = 0 ∨ b = 1) : -600 ≤ a * b ∧ a * b ≤ 600 := by
  rcases hb with h | h | h <;> subst h <;> omega
theorem mul_b2 {a b : Int} (ha : -600 ≤ a ∧ a ≤ 600) (hb : -1900 ≤ b ∧ b ≤ 1900) : -1140000 ≤ a * b ∧ a * b ≤ 1140000 := by
  have h := Int.natAbs_mul a b
  have h2 : a.natAbs * b.natAbs ≤ 600 * 1900 := Nat.mul_le_mul (by omega) (by omega)
  omega
theorem fU_sp {F : Nat → Nat → Int} {k i j : Nat} {a b c d : Int} (h : i ≠ j) : fU (fU (fU (fU F k i a) k j b) k i c) k j d = fU (fU F k i c) k j d := by
  funext x y
  unfold fU
  by_cases c1 : x = k ∧ y = j
  · simp only [if_pos c1]
  · simp only [if_neg c1]
    by_cases c2 : x = k ∧ y = i
    · simp only [if_pos c2]
    · simp only [if_neg c2]
/-- the line's numbers -/
def hlOk (F : Nat → Nat → Int) : Prop := (F 231 5 = -1 ∨ F 231 5 = 0 ∨ F 231 5 = 1) ∧ (F 231 7 = -1 ∨ F 231 7 = 0 ∨ F 231 7 = 1) ∧ (-1300 ≤ F 231 6 ∧ F 231 6 ≤ 1300) ∧ (-1300 ≤ F 231 8 ∧ F 231 8 ≤ 1300) ∧ (0 ≤ F 231 9 ∧ F 231 9 ≤ 3000001) ∧ (-3000001 ≤ F 231 10 ∧ F 231 10 ≤ 600)
def hlX (F : Nat → Nat → Int) (p : Int) : Int := F 231 5 * p + F 231 6
def hlY (F : Nat → Nat → Int) (p : Int) : Int := F 231 7 * p + F 231 8
def hlIn (F : Nat → Nat → Int) (p : Int) : Prop := F 231 9 ≤ p ∧ p ≤ F 231 10
def hlF (F F1 : Nat → Nat → Int) : Prop := ∀ a b, ¬ (a = 231 ∧ (b = 3 ∨ b = 11 ∨ b = 12)) → F1 a b = F a b
/-- a span has been put in as an edge's, or as a crossing's -/
theorem sp_on {F F1 : Nat → Nat → Int} {G G1 : Nat → Int → Int} {n lo hi : Int} (hk : evOk (G 232) n) (hlo : 0 ≤ lo) (hhi : hi ≤ 600) (h : (¬ lo ≤ hi ∧ F1 = F ∧ G1 = G) ∨ (lo ≤ hi ∧ F1 = fU F 231 3 (n + 1 + 1) ∧ (∀ a, a ≠ 232 → G1 a = G a) ∧ ∃ g1, insd (G 232) g1 n (lo * 3 + 1) ∧ insd g1 (G1 232) (n + 1) ((hi + 1) * 3 + 2))) (hn : F 231 3 = n) :
    (∀ a, a ≠ 232 → G1 a = G a) ∧ (∀ a b, ¬ (a = 231 ∧ b = 3) → F1 a b = F a b) ∧ (n ≤ F1 231 3 ∧ F1 231 3 ≤ n + 2) ∧ evOk (G1 232) (F1 231 3) ∧ ∀ p, evO (G1 232) (F1 231 3) p = evO (G 232) n p + (if lo ≤ p ∧ p ≤ hi then 1 else 0) ∧ evF (G1 232) (F1 231 3) p = evF (G 232) n p := by
  rcases h with ⟨h1, h2, h3⟩ | ⟨h1, h2, h3, g1, h4, h5⟩
  · rw [h2, h3, hn]
    exact ⟨fun _ _ => rfl, fun _ _ _ => rfl, by omega, hk, fun p => ⟨by rw [if_neg (by omega), Int.add_zero], rfl⟩⟩
  · have e : F1 231 3 = n + 1 + 1 := by rw [h2, fU_hit]
    rw [e]
    refine ⟨h3, fun a b q => ?_, by omega, ⟨insd_srt (insd_srt hk.1 h4) h5, insd_all (Q := fun z => 0 ≤ z ∧ z ≤ 1805) h5 (insd_all (Q := fun z => 0 ≤ z ∧ z ≤ 1805) h4 hk.2 (by omega)) (by omega)⟩, fun p => ev_on h4 h5 h1⟩
    rw [h2]
    unfold fU
    rw [if_neg q]
theorem sp_cr {F F1 : Nat → Nat → Int} {G G1 : Nat → Int → Int} {n lo hi : Int} (hk : evOk (G 232) n) (hlo : 0 ≤ lo) (hhi : hi ≤ 600) (h : (¬ lo ≤ hi ∧ F1 = F ∧ G1 = G) ∨ (lo ≤ hi ∧ F1 = fU F 231 3 (n + 1 + 1) ∧ (∀ a, a ≠ 232 → G1 a = G a) ∧ ∃ g1, insd (G 232) g1 n (lo * 3 + 0) ∧ insd g1 (G1 232) (n + 1) ((hi + 1) * 3 + 0))) (hn : F 231 3 = n) :
    (∀ a, a ≠ 232 → G1 a = G a) ∧ (∀ a b, ¬ (a = 231 ∧ b = 3) → F1 a b = F a b) ∧ (n ≤ F1 231 3 ∧ F1 231 3 ≤ n + 2) ∧ evOk (G1 232) (F1 231 3) ∧ ∀ p, evO (G1 232) (F1 231 3) p = evO (G 232) n p ∧ evF (G1 232) (F1 231 3) p % 2 = (evF (G 232) n p + (if lo ≤ p ∧ p ≤ hi then 1 else 0)) % 2 := by
  rcases h with ⟨h1, h2, h3⟩ | ⟨h1, h2, h3, g1, h4, h5⟩
  · rw [h2, h3, hn]
    exact ⟨fun _ _ => rfl, fun _ _ _ => rfl, by omega, hk, fun p => ⟨rfl, by rw [if_neg (by omega), Int.add_zero]⟩⟩
  · have e : F1 231 3 = n + 1 + 1 := by rw [h2, fU_hit]
    rw [e]
    refine ⟨h3, fun a b q => ?_, by omega, ⟨insd_srt (insd_srt hk.1 h4) h5, insd_all (Q := fun z => 0 ≤ z ∧ z ≤ 1805) h5 (insd_all (Q := fun z => 0 ≤ z ∧ z ≤ 1805) h4 hk.2 (by omega)) (by omega)⟩, fun p => ev_cr h4 h5 h1⟩
    rw [h2]
    unfold fU
    rw [if_neg q]
theorem if_pif {c : Prop} {a b lo hi p : Int} (h : (lo ≤ p ∧ p ≤ hi) ↔ c) : (if lo ≤ p ∧ p ≤ hi then a else b) = pif c a b := by
  by_cases q : c
  · rw [if_pos (h.mpr q), pif_pos q]
  · rw [if_neg (fun z => q (h.mp z)), pif_neg q]
theorem d_Hl_addEdge_0 : decode b_Hl_addEdge 0 = .ok (.iload_n 3, 1) := by decide +kernel
theorem d_Hl_addEdge_1 : decode b_Hl_addEdge 1 = .ok (.iload_n 1, 1) := by decide +kernel
theorem d_Hl_addEdge_2 : decode b_Hl_addEdge 2 = .ok (.isub, 1) := by decide +kernel
theorem d_Hl_addEdge_3 : decode b_Hl_addEdge 3 = .ok (.aload_n 0, 1) := by decide +kernel
theorem d_Hl_addEdge_4 : decode b_Hl_addEdge 4 = .ok (.getfield 28, 3) := by decide +kernel
theorem d_Hl_addEdge_7 : decode b_Hl_addEdge 7 = .ok (.imul, 1) := by decide +kernel
theorem d_Hl_addEdge_8 : decode b_Hl_addEdge 8 = .ok (.iload 4, 2) := by decide +kernel
theorem d_Hl_addEdge_10 : decode b_Hl_addEdge 10 = .ok (.iload_n 2, 1) := by decide +kernel
theorem d_Hl_addEdge_11 : decode b_Hl_addEdge 11 = .ok (.isub, 1) := by decide +kernel
theorem d_Hl_addEdge_12 : decode b_Hl_addEdge 12 = .ok (.aload_n 0, 1) := by decide +kernel
theorem d_Hl_addEdge_13 : decode b_Hl_addEdge 13 = .ok (.getfield 21, 3) := by decide +kernel
theorem d_Hl_addEdge_16 : decode b_Hl_addEdge 16 = .ok (.imul, 1) := by decide +kernel
theorem d_Hl_addEdge_17 : decode b_Hl_addEdge 17 = .ok (.isub, 1) := by decide +kernel
theorem d_Hl_addEdge_18 : decode b_Hl_addEdge 18 = .ok (.istore 5, 2) := by decide +kernel
theorem d_Hl_addEdge_20 : decode b_Hl_addEdge 20 = .ok (.iload_n 3, 1) := by decide +kernel
theorem d_Hl_addEdge_21 : decode b_Hl_addEdge 21 = .ok (.iload_n 1, 1) := by decide +kernel
theorem d_Hl_addEdge_22 : decode b_Hl_addEdge 22 = .ok (.isub, 1) := by decide +kernel
theorem d_Hl_addEdge_23 : decode b_Hl_addEdge 23 = .ok (.aload_n 0, 1) := by decide +kernel
theorem d_Hl_addEdge_24 : decode b_Hl_addEdge 24 = .ok (.getfield 31, 3) := by decide +kernel
theorem d_Hl_addEdge_27 : decode b_Hl_addEdge 27 = .ok (.iload_n 2, 1) := by decide +kernel
theorem d_Hl_addEdge_28 : decode b_Hl_addEdge 28 = .ok (.isub, 1) := by decide +kernel
theorem d_Hl_addEdge_29 : decode b_Hl_addEdge 29 = .ok (.imul, 1) := by decide +kernel
theorem d_Hl_addEdge_30 : decode b_Hl_addEdge 30 = .ok (.iload 4, 2) := by decide +kernel
theorem d_Hl_addEdge_32 : decode b_Hl_addEdge 32 = .ok (.iload_n 2, 1) := by decide +kernel
theorem d_Hl_addEdge_33 : decode b_Hl_addEdge 33 = .ok (.isub, 1) := by decide +kernel
theorem d_Hl_addEdge_34 : decode b_Hl_addEdge 34 = .ok (.aload_n 0, 1) := by decide +kernel
theorem d_Hl_addEdge_35 : decode b_Hl_addEdge 35 = .ok (.getfield 25, 3) := by decide +kernel
theorem d_Hl_addEdge_38 : decode b_Hl_addEdge 38 = .ok (.iload_n 1, 1) := by decide +kernel
theorem d_Hl_addEdge_39 : decode b_Hl_addEdge 39 = .ok (.isub, 1) := by decide +kernel
theorem d_Hl_addEdge_40 : decode b_Hl_addEdge 40 = .ok (.imul, 1) := by decide +kernel
theorem d_Hl_addEdge_41 : decode b_Hl_addEdge 41 = .ok (.isub, 1) := by decide +kernel
theorem d_Hl_addEdge_42 : decode b_Hl_addEdge 42 = .ok (.istore 6, 2) := by decide +kernel
theorem d_Hl_addEdge_44 : decode b_Hl_addEdge 44 = .ok (.iload_n 2, 1) := by decide +kernel
theorem d_Hl_addEdge_45 : decode b_Hl_addEdge 45 = .ok (.iload 4, 2) := by decide +kernel
theorem d_Hl_addEdge_47 : decode b_Hl_addEdge 47 = .ok (.invokestatic 105, 3) := by decide +kernel
theorem d_Hl_addEdge_50 : decode b_Hl_addEdge 50 = .ok (.istore 7, 2) := by decide +kernel
theorem d_Hl_addEdge_52 : decode b_Hl_addEdge 52 = .ok (.iload_n 2, 1) := by decide +kernel
theorem d_Hl_addEdge_53 : decode b_Hl_addEdge 53 = .ok (.iload 4, 2) := by decide +kernel
theorem d_Hl_addEdge_55 : decode b_Hl_addEdge 55 = .ok (.invokestatic 111, 3) := by decide +kernel
theorem d_Hl_addEdge_58 : decode b_Hl_addEdge 58 = .ok (.istore 8, 2) := by decide +kernel
theorem d_Hl_addEdge_60 : decode b_Hl_addEdge 60 = .ok (.aload_n 0, 1) := by decide +kernel
theorem d_Hl_addEdge_61 : decode b_Hl_addEdge 61 = .ok (.aload_n 0, 1) := by decide +kernel
theorem d_Hl_addEdge_62 : decode b_Hl_addEdge 62 = .ok (.getfield 65, 3) := by decide +kernel
theorem d_Hl_addEdge_65 : decode b_Hl_addEdge 65 = .ok (.putfield 43, 3) := by decide +kernel
theorem d_Hl_addEdge_68 : decode b_Hl_addEdge 68 = .ok (.aload_n 0, 1) := by decide +kernel
theorem d_Hl_addEdge_69 : decode b_Hl_addEdge 69 = .ok (.aload_n 0, 1) := by decide +kernel
theorem d_Hl_addEdge_70 : decode b_Hl_addEdge 70 = .ok (.getfield 68, 3) := by decide +kernel
theorem d_Hl_addEdge_73 : decode b_Hl_addEdge 73 = .ok (.putfield 46, 3) := by decide +kernel
theorem d_Hl_addEdge_76 : decode b_Hl_addEdge 76 = .ok (.aload_n 0, 1) := by decide +kernel
theorem d_Hl_addEdge_77 : decode b_Hl_addEdge 77 = .ok (.aload_n 0, 1) := by decide +kernel
theorem d_Hl_addEdge_78 : decode b_Hl_addEdge 78 = .ok (.getfield 21, 3) := by decide +kernel
theorem d_Hl_addEdge_81 : decode b_Hl_addEdge 81 = .ok (.aload_n 0, 1) := by decide +kernel
theorem d_Hl_addEdge_82 : decode b_Hl_addEdge 82 = .ok (.getfield 25, 3) := by decide +kernel
theorem d_Hl_addEdge_85 : decode b_Hl_addEdge 85 = .ok (.iload_n 1, 1) := by decide +kernel
theorem d_Hl_addEdge_86 : decode b_Hl_addEdge 86 = .ok (.iload_n 3, 1) := by decide +kernel
theorem d_Hl_addEdge_87 : decode b_Hl_addEdge 87 = .ok (.invokestatic 105, 3) := by decide +kernel
theorem d_Hl_addEdge_90 : decode b_Hl_addEdge 90 = .ok (.iload_n 1, 1) := by decide +kernel
theorem d_Hl_addEdge_91 : decode b_Hl_addEdge 91 = .ok (.iload_n 3, 1) := by decide +kernel
theorem d_Hl_addEdge_92 : decode b_Hl_addEdge 92 = .ok (.invokestatic 111, 3) := by decide +kernel
theorem d_Hl_addEdge_95 : decode b_Hl_addEdge 95 = .ok (.invokevirtual 55, 3) := by decide +kernel
theorem d_Hl_addEdge_98 : decode b_Hl_addEdge 98 = .ok (.aload_n 0, 1) := by decide +kernel
theorem d_Hl_addEdge_99 : decode b_Hl_addEdge 99 = .ok (.aload_n 0, 1) := by decide +kernel
theorem d_Hl_addEdge_100 : decode b_Hl_addEdge 100 = .ok (.getfield 28, 3) := by decide +kernel
theorem d_Hl_addEdge_103 : decode b_Hl_addEdge 103 = .ok (.aload_n 0, 1) := by decide +kernel
theorem d_Hl_addEdge_104 : decode b_Hl_addEdge 104 = .ok (.getfield 31, 3) := by decide +kernel
theorem d_Hl_addEdge_107 : decode b_Hl_addEdge 107 = .ok (.iload 7, 2) := by decide +kernel
theorem d_Hl_addEdge_109 : decode b_Hl_addEdge 109 = .ok (.iload 8, 2) := by decide +kernel
theorem d_Hl_addEdge_111 : decode b_Hl_addEdge 111 = .ok (.invokevirtual 55, 3) := by decide +kernel
theorem d_Hl_addEdge_114 : decode b_Hl_addEdge 114 = .ok (.aload_n 0, 1) := by decide +kernel
theorem d_Hl_addEdge_115 : decode b_Hl_addEdge 115 = .ok (.iload 5, 2) := by decide +kernel
theorem d_Hl_addEdge_117 : decode b_Hl_addEdge 117 = .ok (.iload 6, 2) := by decide +kernel
theorem d_Hl_addEdge_119 : decode b_Hl_addEdge 119 = .ok (.invokevirtual 114, 3) := by decide +kernel
theorem d_Hl_addEdge_122 : decode b_Hl_addEdge 122 = .ok (.aload_n 0, 1) := by decide +kernel
theorem d_Hl_addEdge_123 : decode b_Hl_addEdge 123 = .ok (.iconst 1, 1) := by decide +kernel
theorem d_Hl_addEdge_124 : decode b_Hl_addEdge 124 = .ok (.iconst 2, 1) := by decide +kernel
theorem d_Hl_addEdge_125 : decode b_Hl_addEdge 125 = .ok (.invokevirtual 117, 3) := by decide +kernel
theorem d_Hl_addEdge_128 : decode b_Hl_addEdge 128 = .ok (.aload_n 0, 1) := by decide +kernel
theorem d_Hl_addEdge_129 : decode b_Hl_addEdge 129 = .ok (.aload_n 0, 1) := by decide +kernel
theorem d_Hl_addEdge_130 : decode b_Hl_addEdge 130 = .ok (.getfield 65, 3) := by decide +kernel
theorem d_Hl_addEdge_133 : decode b_Hl_addEdge 133 = .ok (.putfield 43, 3) := by decide +kernel
theorem d_Hl_addEdge_136 : decode b_Hl_addEdge 136 = .ok (.aload_n 0, 1) := by decide +kernel
theorem d_Hl_addEdge_137 : decode b_Hl_addEdge 137 = .ok (.aload_n 0, 1) := by decide +kernel
theorem d_Hl_addEdge_138 : decode b_Hl_addEdge 138 = .ok (.getfield 68, 3) := by decide +kernel
theorem d_Hl_addEdge_141 : decode b_Hl_addEdge 141 = .ok (.putfield 46, 3) := by decide +kernel
theorem d_Hl_addEdge_144 : decode b_Hl_addEdge 144 = .ok (.aload_n 0, 1) := by decide +kernel
theorem d_Hl_addEdge_145 : decode b_Hl_addEdge 145 = .ok (.aload_n 0, 1) := by decide +kernel
theorem d_Hl_addEdge_146 : decode b_Hl_addEdge 146 = .ok (.getfield 28, 3) := by decide +kernel
theorem d_Hl_addEdge_149 : decode b_Hl_addEdge 149 = .ok (.aload_n 0, 1) := by decide +kernel
theorem d_Hl_addEdge_150 : decode b_Hl_addEdge 150 = .ok (.getfield 31, 3) := by decide +kernel
theorem d_Hl_addEdge_153 : decode b_Hl_addEdge 153 = .ok (.iload 7, 2) := by decide +kernel
theorem d_Hl_addEdge_155 : decode b_Hl_addEdge 155 = .ok (.iload 8, 2) := by decide +kernel
theorem d_Hl_addEdge_157 : decode b_Hl_addEdge 157 = .ok (.iconst 1, 1) := by decide +kernel
theorem d_Hl_addEdge_158 : decode b_Hl_addEdge 158 = .ok (.isub, 1) := by decide +kernel
theorem d_Hl_addEdge_159 : decode b_Hl_addEdge 159 = .ok (.invokevirtual 55, 3) := by decide +kernel
theorem d_Hl_addEdge_162 : decode b_Hl_addEdge 162 = .ok (.iload 4, 2) := by decide +kernel
theorem d_Hl_addEdge_164 : decode b_Hl_addEdge 164 = .ok (.iload_n 2, 1) := by decide +kernel
theorem d_Hl_addEdge_165 : decode b_Hl_addEdge 165 = .ok (.if_icmp .le 14, 3) := by decide +kernel
theorem d_Hl_addEdge_168 : decode b_Hl_addEdge 168 = .ok (.aload_n 0, 1) := by decide +kernel
theorem d_Hl_addEdge_169 : decode b_Hl_addEdge 169 = .ok (.iload 5, 2) := by decide +kernel
theorem d_Hl_addEdge_171 : decode b_Hl_addEdge 171 = .ok (.iload 6, 2) := by decide +kernel
theorem d_Hl_addEdge_173 : decode b_Hl_addEdge 173 = .ok (.invokevirtual 120, 3) := by decide +kernel
theorem d_Hl_addEdge_176 : decode b_Hl_addEdge 176 = .ok (.goto 13, 3) := by decide +kernel
theorem d_Hl_addEdge_179 : decode b_Hl_addEdge 179 = .ok (.aload_n 0, 1) := by decide +kernel
theorem d_Hl_addEdge_180 : decode b_Hl_addEdge 180 = .ok (.iload 5, 2) := by decide +kernel
theorem d_Hl_addEdge_182 : decode b_Hl_addEdge 182 = .ok (.ineg, 1) := by decide +kernel
theorem d_Hl_addEdge_183 : decode b_Hl_addEdge 183 = .ok (.iload 6, 2) := by decide +kernel
theorem d_Hl_addEdge_185 : decode b_Hl_addEdge 185 = .ok (.ineg, 1) := by decide +kernel
theorem d_Hl_addEdge_186 : decode b_Hl_addEdge 186 = .ok (.invokevirtual 120, 3) := by decide +kernel
theorem d_Hl_addEdge_189 : decode b_Hl_addEdge 189 = .ok (.aload_n 0, 1) := by decide +kernel
theorem d_Hl_addEdge_190 : decode b_Hl_addEdge 190 = .ok (.iconst 0, 1) := by decide +kernel
theorem d_Hl_addEdge_191 : decode b_Hl_addEdge 191 = .ok (.iconst 0, 1) := by decide +kernel
theorem d_Hl_addEdge_192 : decode b_Hl_addEdge 192 = .ok (.invokevirtual 117, 3) := by decide +kernel
theorem d_Hl_addEdge_195 : decode b_Hl_addEdge 195 = .ok (.return_, 1) := by decide +kernel
set_option maxHeartbeats 1000000 in
set_option maxRecDepth 100000 in
theorem c_Hl_addEdge (F : Nat → Nat → Int) (G : Nat → Int → Int) (x1 y1 x2 y2 : Int) (h1 : inR x1 y1) (h2 : inR x2 y2) (hO : hlOk F) (hn : 0 ≤ F 231 3 ∧ F 231 3 + 4 ≤ 384) (hE : evOk (G 232) (F 231 3)) : cV y_Hl_addEdge b_Hl_addEdge 9 none 2 45 F G (fun ad => [.ref (ad 231), .int (iI x1), .int (iI y1), .int (iI x2), .int (iI y2)]) (fun F' G' => hlF F F' ∧ (∀ a, a ≠ 232 → G' a = G a) ∧ (F 231 3 ≤ F' 231 3 ∧ F' 231 3 ≤ F 231 3 + 4) ∧ evOk (G' 232) (F' 231 3) ∧ ∀ p, evO (G' 232) (F' 231 3) p = evO (G 232) (F 231 3) p + pif (hlIn F p ∧ eOn x1 y1 x2 y2 (hlX F p) (hlY F p)) 1 0 ∧ evF (G' 232) (F' 231 3) p % 2 = (evF (G 232) (F 231 3) p + pif (hlIn F p ∧ eCr x1 y1 x2 y2 (hlX F p) (hlY F p)) 1 0) % 2) := by
  unfold inR at h1 h2
  have hO1 := hO
  unfold hlOk at hO1
  have m1 := mul_b1 (a := x2 - x1) (b := F 231 7) (by omega) hO.2.1
  have m2 := mul_b1 (a := y2 - y1) (b := F 231 5) (by omega) hO.1
  have m3 := mul_b2 (a := x2 - x1) (b := F 231 8 - y1) (by omega) (by omega)
  have m4 := mul_b2 (a := y2 - y1) (b := F 231 6 - x1) (by omega) (by omega)
  have hslr : -1300 ≤ slE x1 y1 x2 y2 (F 231 5) (F 231 7) ∧ slE x1 y1 x2 y2 (F 231 5) (F 231 7) ≤ 1300 := by unfold slE; omega
  have hbsr : -3000000 ≤ bsE x1 y1 x2 y2 (F 231 6) (F 231 8) ∧ bsE x1 y1 x2 y2 (F 231 6) (F 231 8) ≤ 3000000 := by unfold bsE; omega
  have hbsr2 : -2999999 ≤ bsE x1 y1 x2 y2 (F 231 6) (F 231 8) ∧ bsE x1 y1 x2 y2 (F 231 6) (F 231 8) ≤ 2999999 := by unfold bsE; omega
  intro s0 a0 D t ad
  refine g_startV (by decide +kernel) (Nat.le_of_ble_eq_true rfl) (fun p l e R s m args below meth c A ok => ?_)
  show gW p l e R s m args below meth c _ D A 9 (gZ0 s) 0 0 ad 265 (mem ad t F G) 0 [(0, .ref (ad 231)), (1, .int (iI x1)), (2, .int (iI y1)), (3, .int (iI x2)), (4, .int (iI y2))] []
  refine g_iload_n ok d_Hl_addEdge_0 rfl 3 rfl ?_
  refine g_iload_n ok d_Hl_addEdge_1 rfl 1 rfl ?_
  refine g_isub ok d_Hl_addEdge_2 ?_
  refine g_aload_n ok d_Hl_addEdge_3 rfl 0 rfl ?_
  refine gI_Hl_yStep ok _ rfl k_207 d_Hl_addEdge_4 ?_
  refine g_imul ok d_Hl_addEdge_7 ?_
  refine g_iload ok d_Hl_addEdge_8 4 rfl ?_
  refine g_iload_n ok d_Hl_addEdge_10 rfl 2 rfl ?_
  refine g_isub ok d_Hl_addEdge_11 ?_
  refine g_aload_n ok d_Hl_addEdge_12 rfl 0 rfl ?_
  refine gI_Hl_xStep ok _ rfl k_205 d_Hl_addEdge_13 ?_
  refine g_imul ok d_Hl_addEdge_16 ?_
  refine g_isub ok d_Hl_addEdge_17 ?_
  refine g_top (y := slE x1 y1 x2 y2 (F 231 5) (F 231 7)) rfl ?_
  refine g_istore (lv' := [(5, .int (iI (slE x1 y1 x2 y2 (F 231 5) (F 231 7)))), (0, .ref (ad 231)), (1, .int (iI x1)), (2, .int (iI y1)), (3, .int (iI x2)), (4, .int (iI y2))]) ok d_Hl_addEdge_18 (by decide) rfl ?_
  refine g_iload_n ok d_Hl_addEdge_20 rfl 4 rfl ?_
  refine g_iload_n ok d_Hl_addEdge_21 rfl 2 rfl ?_
  refine g_isub ok d_Hl_addEdge_22 ?_
  refine g_aload_n ok d_Hl_addEdge_23 rfl 1 rfl ?_
  refine gI_Hl_yBase ok _ rfl k_208 d_Hl_addEdge_24 ?_
  refine g_iload_n ok d_Hl_addEdge_27 rfl 3 rfl ?_
  refine g_isub ok d_Hl_addEdge_28 ?_
  refine g_imul ok d_Hl_addEdge_29 ?_
  refine g_iload ok d_Hl_addEdge_30 5 rfl ?_
  refine g_iload_n ok d_Hl_addEdge_32 rfl 3 rfl ?_
  refine g_isub ok d_Hl_addEdge_33 ?_
  refine g_aload_n ok d_Hl_addEdge_34 rfl 1 rfl ?_
  refine gI_Hl_xBase ok _ rfl k_206 d_Hl_addEdge_35 ?_
  refine g_iload_n ok d_Hl_addEdge_38 rfl 2 rfl ?_
  refine g_isub ok d_Hl_addEdge_39 ?_
  refine g_imul ok d_Hl_addEdge_40 ?_
  refine g_isub ok d_Hl_addEdge_41 ?_
  refine g_top (y := bsE x1 y1 x2 y2 (F 231 6) (F 231 8)) rfl ?_
  refine g_istore (lv' := [(6, .int (iI (bsE x1 y1 x2 y2 (F 231 6) (F 231 8)))), (5, .int (iI (slE x1 y1 x2 y2 (F 231 5) (F 231 7)))), (0, .ref (ad 231)), (1, .int (iI x1)), (2, .int (iI y1)), (3, .int (iI x2)), (4, .int (iI y2))]) ok d_Hl_addEdge_42 (by decide) rfl ?_
  refine g_iload_n ok d_Hl_addEdge_44 rfl 4 rfl ?_
  refine g_iload ok d_Hl_addEdge_45 6 rfl ?_
  refine g_callPS (As := [.int (iI y1), .int (iI y2)]) (st := []) ok (c_Ma_min F G _ _ (by omega) (by omega) s0 a0 D t ad) k_417 k_18 k_415 k_416 q_Ma_min (by decide) (Nat.le_of_ble_eq_true rfl) (by decide) d_Hl_addEdge_47 (fun z1 hc1 => ?_)
  subst hc1
  refine g_istore (lv' := [(7, .int (iI (min y1 y2))), (6, .int (iI (bsE x1 y1 x2 y2 (F 231 6) (F 231 8)))), (5, .int (iI (slE x1 y1 x2 y2 (F 231 5) (F 231 7)))), (0, .ref (ad 231)), (1, .int (iI x1)), (2, .int (iI y1)), (3, .int (iI x2)), (4, .int (iI y2))]) ok d_Hl_addEdge_50 (by decide) rfl ?_
  refine g_iload_n ok d_Hl_addEdge_52 rfl 5 rfl ?_
  refine g_iload ok d_Hl_addEdge_53 7 rfl ?_
  refine g_callPS (As := [.int (iI y1), .int (iI y2)]) (st := []) ok (c_Ma_max F G _ _ (by omega) (by omega) s0 a0 D t ad) k_414 k_18 k_412 k_413 q_Ma_max (by decide) (Nat.le_of_ble_eq_true rfl) (by decide) d_Hl_addEdge_55 (fun z2 hc2 => ?_)
  subst hc2
  refine g_istore (lv' := [(8, .int (iI (max y1 y2))), (7, .int (iI (min y1 y2))), (6, .int (iI (bsE x1 y1 x2 y2 (F 231 6) (F 231 8)))), (5, .int (iI (slE x1 y1 x2 y2 (F 231 5) (F 231 7)))), (0, .ref (ad 231)), (1, .int (iI x1)), (2, .int (iI y1)), (3, .int (iI x2)), (4, .int (iI y2))]) ok d_Hl_addEdge_58 (by decide) rfl ?_
  refine g_aload_n ok d_Hl_addEdge_60 rfl 4 rfl ?_
  refine g_aload_n ok d_Hl_addEdge_61 rfl 4 rfl ?_
  refine gI_Hl_first ok _ rfl k_209 d_Hl_addEdge_62 ?_
  refine pI_Hl_low ok _ rfl k_211 d_Hl_addEdge_65 ?_
  refine g_aload_n ok d_Hl_addEdge_68 rfl 4 rfl ?_
  refine g_aload_n ok d_Hl_addEdge_69 rfl 4 rfl ?_
  refine gI_Hl_last ok _ rfl k_210 d_Hl_addEdge_70 ?_
  refine g_top (y := F 231 10) (by show (fU F 231 11 (F 231 9)) 231 10 = _; rw [fU_ja (show (10 : Nat) ≠ 11 by decide)]) ?_
  refine pI_Hl_high ok _ rfl k_212 d_Hl_addEdge_73 ?_
  refine g_aload_n ok d_Hl_addEdge_76 rfl 4 rfl ?_
  refine g_aload_n ok d_Hl_addEdge_77 rfl 4 rfl ?_
  refine gI_Hl_xStep ok _ rfl k_205 d_Hl_addEdge_78 ?_
  refine g_top (y := F 231 5) (by show (fU (fU F 231 11 (F 231 9)) 231 12 (F 231 10)) 231 5 = _; rw [fU_ja (show (5 : Nat) ≠ 12 by decide), fU_ja (show (5 : Nat) ≠ 11 by decide)]) ?_
  refine g_aload_n ok d_Hl_addEdge_81 rfl 4 rfl ?_
  refine gI_Hl_xBase ok _ rfl k_206 d_Hl_addEdge_82 ?_
  refine g_top (y := F 231 6) (by show (fU (fU F 231 11 (F 231 9)) 231 12 (F 231 10)) 231 6 = _; rw [fU_ja (show (6 : Nat) ≠ 12 by decide), fU_ja (show (6 : Nat) ≠ 11 by decide)]) ?_
  refine g_iload_n ok d_Hl_addEdge_85 rfl 5 rfl ?_
  refine g_iload_n ok d_Hl_addEdge_86 rfl 7 rfl ?_
  refine g_callPS (As := [.int (iI x1), .int (iI x2)]) (st := [.int (iI (F 231 6)), .int (iI (F 231 5)), .ref (ad 231)]) ok (c_Ma_min (fU (fU F 231 11 (F 231 9)) 231 12 (F 231 10)) G _ _ (by omega) (by omega) s0 a0 D t ad) k_417 k_18 k_415 k_416 q_Ma_min (by decide) (Nat.le_of_ble_eq_true rfl) (by decide) d_Hl_addEdge_87 (fun z3 hc3 => ?_)
  subst hc3
  refine g_iload_n ok d_Hl_addEdge_90 rfl 5 rfl ?_
  refine g_iload_n ok d_Hl_addEdge_91 rfl 7 rfl ?_
  refine g_callPS (As := [.int (iI x1), .int (iI x2)]) (st := [.int (iI (min x1 x2)), .int (iI (F 231 6)), .int (iI (F 231 5)), .ref (ad 231)]) ok (c_Ma_max (fU (fU F 231 11 (F 231 9)) 231 12 (F 231 10)) G _ _ (by omega) (by omega) s0 a0 D t ad) k_414 k_18 k_412 k_413 q_Ma_max (by decide) (Nat.le_of_ble_eq_true rfl) (by decide) d_Hl_addEdge_92 (fun z4 hc4 => ?_)
  subst hc4
  refine g_callVV (As := [.int (iI (F 231 5)), .int (iI (F 231 6)), .int (iI (min x1 x2)), .int (iI (max x1 x2))]) (st := []) ok _ (c_Hl_narrow (fU (fU F 231 11 (F 231 9)) 231 12 (F 231 10)) G _ _ _ _ (hO.1) (by omega) (by omega) (by omega) (by rw [fU_ja (by decide), fU_hit]; omega) (by rw [fU_hit]; omega) s0 a0 D t ad) k_407 k_7 k_404 cl_Hl (m_Hl (ad := ad) (t := t) (F := (fU (fU F 231 11 (F 231 9)) 231 12 (F 231 10))) (G := G) rfl).1 (m_Hl rfl).2 k_406 s_Hl_narrow q_Hl_narrow (by decide) (Nat.le_of_ble_eq_true rfl) (by decide) d_Hl_addEdge_95 (fun ce1 hc5 => ?_)
  obtain ⟨Fn1, Gn1, rfl, hGn1, lo1, hi1, hFn1, hl1, hh1, hq1⟩ := hc5
  rw [hFn1, hGn1, fU_sp (by decide)]
  have hr1 : ∀ p : Int, (lo1 ≤ p ∧ p ≤ hi1) ↔ ((F 231 9 ≤ p ∧ p ≤ F 231 10) ∧ _) := fun p => by have z := hq1 p; rw [fU_ja (show (11 : Nat) ≠ 12 by decide), fU_hit, fU_hit] at z; exact z
  refine g_aload_n ok d_Hl_addEdge_98 rfl 4 rfl ?_
  refine g_aload_n ok d_Hl_addEdge_99 rfl 4 rfl ?_
  refine gI_Hl_yStep ok _ rfl k_207 d_Hl_addEdge_100 ?_
  refine g_top (y := F 231 7) (by show (fU (fU F 231 11 lo1) 231 12 hi1) 231 7 = _; rw [fU_ja (show (7 : Nat) ≠ 12 by decide), fU_ja (show (7 : Nat) ≠ 11 by decide)]) ?_
  refine g_aload_n ok d_Hl_addEdge_103 rfl 4 rfl ?_
  refine gI_Hl_yBase ok _ rfl k_208 d_Hl_addEdge_104 ?_
  refine g_top (y := F 231 8) (by show (fU (fU F 231 11 lo1) 231 12 hi1) 231 8 = _; rw [fU_ja (show (8 : Nat) ≠ 12 by decide), fU_ja (show (8 : Nat) ≠ 11 by decide)]) ?_
  refine g_iload ok d_Hl_addEdge_107 1 rfl ?_
  refine g_iload ok d_Hl_addEdge_109 0 rfl ?_
  refine g_callVV (As := [.int (iI (F 231 7)), .int (iI (F 231 8)), .int (iI (min y1 y2)), .int (iI (max y1 y2))]) (st := []) ok _ (c_Hl_narrow (fU (fU F 231 11 lo1) 231 12 hi1) G _ _ _ _ (hO.2.1) (by omega) (by omega) (by omega) (by rw [fU_ja (by decide), fU_hit]; omega) (by rw [fU_hit]; omega) s0 a0 D t ad) k_407 k_7 k_404 cl_Hl (m_Hl (ad := ad) (t := t) (F := (fU (fU F 231 11 lo1) 231 12 hi1)) (G := G) rfl).1 (m_Hl rfl).2 k_406 s_Hl_narrow q_Hl_narrow (by decide) (Nat.le_of_ble_eq_true rfl) (by decide) d_Hl_addEdge_111 (fun ce1 hc6 => ?_)
  obtain ⟨Fn2, Gn2, rfl, hGn2, lo2, hi2, hFn2, hl2, hh2, hq2⟩ := hc6
  rw [hFn2, hGn2, fU_sp (by decide)]
  have hr2 : ∀ p : Int, (lo2 ≤ p ∧ p ≤ hi2) ↔ ((lo1 ≤ p ∧ p ≤ hi1) ∧ _) := fun p => by have z := hq2 p; rw [fU_ja (show (11 : Nat) ≠ 12 by decide), fU_hit, fU_hit] at z; exact z
  refine g_aload_n ok d_Hl_addEdge_114 rfl 4 rfl ?_
  refine g_iload ok d_Hl_addEdge_115 3 rfl ?_
  refine g_iload ok d_Hl_addEdge_117 2 rfl ?_
  refine g_callVV (As := [.int (iI (slE x1 y1 x2 y2 (F 231 5) (F 231 7))), .int (iI (bsE x1 y1 x2 y2 (F 231 6) (F 231 8)))]) (st := []) ok _ (c_Hl_narrowToZero (fU (fU F 231 11 lo2) 231 12 hi2) G _ _ hslr hbsr (by rw [fU_ja (by decide), fU_hit]; omega) (by rw [fU_hit]; omega) s0 a0 D t ad) k_429 k_7 k_426 cl_Hl (m_Hl (ad := ad) (t := t) (F := (fU (fU F 231 11 lo2) 231 12 hi2)) (G := G) rfl).1 (m_Hl rfl).2 k_428 s_Hl_narrowToZero q_Hl_narrowToZero (by decide) (Nat.le_of_ble_eq_true rfl) (by decide) d_Hl_addEdge_119 (fun ce1 hc7 => ?_)
  obtain ⟨Fn3, Gn3, rfl, hGn3, lo3, hi3, hFn3, hl3, hh3, hq3⟩ := hc7
  rw [hFn3, hGn3, fU_sp (by decide)]
  have hr3 : ∀ p : Int, (lo3 ≤ p ∧ p ≤ hi3) ↔ ((lo2 ≤ p ∧ p ≤ hi2) ∧ _) := fun p => by have z := hq3 p; rw [fU_ja (show (11 : Nat) ≠ 12 by decide), fU_hit, fU_hit] at z; exact z
  refine g_aload_n ok d_Hl_addEdge_122 rfl 4 rfl ?_
  refine g_iconst ok d_Hl_addEdge_123 ?_
  refine g_iconst ok d_Hl_addEdge_124 ?_
  refine g_callVV (As := [.int (iI 1), .int (iI 2)]) (st := []) ok _ (c_Hl_addSpan (fU (fU F 231 11 lo3) 231 12 hi3) G _ _ (by decide) (by decide) (by rw [fU_ja (by decide), fU_ja (by decide)]; omega) (by rw [fU_ja (by decide), fU_ja (by decide)]; exact hE.1) (by rw [fU_ja (by decide), fU_ja (by decide)]; exact hE.2) (by rw [fU_ja (by decide), fU_hit]; omega) (by rw [fU_hit]; omega) s0 a0 D t ad) k_433 k_7 k_430 cl_Hl (m_Hl (ad := ad) (t := t) (F := (fU (fU F 231 11 lo3) 231 12 hi3)) (G := G) rfl).1 (m_Hl rfl).2 k_432 s_Hl_addSpan q_Hl_addSpan (by decide) (Nat.le_of_ble_eq_true rfl) (by decide) d_Hl_addEdge_125 (fun ce1 hc8 => ?_)
  obtain ⟨F5, G5, rfl, hS1⟩ := hc8
  have hT1 := sp_on (F := fU (fU F 231 11 lo3) 231 12 hi3) (n := F 231 3) (lo := lo3) (hi := hi3) hE (by omega) (by omega) (by have z := hS1; rw [show fU (fU F 231 11 lo3) 231 12 hi3 231 11 = lo3 by rw [fU_ja (by decide), fU_hit], show fU (fU F 231 11 lo3) 231 12 hi3 231 12 = hi3 from fU_hit, show fU (fU F 231 11 lo3) 231 12 hi3 231 3 = F 231 3 by rw [fU_ja (by decide), fU_ja (by decide)]] at z; exact z) (by rw [fU_ja (by decide), fU_ja (by decide)])
  obtain ⟨tg, tf, tn, tk, te⟩ := hT1
  have hF5 : hlF F F5 := fun a b z => by rw [tf a b (by omega)]; unfold fU; rw [if_neg (by omega), if_neg (by omega)]
  have hon : ∀ p : Int, (lo3 ≤ p ∧ p ≤ hi3) ↔ (hlIn F p ∧ eOn x1 y1 x2 y2 (hlX F p) (hlY F p)) := fun p => by rw [hr3 p, hr2 p, hr1 p]; unfold hlIn hlX hlY; rw [eOn_line]; exact ⟨fun z => ⟨z.1.1.1, ⟨z.1.1.2, z.1.2⟩, z.2⟩, fun z => ⟨⟨⟨z.1, z.2.1.1⟩, z.2.1.2⟩, z.2.2⟩⟩
  refine g_aload_n ok d_Hl_addEdge_128 rfl 4 rfl ?_
  refine g_aload_n ok d_Hl_addEdge_129 rfl 4 rfl ?_
  refine gI_Hl_first ok _ rfl k_209 d_Hl_addEdge_130 ?_
  refine g_top (y := F 231 9) (by show F5 231 9 = _; rw [hF5 231 9 (by decide)]) ?_
  refine pI_Hl_low ok _ rfl k_211 d_Hl_addEdge_133 ?_
  refine g_aload_n ok d_Hl_addEdge_136 rfl 4 rfl ?_
  refine g_aload_n ok d_Hl_addEdge_137 rfl 4 rfl ?_
  refine gI_Hl_last ok _ rfl k_210 d_Hl_addEdge_138 ?_
  refine g_top (y := F 231 10) (by show (fU F5 231 11 (F 231 9)) 231 10 = _; rw [fU_ja (show (10 : Nat) ≠ 11 by decide), hF5 231 10 (by decide)]) ?_
  refine pI_Hl_high ok _ rfl k_212 d_Hl_addEdge_141 ?_
  refine g_aload_n ok d_Hl_addEdge_144 rfl 4 rfl ?_
  refine g_aload_n ok d_Hl_addEdge_145 rfl 4 rfl ?_
  refine gI_Hl_yStep ok _ rfl k_207 d_Hl_addEdge_146 ?_
  refine g_top (y := F 231 7) (by show (fU (fU F5 231 11 (F 231 9)) 231 12 (F 231 10)) 231 7 = _; rw [fU_ja (show (7 : Nat) ≠ 12 by decide), fU_ja (show (7 : Nat) ≠ 11 by decide), hF5 231 7 (by decide)]) ?_
  refine g_aload_n ok d_Hl_addEdge_149 rfl 4 rfl ?_
  refine gI_Hl_yBase ok _ rfl k_208 d_Hl_addEdge_150 ?_
  refine g_top (y := F 231 8) (by show (fU (fU F5 231 11 (F 231 9)) 231 12 (F 231 10)) 231 8 = _; rw [fU_ja (show (8 : Nat) ≠ 12 by decide), fU_ja (show (8 : Nat) ≠ 11 by decide), hF5 231 8 (by decide)]) ?_
  refine g_iload ok d_Hl_addEdge_153 1 rfl ?_
  refine g_iload ok d_Hl_addEdge_155 0 rfl ?_
  refine g_iconst ok d_Hl_addEdge_157 ?_
  refine g_isub ok d_Hl_addEdge_158 ?_
  refine g_callVV (As := [.int (iI (F 231 7)), .int (iI (F 231 8)), .int (iI (min y1 y2)), .int (iI ((max y1 y2) - 1))]) (st := []) ok _ (c_Hl_narrow (fU (fU F5 231 11 (F 231 9)) 231 12 (F 231 10)) G5 _ _ _ _ (hO.2.1) (by omega) (by omega) (by omega) (by rw [fU_ja (by decide), fU_hit]; omega) (by rw [fU_hit]; omega) s0 a0 D t ad) k_407 k_7 k_404 cl_Hl (m_Hl (ad := ad) (t := t) (F := (fU (fU F5 231 11 (F 231 9)) 231 12 (F 231 10))) (G := G5) rfl).1 (m_Hl rfl).2 k_406 s_Hl_narrow q_Hl_narrow (by decide) (Nat.le_of_ble_eq_true rfl) (by decide) d_Hl_addEdge_159 (fun ce1 hc9 => ?_)
  obtain ⟨Fn4, Gn4, rfl, hGn4, lo4, hi4, hFn4, hl4, hh4, hq4⟩ := hc9
  rw [hFn4, hGn4, fU_sp (by decide)]
  have hr4 : ∀ p : Int, (lo4 ≤ p ∧ p ≤ hi4) ↔ ((F 231 9 ≤ p ∧ p ≤ F 231 10) ∧ _) := fun p => by have z := hq4 p; rw [fU_ja (show (11 : Nat) ≠ 12 by decide), fU_hit, fU_hit] at z; exact z
  refine g_iload ok d_Hl_addEdge_162 8 rfl ?_
  refine g_iload_n ok d_Hl_addEdge_164 rfl 6 rfl ?_
  refine g_icmp_le ok 179 d_Hl_addEdge_165 (by decide) (by omega) (by omega) (fun h10 => ?_) (fun h10 => ?_)
  · refine g_aload_n ok d_Hl_addEdge_179 rfl 4 rfl ?_
    refine g_iload ok d_Hl_addEdge_180 3 rfl ?_
    refine g_ineg ok d_Hl_addEdge_182 ?_
    refine g_iload ok d_Hl_addEdge_183 2 rfl ?_
    refine g_ineg ok d_Hl_addEdge_185 ?_
    refine g_callVV (As := [.int (iI (-(slE x1 y1 x2 y2 (F 231 5) (F 231 7)))), .int (iI (-(bsE x1 y1 x2 y2 (F 231 6) (F 231 8))))]) (st := []) ok _ (c_Hl_narrowToAboveZero (fU (fU F5 231 11 lo4) 231 12 hi4) G5 _ _ (by omega) (by omega) (by rw [fU_ja (by decide), fU_hit]; omega) (by rw [fU_hit]; omega) s0 a0 D t ad) k_441 k_7 k_438 cl_Hl (m_Hl (ad := ad) (t := t) (F := (fU (fU F5 231 11 lo4) 231 12 hi4)) (G := G5) rfl).1 (m_Hl rfl).2 k_440 s_Hl_narrowToAboveZero q_Hl_narrowToAboveZero (by decide) (Nat.le_of_ble_eq_true rfl) (by decide) d_Hl_addEdge_186 (fun ce1 hc11 => ?_)
    obtain ⟨Fn5, Gn5, rfl, hGn5, lo5, hi5, hFn5, hl5, hh5, hq5⟩ := hc11
    rw [hFn5, hGn5, fU_sp (by decide)]
    have hr5 : ∀ p : Int, (lo5 ≤ p ∧ p ≤ hi5) ↔ ((lo4 ≤ p ∧ p ≤ hi4) ∧ _) := fun p => by have z := hq5 p; rw [fU_ja (show (11 : Nat) ≠ 12 by decide), fU_hit, fU_hit] at z; exact z
    refine g_aload_n ok d_Hl_addEdge_189 rfl 4 rfl ?_
    refine g_iconst ok d_Hl_addEdge_190 ?_
    refine g_iconst ok d_Hl_addEdge_191 ?_
    refine g_callVV (As := [.int (iI 0), .int (iI 0)]) (st := []) ok _ (c_Hl_addSpan (fU (fU F5 231 11 lo5) 231 12 hi5) G5 _ _ (by decide) (by decide) (by rw [fU_ja (by decide), fU_ja (by decide)]; omega) (by rw [fU_ja (by decide), fU_ja (by decide)]; exact tk.1) (by rw [fU_ja (by decide), fU_ja (by decide)]; exact tk.2) (by rw [fU_ja (by decide), fU_hit]; omega) (by rw [fU_hit]; omega) s0 a0 D t ad) k_433 k_7 k_430 cl_Hl (m_Hl (ad := ad) (t := t) (F := (fU (fU F5 231 11 lo5) 231 12 hi5)) (G := G5) rfl).1 (m_Hl rfl).2 k_432 s_Hl_addSpan q_Hl_addSpan (by decide) (Nat.le_of_ble_eq_true rfl) (by decide) d_Hl_addEdge_192 (fun ce1 hc12 => ?_)
    obtain ⟨F6, G6, rfl, hS2⟩ := hc12
    have hT2 := sp_cr (F := fU (fU F5 231 11 lo5) 231 12 hi5) (n := F5 231 3) (lo := lo5) (hi := hi5) tk (by omega) (by omega) (by have z := hS2; rw [show fU (fU F5 231 11 lo5) 231 12 hi5 231 11 = lo5 by rw [fU_ja (by decide), fU_hit], show fU (fU F5 231 11 lo5) 231 12 hi5 231 12 = hi5 from fU_hit, show fU (fU F5 231 11 lo5) 231 12 hi5 231 3 = F5 231 3 by rw [fU_ja (by decide), fU_ja (by decide)]] at z; exact z) (by rw [fU_ja (by decide), fU_ja (by decide)])
    obtain ⟨ug, uf, un, uk, ue⟩ := hT2
    have hcr : ∀ p : Int, (lo5 ≤ p ∧ p ≤ hi5) ↔ (hlIn F p ∧ eCr x1 y1 x2 y2 (hlX F p) (hlY F p)) := fun p => by rw [hr5 p, hr4 p]; unfold hlIn hlX hlY; rw [eCr_dn (by omega)]; exact ⟨fun z => ⟨z.1.1, z.1.2, z.2⟩, fun z => ⟨⟨z.1, z.2.1⟩, z.2.2⟩⟩
    exact g_vret ok d_Hl_addEdge_195 ⟨_, _, rfl, fun a b z => by rw [uf a b (by omega)]; rw [show fU (fU F5 231 11 lo5) 231 12 hi5 a b = F5 a b by unfold fU; rw [if_neg (by omega), if_neg (by omega)]]; exact hF5 a b z, fun a z => (ug a z).trans (tg a z), by omega, uk, fun p => ⟨by rw [(ue p).1, (te p).1, if_pif (hon p)], by rw [(ue p).2, (te p).2, if_pif (hcr p)]⟩⟩
  · refine g_aload_n ok d_Hl_addEdge_168 rfl 4 rfl ?_
    refine g_iload ok d_Hl_addEdge_169 3 rfl ?_
    refine g_iload ok d_Hl_addEdge_171 2 rfl ?_
    refine g_callVV (As := [.int (iI (slE x1 y1 x2 y2 (F 231 5) (F 231 7))), .int (iI (bsE x1 y1 x2 y2 (F 231 6) (F 231 8)))]) (st := []) ok _ (c_Hl_narrowToAboveZero (fU (fU F5 231 11 lo4) 231 12 hi4) G5 _ _ (by omega) (by omega) (by rw [fU_ja (by decide), fU_hit]; omega) (by rw [fU_hit]; omega) s0 a0 D t ad) k_441 k_7 k_438 cl_Hl (m_Hl (ad := ad) (t := t) (F := (fU (fU F5 231 11 lo4) 231 12 hi4)) (G := G5) rfl).1 (m_Hl rfl).2 k_440 s_Hl_narrowToAboveZero q_Hl_narrowToAboveZero (by decide) (Nat.le_of_ble_eq_true rfl) (by decide) d_Hl_addEdge_173 (fun ce1 hc13 => ?_)
    obtain ⟨Fn5, Gn5, rfl, hGn5, lo5, hi5, hFn5, hl5, hh5, hq5⟩ := hc13
    rw [hFn5, hGn5, fU_sp (by decide)]
    have hr5 : ∀ p : Int, (lo5 ≤ p ∧ p ≤ hi5) ↔ ((lo4 ≤ p ∧ p ≤ hi4) ∧ _) := fun p => by have z := hq5 p; rw [fU_ja (show (11 : Nat) ≠ 12 by decide), fU_hit, fU_hit] at z; exact z
    refine g_goto ok 189 d_Hl_addEdge_176 (by decide) ?_
    refine g_aload_n ok d_Hl_addEdge_189 rfl 4 rfl ?_
    refine g_iconst ok d_Hl_addEdge_190 ?_
    refine g_iconst ok d_Hl_addEdge_191 ?_
    refine g_callVV (As := [.int (iI 0), .int (iI 0)]) (st := []) ok _ (c_Hl_addSpan (fU (fU F5 231 11 lo5) 231 12 hi5) G5 _ _ (by decide) (by decide) (by rw [fU_ja (by decide), fU_ja (by decide)]; omega) (by rw [fU_ja (by decide), fU_ja (by decide)]; exact tk.1) (by rw [fU_ja (by decide), fU_ja (by decide)]; exact tk.2) (by rw [fU_ja (by decide), fU_hit]; omega) (by rw [fU_hit]; omega) s0 a0 D t ad) k_433 k_7 k_430 cl_Hl (m_Hl (ad := ad) (t := t) (F := (fU (fU F5 231 11 lo5) 231 12 hi5)) (G := G5) rfl).1 (m_Hl rfl).2 k_432 s_Hl_addSpan q_Hl_addSpan (by decide) (Nat.le_of_ble_eq_true rfl) (by decide) d_Hl_addEdge_192 (fun ce1 hc14 => ?_)
    obtain ⟨F6, G6, rfl, hS2⟩ := hc14
    have hT2 := sp_cr (F := fU (fU F5 231 11 lo5) 231 12 hi5) (n := F5 231 3) (lo := lo5) (hi := hi5) tk (by omega) (by omega) (by have z := hS2; rw [show fU (fU F5 231 11 lo5) 231 12 hi5 231 11 = lo5 by rw [fU_ja (by decide), fU_hit], show fU (fU F5 231 11 lo5) 231 12 hi5 231 12 = hi5 from fU_hit, show fU (fU F5 231 11 lo5) 231 12 hi5 231 3 = F5 231 3 by rw [fU_ja (by decide), fU_ja (by decide)]] at z; exact z) (by rw [fU_ja (by decide), fU_ja (by decide)])
    obtain ⟨ug, uf, un, uk, ue⟩ := hT2
    have hcr : ∀ p : Int, (lo5 ≤ p ∧ p ≤ hi5) ↔ (hlIn F p ∧ eCr x1 y1 x2 y2 (hlX F p) (hlY F p)) := fun p => by rw [hr5 p, hr4 p]; unfold hlIn hlX hlY; rw [eCr_up (by omega)]; exact ⟨fun z => ⟨z.1.1, z.1.2, z.2⟩, fun z => ⟨⟨z.1, z.2.1⟩, z.2.2⟩⟩
    exact g_vret ok d_Hl_addEdge_195 ⟨_, _, rfl, fun a b z => by rw [uf a b (by omega)]; rw [show fU (fU F5 231 11 lo5) 231 12 hi5 a b = F5 a b by unfold fU; rw [if_neg (by omega), if_neg (by omega)]]; exact hF5 a b z, fun a z => (ug a z).trans (tg a z), by omega, uk, fun p => ⟨by rw [(ue p).1, (te p).1, if_pif (hon p)], by rw [(ue p).2, (te p).2, if_pif (hcr p)]⟩⟩
theorem d_Hl_addPart_0 : decode b_Hl_addPart 0 = .ok (.iload_n 2, 1) := by decide +kernel
theorem d_Hl_addPart_1 : decode b_Hl_addPart 1 = .ok (.iload_n 1, 1) := by decide +kernel
theorem d_Hl_addPart_2 : decode b_Hl_addPart 2 = .ok (.if_icmp .le 45, 3) := by decide +kernel
theorem d_Hl_addPart_5 : decode b_Hl_addPart 5 = .ok (.aload_n 0, 1) := by decide +kernel
theorem d_Hl_addPart_6 : decode b_Hl_addPart 6 = .ok (.getfield 133, 3) := by decide +kernel
theorem d_Hl_addPart_9 : decode b_Hl_addPart 9 = .ok (.aload_n 0, 1) := by decide +kernel
theorem d_Hl_addPart_10 : decode b_Hl_addPart 10 = .ok (.getfield 15, 3) := by decide +kernel
theorem d_Hl_addPart_13 : decode b_Hl_addPart 13 = .ok (.arraylength, 1) := by decide +kernel
theorem d_Hl_addPart_14 : decode b_Hl_addPart 14 = .ok (.if_icmp .ge 33, 3) := by decide +kernel
theorem d_Hl_addPart_17 : decode b_Hl_addPart 17 = .ok (.aload_n 0, 1) := by decide +kernel
theorem d_Hl_addPart_18 : decode b_Hl_addPart 18 = .ok (.getfield 15, 3) := by decide +kernel
theorem d_Hl_addPart_21 : decode b_Hl_addPart 21 = .ok (.aload_n 0, 1) := by decide +kernel
theorem d_Hl_addPart_22 : decode b_Hl_addPart 22 = .ok (.getfield 133, 3) := by decide +kernel
theorem d_Hl_addPart_25 : decode b_Hl_addPart 25 = .ok (.iload_n 1, 1) := by decide +kernel
theorem d_Hl_addPart_26 : decode b_Hl_addPart 26 = .ok (.iastore, 1) := by decide +kernel
theorem d_Hl_addPart_27 : decode b_Hl_addPart 27 = .ok (.aload_n 0, 1) := by decide +kernel
theorem d_Hl_addPart_28 : decode b_Hl_addPart 28 = .ok (.getfield 18, 3) := by decide +kernel
theorem d_Hl_addPart_31 : decode b_Hl_addPart 31 = .ok (.aload_n 0, 1) := by decide +kernel
theorem d_Hl_addPart_32 : decode b_Hl_addPart 32 = .ok (.getfield 133, 3) := by decide +kernel
theorem d_Hl_addPart_35 : decode b_Hl_addPart 35 = .ok (.iload_n 2, 1) := by decide +kernel
theorem d_Hl_addPart_36 : decode b_Hl_addPart 36 = .ok (.iastore, 1) := by decide +kernel
theorem d_Hl_addPart_37 : decode b_Hl_addPart 37 = .ok (.aload_n 0, 1) := by decide +kernel
theorem d_Hl_addPart_38 : decode b_Hl_addPart 38 = .ok (.dup, 1) := by decide +kernel
theorem d_Hl_addPart_39 : decode b_Hl_addPart 39 = .ok (.getfield 133, 3) := by decide +kernel
theorem d_Hl_addPart_42 : decode b_Hl_addPart 42 = .ok (.iconst 1, 1) := by decide +kernel
theorem d_Hl_addPart_43 : decode b_Hl_addPart 43 = .ok (.iadd, 1) := by decide +kernel
theorem d_Hl_addPart_44 : decode b_Hl_addPart 44 = .ok (.putfield 133, 3) := by decide +kernel
theorem d_Hl_addPart_47 : decode b_Hl_addPart 47 = .ok (.return_, 1) := by decide +kernel
set_option maxHeartbeats 1000000 in
set_option maxRecDepth 100000 in
theorem c_Hl_addPart (F : Nat → Nat → Int) (G : Nat → Int → Int) (a b : Int) (ha : -1 ≤ a ∧ a ≤ 1000) (hb : -1 ≤ b ∧ b ≤ 1000) (hm : 0 ≤ F 231 4 ∧ F 231 4 < 192) : cV y_Hl_addPart b_Hl_addPart 3 none 0 0 F G (fun ad => [.ref (ad 231), .int (iI a), .int (iI b)]) (fun F' G' => (¬ a < b ∧ F' = F ∧ G' = G) ∨ (a < b ∧ F' = fU F 231 4 (F 231 4 + 1) ∧ G' = gU (gU G 233 (F 231 4) a) 234 (F 231 4) b)) := by
  intro s0 a0 D t ad
  refine g_startV (by decide +kernel) (Nat.le_of_ble_eq_true rfl) (fun p l e R s m args below meth c A ok => ?_)
  show gW p l e R s m args below meth c _ D A 3 (gZ0 s) 0 0 ad 265 (mem ad t F G) 0 [(0, .ref (ad 231)), (1, .int (iI a)), (2, .int (iI b))] []
  refine g_iload_n ok d_Hl_addPart_0 rfl 2 rfl ?_
  refine g_iload_n ok d_Hl_addPart_1 rfl 1 rfl ?_
  refine g_icmp_le ok 47 d_Hl_addPart_2 (by decide) (by omega) (by omega) (fun h1 => ?_) (fun h1 => ?_)
  · exact g_vret ok d_Hl_addPart_47 ⟨_, _, rfl, Or.inl ⟨by omega, rfl, rfl⟩⟩
  · refine g_aload_n ok d_Hl_addPart_5 rfl 0 rfl ?_
    refine gI_Hl_partTotal ok _ rfl k_204 d_Hl_addPart_6 ?_
    refine g_aload_n ok d_Hl_addPart_9 rfl 0 rfl ?_
    refine gI_Hl_starts ok _ rfl k_198 d_Hl_addPart_10 ?_
    refine h_alen ok _ a_233 d_Hl_addPart_13 ?_
    refine g_icmp_ge ok 47 d_Hl_addPart_14 (by decide) (by omega) (by omega) (fun h2 => ?_) (fun h2 => ?_)
    · exact absurd h2 (by omega)
    · refine g_aload_n ok d_Hl_addPart_17 rfl 0 rfl ?_
      refine gI_Hl_starts ok _ rfl k_198 d_Hl_addPart_18 ?_
      refine g_aload_n ok d_Hl_addPart_21 rfl 0 rfl ?_
      refine gI_Hl_partTotal ok _ rfl k_204 d_Hl_addPart_22 ?_
      refine g_iload_n ok d_Hl_addPart_25 rfl 1 rfl ?_
      refine h_iast ok _ a_233 (by omega) d_Hl_addPart_26 ?_
      refine g_aload_n ok d_Hl_addPart_27 rfl 0 rfl ?_
      refine gI_Hl_ends ok _ rfl k_200 d_Hl_addPart_28 ?_
      refine g_aload_n ok d_Hl_addPart_31 rfl 0 rfl ?_
      refine gI_Hl_partTotal ok _ rfl k_204 d_Hl_addPart_32 ?_
      refine g_iload_n ok d_Hl_addPart_35 rfl 2 rfl ?_
      refine h_iast ok _ a_234 (by omega) d_Hl_addPart_36 ?_
      refine g_aload_n ok d_Hl_addPart_37 rfl 0 rfl ?_
      refine g_dup ok d_Hl_addPart_38 rfl ?_
      refine gI_Hl_partTotal ok _ rfl k_204 d_Hl_addPart_39 ?_
      refine g_iconst ok d_Hl_addPart_42 ?_
      refine g_iadd ok d_Hl_addPart_43 ?_
      refine pI_Hl_partTotal ok _ rfl k_204 d_Hl_addPart_44 ?_
      exact g_vret ok d_Hl_addPart_47 ⟨_, _, rfl, Or.inr ⟨by omega, rfl, rfl⟩⟩
