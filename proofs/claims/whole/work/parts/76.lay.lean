/-! a line is laid over a shape -/
def lX (d f p : Int) : Int := if d = 1 then f else p
def lY (d f p : Int) : Int := if d = 0 then f else if d = 1 then p else if d = 2 then f - p else f + p
/-- the count of edges at a place, and of crossings, behind i edges of ring r -/
def cnI (hin : Prop) (on cr : Nat → Int → Prop) (sz : Nat → Int) (r : Nat) (i A B : Int) : Prop :=
  0 ≤ A ∧ (0 < A ↔ hin ∧ ∃ (q : Nat) (j : Int), ((q < r ∧ 0 ≤ j ∧ j < sz q) ∨ (q = r ∧ 0 ≤ j ∧ j < i)) ∧ on q j) ∧ (B % 2 = 1 ↔ hin ∧ ((oddN (fun q => oddN (cr q.toNat) (sz q.toNat).toNat) r ∧ ¬ oddN (cr r) i.toNat) ∨ (¬ oddN (fun q => oddN (cr q.toNat) (sz q.toNat).toNat) r ∧ oddN (cr r) i.toNat)))
theorem oddN_s {P : Int → Prop} {i : Int} (h : 0 ≤ i) : oddN P (i + 1).toNat ↔ ((oddN P i.toNat ∧ ¬ P i) ∨ (¬ oddN P i.toNat ∧ P i)) := by
  rw [show (i + 1).toNat = i.toNat + 1 by omega]
  show (oddN P i.toNat ∧ ¬ P ((i.toNat : Nat) : Int) ∨ ¬ oddN P i.toNat ∧ P ((i.toNat : Nat) : Int)) ↔ _
  rw [show ((i.toNat : Nat) : Int) = i by omega]
theorem cnI_0 {hin : Prop} {on cr : Nat → Int → Prop} {sz : Nat → Int} : cnI hin on cr sz 0 0 0 0 := by
  refine ⟨by decide, ⟨fun h => absurd h (by decide), ?_⟩, ⟨fun h => absurd h (by decide), ?_⟩⟩
  · rintro ⟨-, q, j, h, -⟩
    omega
  · rintro ⟨-, h | h⟩
    · exact absurd h.1 (fun z => z)
    · exact absurd h.2 (fun z => z)
theorem cnI_step {hin : Prop} {on cr : Nat → Int → Prop} {sz : Nat → Int} {r : Nat} {i A B A' B' : Int} (hi : 0 ≤ i) (h : cnI hin on cr sz r i A B) (hA : A' = A + pif (hin ∧ on r i) 1 0) (hB : B' % 2 = (B + pif (hin ∧ cr r i) 1 0) % 2) : cnI hin on cr sz r (i + 1) A' B' := by
  obtain ⟨h1, h2, h3⟩ := h
  refine ⟨?_, ?_, ?_⟩
  · rw [hA]
    by_cases c : hin ∧ on r i
    · rw [pif_pos c]
      omega
    · rw [pif_neg c]
      omega
  · rw [hA]
    by_cases c : hin ∧ on r i
    · rw [pif_pos c]
      exact ⟨fun _ => ⟨c.1, r, i, Or.inr ⟨rfl, hi, by omega⟩, c.2⟩, fun _ => by omega⟩
    · rw [pif_neg c, Int.add_zero, h2]
      constructor
      · rintro ⟨a, q, j, b, d⟩
        refine ⟨a, q, j, ?_, d⟩
        rcases b with b | b
        · exact Or.inl b
        · exact Or.inr ⟨b.1, b.2.1, by omega⟩
      · rintro ⟨a, q, j, b, d⟩
        refine ⟨a, q, j, ?_, d⟩
        rcases b with b | b
        · exact Or.inl b
        · by_cases e : j = i
          · rw [b.1, e] at d
            exact absurd ⟨a, d⟩ c
          · exact Or.inr ⟨b.1, b.2.1, by omega⟩
  · rw [hB, oddN_s hi]
    by_cases a : hin
    · by_cases c : cr r i
      · rw [pif_pos ⟨a, c⟩]
        have e : (B + 1) % 2 = 1 ↔ ¬ B % 2 = 1 := by omega
        rw [e, h3]
        by_cases x : oddN (fun q => oddN (cr q.toNat) (sz q.toNat).toNat) r <;> by_cases y : oddN (cr r) i.toNat <;> simp [a, c, x, y]
      · rw [pif_neg (fun z => c z.2), Int.add_zero, h3]
        by_cases x : oddN (fun q => oddN (cr q.toNat) (sz q.toNat).toNat) r <;> by_cases y : oddN (cr r) i.toNat <;> simp [a, c, x, y]
    · rw [pif_neg (fun z => a z.1), Int.add_zero, h3]
      simp [a]
theorem cnI_ring {hin : Prop} {on cr : Nat → Int → Prop} {sz : Nat → Int} {r : Nat} {A B : Int} (h : cnI hin on cr sz r (sz r) A B) : cnI hin on cr sz (r + 1) 0 A B := by
  obtain ⟨h1, h2, h3⟩ := h
  refine ⟨h1, ?_, ?_⟩
  · rw [h2]
    constructor
    · rintro ⟨a, q, j, b, d⟩
      refine ⟨a, q, j, Or.inl ?_, d⟩
      rcases b with b | ⟨b1, b2, b3⟩
      · exact ⟨by omega, b.2⟩
      · subst b1
        exact ⟨by omega, b2, b3⟩
    · rintro ⟨a, q, j, b, d⟩
      refine ⟨a, q, j, ?_, d⟩
      rcases b with b | b
      · by_cases e : q = r
        · subst e
          exact Or.inr ⟨rfl, b.2⟩
        · exact Or.inl ⟨by omega, b.2⟩
      · omega
  · rw [h3]
    have e : oddN (fun q => oddN (cr q.toNat) (sz q.toNat).toNat) (r + 1) ↔ ((oddN (fun q => oddN (cr q.toNat) (sz q.toNat).toNat) r ∧ ¬ oddN (cr r) (sz r).toNat) ∨ (¬ oddN (fun q => oddN (cr q.toNat) (sz q.toNat).toNat) r ∧ oddN (cr r) (sz r).toNat)) := Iff.rfl
    have e0 : oddN (cr (r + 1)) (0 : Int).toNat ↔ False := Iff.rfl
    rw [e, e0]
    by_cases x : oddN (fun q => oddN (cr q.toNat) (sz q.toNat).toNat) r <;> by_cases y : oddN (cr r) (sz r).toNat <;> simp [x, y]
def lOn (F : Nat → Nat → Int) (G : Nat → Int → Int) (k : Nat) (x y : Int) (q : Nat) (j : Int) : Prop := rOn (G (k + 3 + 3 * q + 1)) (G (k + 3 + 3 * q + 2)) (F (k + 3 + 3 * q) 2) x y j
def lCr (F : Nat → Nat → Int) (G : Nat → Int → Int) (k : Nat) (x y : Int) (q : Nat) (j : Int) : Prop := rCr (G (k + 3 + 3 * q + 1)) (G (k + 3 + 3 * q + 2)) (F (k + 3 + 3 * q) 2) x y j
theorem lay_has {F : Nat → Nat → Int} {G : Nat → Int → Int} {k : Nat} {x y A B : Int} {hin : Prop} (hh : hin ↔ inR x y ∧ sBox F k x y) (h : cnI hin (lOn F G k x y) (lCr F G k x y) (fun q => F (k + 3 + 3 * q) 2) 4 0 A B) : (0 < A ∨ B % 2 = 1) ↔ hasC F G k x y := by
  obtain ⟨h1, h2, h3⟩ := h
  rw [h2, h3]
  have e0 : oddN (lCr F G k x y 4) (0 : Int).toNat ↔ False := Iff.rfl
  have e1 : oddN (fun q => oddN (lCr F G k x y q.toNat) (F (k + 3 + 3 * q.toNat) 2).toNat) 4 ↔ oddN (sIn F G k x y) 4 := Iff.rfl
  have e2 : (∃ (q : Nat) (j : Int), ((q < 4 ∧ 0 ≤ j ∧ j < F (k + 3 + 3 * q) 2) ∨ (q = 4 ∧ 0 ≤ j ∧ j < 0)) ∧ lOn F G k x y q j) ↔ ∃ q : Int, 0 ≤ q ∧ q < 4 ∧ sOn F G k x y q := by
    constructor
    · rintro ⟨q, j, b, d⟩
      rcases b with b | b
      · exact ⟨(q : Int), by omega, by omega, j, b.2.1, b.2.2, d⟩
      · omega
    · rintro ⟨q, a, b, j, c, d, e⟩
      exact ⟨q.toNat, j, Or.inl ⟨by omega, c, d⟩, e⟩
  have e3 : (∀ q : Int, 0 ≤ q → q < 4 → ¬ sOn F G k x y q) ↔ ¬ ∃ q : Int, 0 ≤ q ∧ q < 4 ∧ sOn F G k x y q := ⟨fun h ⟨q, a, b, c⟩ => h q a b c, fun h q a b c => h ⟨q, a, b, c⟩⟩
  unfold hasC sHas
  rw [e0, e1, e2, e3, hh]
  by_cases u : inR x y <;> by_cases v : sBox F k x y <;> by_cases w : ∃ q : Int, 0 ≤ q ∧ q < 4 ∧ sOn F G k x y q <;> by_cases z : oddN (sIn F G k x y) 4 <;> simp [u, v, w, z]
theorem lay_x {Fa Fb : Nat → Nat → Int} {d f0 : Int} (g1 : Fb 231 5 = Fa 231 5) (g3 : Fb 231 6 = Fa 231 6) (a1 : Fa 231 5 = xSt d.toNat) (b1 : Fa 231 6 = (if d = 1 then f0 else 0)) (hd : 0 ≤ d ∧ d ≤ 3) (p : Int) : hlX Fb p = lX d f0 p := by
  unfold hlX lX
  rw [g1, g3, a1, b1]
  unfold xSt
  by_cases c : d = 1
  · rw [if_pos (by omega), if_pos c, if_pos c]
    omega
  · rw [if_neg (by omega), if_neg c, if_neg c]
    omega
theorem lay_y {Fa Fb : Nat → Nat → Int} {d f0 : Int} (g1 : Fb 231 7 = Fa 231 7) (g3 : Fb 231 8 = Fa 231 8) (a1 : Fa 231 7 = ySt d.toNat) (b1 : Fa 231 8 = (if d = 1 then 0 else f0)) (hd : 0 ≤ d ∧ d ≤ 3) (p : Int) : hlY Fb p = lY d f0 p := by
  unfold hlY lY
  rw [g1, g3, a1, b1]
  unfold ySt
  rcases (show d = 0 ∨ d = 1 ∨ d = 2 ∨ d = 3 by omega) with c | c | c | c <;> subst c <;> simp <;> omega
theorem lay_p {Fa Fb : Nat → Nat → Int} {d f0 : Int} (g1 : Fb 231 5 = Fa 231 5) (g2 : Fb 231 7 = Fa 231 7) (g3 : Fb 231 6 = Fa 231 6) (g4 : Fb 231 8 = Fa 231 8) (a1 : Fa 231 5 = xSt d.toNat) (a2 : Fa 231 7 = ySt d.toNat) (b1 : Fa 231 6 = (if d = 1 then f0 else 0)) (b2 : Fa 231 8 = (if d = 1 then 0 else f0)) (hd : 0 ≤ d ∧ d ≤ 3) (p : Int) : hlX Fb p = p ∨ hlY Fb p = p := by
  rw [lay_x g1 g3 a1 b1 hd p, lay_y g2 g4 a2 b2 hd p]
  unfold lX lY
  by_cases c : d = 1
  · right
    rw [if_neg (by omega), if_pos c]
  · left
    rw [if_neg c]
theorem hlOk_up {F F1 : Nat → Nat → Int} (h : hlOk F) (hf : hlF F F1) : hlOk F1 := by
  unfold hlOk at h ⊢
  rw [hf _ _ (by decide), hf _ _ (by decide), hf _ _ (by decide), hf _ _ (by decide), hf _ _ (by decide), hf _ _ (by decide)]
  exact h
theorem hlX_up {F F1 : Nat → Nat → Int} {p : Int} (hf : hlF F F1) : hlX F1 p = hlX F p := by
  unfold hlX
  rw [hf _ _ (by decide), hf _ _ (by decide)]
theorem hlY_up {F F1 : Nat → Nat → Int} {p : Int} (hf : hlF F F1) : hlY F1 p = hlY F p := by
  unfold hlY
  rw [hf _ _ (by decide), hf _ _ (by decide)]
theorem hlIn_up {F F1 : Nat → Nat → Int} {p : Int} (hf : hlF F F1) : hlIn F1 p = hlIn F p := by
  unfold hlIn
  rw [hf _ _ (by decide), hf _ _ (by decide)]
theorem lay_rn {P Q : Int → Prop} {L : List (Int × Int)} (h : isRn P L) (he : ∀ p, P p ↔ Q p) : isRn Q L := by
  have e : P = Q := funext (fun p => propext (he p))
  rw [← e]
  exact h
theorem d_Hl_lay_0 : decode b_Hl_lay 0 = .ok (.aload_n 0, 1) := by decide +kernel
theorem d_Hl_lay_1 : decode b_Hl_lay 1 = .ok (.aload_n 1, 1) := by decide +kernel
theorem d_Hl_lay_2 : decode b_Hl_lay 2 = .ok (.getfield 34, 3) := by decide +kernel
theorem d_Hl_lay_5 : decode b_Hl_lay 5 = .ok (.iload_n 2, 1) := by decide +kernel
theorem d_Hl_lay_6 : decode b_Hl_lay 6 = .ok (.invokevirtual 39, 3) := by decide +kernel
theorem d_Hl_lay_9 : decode b_Hl_lay 9 = .ok (.aload_n 0, 1) := by decide +kernel
theorem d_Hl_lay_10 : decode b_Hl_lay 10 = .ok (.iconst 0, 1) := by decide +kernel
theorem d_Hl_lay_11 : decode b_Hl_lay 11 = .ok (.putfield 43, 3) := by decide +kernel
theorem d_Hl_lay_14 : decode b_Hl_lay 14 = .ok (.aload_n 0, 1) := by decide +kernel
theorem d_Hl_lay_15 : decode b_Hl_lay 15 = .ok (.sipush 600, 3) := by decide +kernel
theorem d_Hl_lay_18 : decode b_Hl_lay 18 = .ok (.putfield 46, 3) := by decide +kernel
theorem d_Hl_lay_21 : decode b_Hl_lay 21 = .ok (.aload_n 0, 1) := by decide +kernel
theorem d_Hl_lay_22 : decode b_Hl_lay 22 = .ok (.aload_n 0, 1) := by decide +kernel
theorem d_Hl_lay_23 : decode b_Hl_lay 23 = .ok (.getfield 21, 3) := by decide +kernel
theorem d_Hl_lay_26 : decode b_Hl_lay 26 = .ok (.aload_n 0, 1) := by decide +kernel
theorem d_Hl_lay_27 : decode b_Hl_lay 27 = .ok (.getfield 25, 3) := by decide +kernel
theorem d_Hl_lay_30 : decode b_Hl_lay 30 = .ok (.aload_n 1, 1) := by decide +kernel
theorem d_Hl_lay_31 : decode b_Hl_lay 31 = .ok (.getfield 49, 3) := by decide +kernel
theorem d_Hl_lay_34 : decode b_Hl_lay 34 = .ok (.aload_n 1, 1) := by decide +kernel
theorem d_Hl_lay_35 : decode b_Hl_lay 35 = .ok (.getfield 52, 3) := by decide +kernel
theorem d_Hl_lay_38 : decode b_Hl_lay 38 = .ok (.invokevirtual 55, 3) := by decide +kernel
theorem d_Hl_lay_41 : decode b_Hl_lay 41 = .ok (.aload_n 0, 1) := by decide +kernel
theorem d_Hl_lay_42 : decode b_Hl_lay 42 = .ok (.aload_n 0, 1) := by decide +kernel
theorem d_Hl_lay_43 : decode b_Hl_lay 43 = .ok (.getfield 28, 3) := by decide +kernel
theorem d_Hl_lay_46 : decode b_Hl_lay 46 = .ok (.aload_n 0, 1) := by decide +kernel
theorem d_Hl_lay_47 : decode b_Hl_lay 47 = .ok (.getfield 31, 3) := by decide +kernel
theorem d_Hl_lay_50 : decode b_Hl_lay 50 = .ok (.aload_n 1, 1) := by decide +kernel
theorem d_Hl_lay_51 : decode b_Hl_lay 51 = .ok (.getfield 59, 3) := by decide +kernel
theorem d_Hl_lay_54 : decode b_Hl_lay 54 = .ok (.aload_n 1, 1) := by decide +kernel
theorem d_Hl_lay_55 : decode b_Hl_lay 55 = .ok (.getfield 62, 3) := by decide +kernel
theorem d_Hl_lay_58 : decode b_Hl_lay 58 = .ok (.invokevirtual 55, 3) := by decide +kernel
theorem d_Hl_lay_61 : decode b_Hl_lay 61 = .ok (.aload_n 0, 1) := by decide +kernel
theorem d_Hl_lay_62 : decode b_Hl_lay 62 = .ok (.aload_n 0, 1) := by decide +kernel
theorem d_Hl_lay_63 : decode b_Hl_lay 63 = .ok (.getfield 43, 3) := by decide +kernel
theorem d_Hl_lay_66 : decode b_Hl_lay 66 = .ok (.putfield 65, 3) := by decide +kernel
theorem d_Hl_lay_69 : decode b_Hl_lay 69 = .ok (.aload_n 0, 1) := by decide +kernel
theorem d_Hl_lay_70 : decode b_Hl_lay 70 = .ok (.aload_n 0, 1) := by decide +kernel
theorem d_Hl_lay_71 : decode b_Hl_lay 71 = .ok (.getfield 46, 3) := by decide +kernel
theorem d_Hl_lay_74 : decode b_Hl_lay 74 = .ok (.putfield 68, 3) := by decide +kernel
theorem d_Hl_lay_77 : decode b_Hl_lay 77 = .ok (.aload_n 0, 1) := by decide +kernel
theorem d_Hl_lay_78 : decode b_Hl_lay 78 = .ok (.iconst 0, 1) := by decide +kernel
theorem d_Hl_lay_79 : decode b_Hl_lay 79 = .ok (.putfield 71, 3) := by decide +kernel
theorem d_Hl_lay_82 : decode b_Hl_lay 82 = .ok (.iconst 0, 1) := by decide +kernel
theorem d_Hl_lay_83 : decode b_Hl_lay 83 = .ok (.istore_n 3, 1) := by decide +kernel
theorem d_Hl_lay_84 : decode b_Hl_lay 84 = .ok (.iload_n 3, 1) := by decide +kernel
theorem d_Hl_lay_85 : decode b_Hl_lay 85 = .ok (.iconst 4, 1) := by decide +kernel
theorem d_Hl_lay_86 : decode b_Hl_lay 86 = .ok (.if_icmp .ge 81, 3) := by decide +kernel
theorem d_Hl_lay_89 : decode b_Hl_lay 89 = .ok (.aload_n 1, 1) := by decide +kernel
theorem d_Hl_lay_90 : decode b_Hl_lay 90 = .ok (.getfield 74, 3) := by decide +kernel
theorem d_Hl_lay_93 : decode b_Hl_lay 93 = .ok (.iload_n 3, 1) := by decide +kernel
theorem d_Hl_lay_94 : decode b_Hl_lay 94 = .ok (.aaload, 1) := by decide +kernel
theorem d_Hl_lay_95 : decode b_Hl_lay 95 = .ok (.astore 4, 2) := by decide +kernel
theorem d_Hl_lay_97 : decode b_Hl_lay 97 = .ok (.iconst 0, 1) := by decide +kernel
theorem d_Hl_lay_98 : decode b_Hl_lay 98 = .ok (.istore 5, 2) := by decide +kernel
theorem d_Hl_lay_100 : decode b_Hl_lay 100 = .ok (.iload 5, 2) := by decide +kernel
theorem d_Hl_lay_102 : decode b_Hl_lay 102 = .ok (.aload 4, 2) := by decide +kernel
theorem d_Hl_lay_104 : decode b_Hl_lay 104 = .ok (.getfield 78, 3) := by decide +kernel
theorem d_Hl_lay_107 : decode b_Hl_lay 107 = .ok (.if_icmp .ge 54, 3) := by decide +kernel
theorem d_Hl_lay_110 : decode b_Hl_lay 110 = .ok (.aload 4, 2) := by decide +kernel
theorem d_Hl_lay_112 : decode b_Hl_lay 112 = .ok (.iload 5, 2) := by decide +kernel
theorem d_Hl_lay_114 : decode b_Hl_lay 114 = .ok (.invokevirtual 83, 3) := by decide +kernel
theorem d_Hl_lay_117 : decode b_Hl_lay 117 = .ok (.istore 6, 2) := by decide +kernel
theorem d_Hl_lay_119 : decode b_Hl_lay 119 = .ok (.aload_n 0, 1) := by decide +kernel
theorem d_Hl_lay_120 : decode b_Hl_lay 120 = .ok (.aload 4, 2) := by decide +kernel
theorem d_Hl_lay_122 : decode b_Hl_lay 122 = .ok (.getfield 87, 3) := by decide +kernel
theorem d_Hl_lay_125 : decode b_Hl_lay 125 = .ok (.iload 5, 2) := by decide +kernel
theorem d_Hl_lay_127 : decode b_Hl_lay 127 = .ok (.iaload, 1) := by decide +kernel
theorem d_Hl_lay_128 : decode b_Hl_lay 128 = .ok (.aload 4, 2) := by decide +kernel
theorem d_Hl_lay_130 : decode b_Hl_lay 130 = .ok (.getfield 90, 3) := by decide +kernel
theorem d_Hl_lay_133 : decode b_Hl_lay 133 = .ok (.iload 5, 2) := by decide +kernel
theorem d_Hl_lay_135 : decode b_Hl_lay 135 = .ok (.iaload, 1) := by decide +kernel
theorem d_Hl_lay_136 : decode b_Hl_lay 136 = .ok (.aload 4, 2) := by decide +kernel
theorem d_Hl_lay_138 : decode b_Hl_lay 138 = .ok (.getfield 87, 3) := by decide +kernel
theorem d_Hl_lay_141 : decode b_Hl_lay 141 = .ok (.iload 6, 2) := by decide +kernel
theorem d_Hl_lay_143 : decode b_Hl_lay 143 = .ok (.iaload, 1) := by decide +kernel
theorem d_Hl_lay_144 : decode b_Hl_lay 144 = .ok (.aload 4, 2) := by decide +kernel
theorem d_Hl_lay_146 : decode b_Hl_lay 146 = .ok (.getfield 90, 3) := by decide +kernel
theorem d_Hl_lay_149 : decode b_Hl_lay 149 = .ok (.iload 6, 2) := by decide +kernel
theorem d_Hl_lay_151 : decode b_Hl_lay 151 = .ok (.iaload, 1) := by decide +kernel
theorem d_Hl_lay_152 : decode b_Hl_lay 152 = .ok (.invokevirtual 93, 3) := by decide +kernel
theorem d_Hl_lay_155 : decode b_Hl_lay 155 = .ok (.iinc 5 1, 3) := by decide +kernel
theorem d_Hl_lay_158 : decode b_Hl_lay 158 = .ok (.goto (-58), 3) := by decide +kernel
theorem d_Hl_lay_161 : decode b_Hl_lay 161 = .ok (.iinc 3 1, 3) := by decide +kernel
theorem d_Hl_lay_164 : decode b_Hl_lay 164 = .ok (.goto (-80), 3) := by decide +kernel
theorem d_Hl_lay_167 : decode b_Hl_lay 167 = .ok (.aload_n 0, 1) := by decide +kernel
theorem d_Hl_lay_168 : decode b_Hl_lay 168 = .ok (.invokevirtual 96, 3) := by decide +kernel
theorem d_Hl_lay_171 : decode b_Hl_lay 171 = .ok (.return_, 1) := by decide +kernel
set_option maxHeartbeats 1000000 in
set_option maxRecDepth 100000 in
theorem c_Hl_lay (F : Nat → Nat → Int) (G : Nat → Int → Int) (k : Nat) (f0 : Int) (hO : shOk F G k) (h24 : ∀ q : Nat, q < 4 → F (k + 3 + 3 * q) 2 ≤ 24) (hf0 : -1300 ≤ f0 ∧ f0 ≤ 1300) : cV y_Hl_lay b_Hl_lay 7 none 3 73 F G (fun ad => [.ref (ad 231), .ref (ad k), .int (iI f0)]) (fun F' G' => ∃ L : List (Int × Int), L.length ≤ 192 ∧ F' 231 4 = (L.length : Int) ∧ ptR G' L ∧ isRn (fun p => hasC F G k (lX (F k 6) f0 p) (lY (F k 6) f0 p)) L ∧ ((∀ p, F' 231 5 * p + F' 231 6 = lX (F k 6) f0 p) ∧ (∀ p, F' 231 7 * p + F' 231 8 = lY (F k 6) f0 p)) ∧ (∀ a b, a ≠ 231 → F' a b = F a b) ∧ (∀ a, ¬ (232 ≤ a ∧ a ≤ 234) → G' a = G a)) := by
  have hK := hO.1
  have hkk := hK
  unfold isSh at hkk
  have hRs := hO.2.1
  have hbox := hO.2.2.1
  have hd6 := hO.2.2.2.1.2.2.2
  have hoc := oC_le (F := F) (k := k) (fun q hq => ⟨(hRs q hq).1.1, h24 q hq⟩)
  intro s0 a0 D t ad
  refine g_startV (by decide +kernel) (Nat.le_of_ble_eq_true rfl) (fun p l e R s m args below meth c A ok => ?_)
  show gW p l e R s m args below meth c _ D A 7 (gZ0 s) 0 0 ad 265 (mem ad t F G) 0 [(0, .ref (ad 231)), (1, .ref (ad k)), (2, .int (iI f0))] []
  refine g_aload_n ok d_Hl_lay_0 rfl 0 rfl ?_
  refine g_aload_n ok d_Hl_lay_1 rfl 1 rfl ?_
  refine gN_Sh_direction ok _ hK k_106 d_Hl_lay_2 ?_
  refine g_iload_n ok d_Hl_lay_5 rfl 2 rfl ?_
  refine g_callVV (As := [.int (iI (F k 6)), .int (iI f0)]) (st := []) ok _ (c_Hl_aim F G _ _ hd6 s0 a0 D t ad) k_399 k_7 k_396 cl_Hl (m_Hl (ad := ad) (t := t) (F := F) (G := G) rfl).1 (m_Hl rfl).2 k_398 s_Hl_aim q_Hl_aim (by decide) (Nat.le_of_ble_eq_true rfl) (by decide) d_Hl_lay_6 (fun ce1 hc1 => ?_)
  obtain ⟨Fa, Ga, rfl, hFa, hGa⟩ := hc1
  rw [hGa]
  have ax : Fa 231 5 = xSt (F k 6).toNat := by rw [hFa, fU_ja (by decide), fU_ja (by decide), fU_ja (by decide), fU_hit]
  have ay : Fa 231 7 = ySt (F k 6).toNat := by rw [hFa, fU_ja (by decide), fU_ja (by decide), fU_hit]
  have bx : Fa 231 6 = (if F k 6 = 1 then f0 else 0) := by rw [hFa, fU_ja (by decide), fU_hit]
  have bz : Fa 231 8 = (if F k 6 = 1 then 0 else f0) := by rw [hFa, fU_hit]
  have hfa : ∀ a b, a ≠ 231 → Fa a b = F a b := fun a b z => by rw [hFa, fU_ka z, fU_ka z, fU_ka z, fU_ka z]
  have bxr : -1300 ≤ Fa 231 6 ∧ Fa 231 6 ≤ 1300 := by rw [bx]; split <;> omega
  have bzr : -1300 ≤ Fa 231 8 ∧ Fa 231 8 ≤ 1300 := by rw [bz]; split <;> omega
  refine g_aload_n ok d_Hl_lay_9 rfl 0 rfl ?_
  refine g_iconst ok d_Hl_lay_10 ?_
  refine pI_Hl_low ok _ rfl k_211 d_Hl_lay_11 ?_
  refine g_aload_n ok d_Hl_lay_14 rfl 0 rfl ?_
  refine g_sipush ok (by decide) d_Hl_lay_15 ?_
  refine pI_Hl_high ok _ rfl k_212 d_Hl_lay_18 ?_
  refine g_aload_n ok d_Hl_lay_21 rfl 0 rfl ?_
  refine g_aload_n ok d_Hl_lay_22 rfl 0 rfl ?_
  refine gI_Hl_xStep ok _ rfl k_205 d_Hl_lay_23 ?_
  refine g_top (y := Fa 231 5) (by show (fU (fU Fa 231 11 0) 231 12 600) 231 5 = _; rw [fU_ja (show (5 : Nat) ≠ 12 by decide), fU_ja (show (5 : Nat) ≠ 11 by decide)]) ?_
  refine g_aload_n ok d_Hl_lay_26 rfl 0 rfl ?_
  refine gI_Hl_xBase ok _ rfl k_206 d_Hl_lay_27 ?_
  refine g_top (y := Fa 231 6) (by show (fU (fU Fa 231 11 0) 231 12 600) 231 6 = _; rw [fU_ja (show (6 : Nat) ≠ 12 by decide), fU_ja (show (6 : Nat) ≠ 11 by decide)]) ?_
  refine g_aload_n ok d_Hl_lay_30 rfl 1 rfl ?_
  refine gN_Sh_left ok _ hK k_109 d_Hl_lay_31 ?_
  refine g_top (y := F k 7) (by show (fU (fU Fa 231 11 0) 231 12 600) k 7 = _; rw [fU_ja (show (7 : Nat) ≠ 12 by decide), fU_ja (show (7 : Nat) ≠ 11 by decide), hfa k 7 (by omega)]) ?_
  refine g_aload_n ok d_Hl_lay_34 rfl 1 rfl ?_
  refine gN_Sh_right ok _ hK k_117 d_Hl_lay_35 ?_
  refine g_top (y := F k 9) (by show (fU (fU Fa 231 11 0) 231 12 600) k 9 = _; rw [fU_ja (show (9 : Nat) ≠ 12 by decide), fU_ja (show (9 : Nat) ≠ 11 by decide), hfa k 9 (by omega)]) ?_
  refine g_callVV (As := [.int (iI (Fa 231 5)), .int (iI (Fa 231 6)), .int (iI (F k 7)), .int (iI (F k 9))]) (st := []) ok _ (c_Hl_narrow (fU (fU Fa 231 11 0) 231 12 600) G _ _ _ _ (ax ▸ xSt_rng _) (by omega) (by omega) (by omega) (by rw [fU_ja (by decide), fU_hit]; omega) (by rw [fU_hit]; omega) s0 a0 D t ad) k_407 k_7 k_404 cl_Hl (m_Hl (ad := ad) (t := t) (F := (fU (fU Fa 231 11 0) 231 12 600)) (G := G) rfl).1 (m_Hl rfl).2 k_406 s_Hl_narrow q_Hl_narrow (by decide) (Nat.le_of_ble_eq_true rfl) (by decide) d_Hl_lay_38 (fun ce1 hc2 => ?_)
  obtain ⟨Fn1, Gn1, rfl, hGn1, lo1, hi1, hFn1, hl1, hh1, hq1⟩ := hc2
  rw [hFn1, hGn1, fU_sp (by decide)]
  have hr1 : ∀ p : Int, (lo1 ≤ p ∧ p ≤ hi1) ↔ ((0 ≤ p ∧ p ≤ 600) ∧ _) := fun p => by have z := hq1 p; rw [fU_ja (show (11 : Nat) ≠ 12 by decide), fU_hit, fU_hit] at z; exact z
  refine g_aload_n ok d_Hl_lay_41 rfl 0 rfl ?_
  refine g_aload_n ok d_Hl_lay_42 rfl 0 rfl ?_
  refine gI_Hl_yStep ok _ rfl k_207 d_Hl_lay_43 ?_
  refine g_top (y := Fa 231 7) (by show (fU (fU Fa 231 11 lo1) 231 12 hi1) 231 7 = _; rw [fU_ja (show (7 : Nat) ≠ 12 by decide), fU_ja (show (7 : Nat) ≠ 11 by decide)]) ?_
  refine g_aload_n ok d_Hl_lay_46 rfl 0 rfl ?_
  refine gI_Hl_yBase ok _ rfl k_208 d_Hl_lay_47 ?_
  refine g_top (y := Fa 231 8) (by show (fU (fU Fa 231 11 lo1) 231 12 hi1) 231 8 = _; rw [fU_ja (show (8 : Nat) ≠ 12 by decide), fU_ja (show (8 : Nat) ≠ 11 by decide)]) ?_
  refine g_aload_n ok d_Hl_lay_50 rfl 1 rfl ?_
  refine gN_Sh_top ok _ hK k_113 d_Hl_lay_51 ?_
  refine g_top (y := F k 8) (by show (fU (fU Fa 231 11 lo1) 231 12 hi1) k 8 = _; rw [fU_ja (show (8 : Nat) ≠ 12 by decide), fU_ja (show (8 : Nat) ≠ 11 by decide), hfa k 8 (by omega)]) ?_
  refine g_aload_n ok d_Hl_lay_54 rfl 1 rfl ?_
  refine gN_Sh_bottom ok _ hK k_121 d_Hl_lay_55 ?_
  refine g_top (y := F k 10) (by show (fU (fU Fa 231 11 lo1) 231 12 hi1) k 10 = _; rw [fU_ja (show (10 : Nat) ≠ 12 by decide), fU_ja (show (10 : Nat) ≠ 11 by decide), hfa k 10 (by omega)]) ?_
  refine g_callVV (As := [.int (iI (Fa 231 7)), .int (iI (Fa 231 8)), .int (iI (F k 8)), .int (iI (F k 10))]) (st := []) ok _ (c_Hl_narrow (fU (fU Fa 231 11 lo1) 231 12 hi1) G _ _ _ _ (ay ▸ ySt_rng _) (by omega) (by omega) (by omega) (by rw [fU_ja (by decide), fU_hit]; omega) (by rw [fU_hit]; omega) s0 a0 D t ad) k_407 k_7 k_404 cl_Hl (m_Hl (ad := ad) (t := t) (F := (fU (fU Fa 231 11 lo1) 231 12 hi1)) (G := G) rfl).1 (m_Hl rfl).2 k_406 s_Hl_narrow q_Hl_narrow (by decide) (Nat.le_of_ble_eq_true rfl) (by decide) d_Hl_lay_58 (fun ce1 hc3 => ?_)
  obtain ⟨Fn2, Gn2, rfl, hGn2, lo2, hi2, hFn2, hl2, hh2, hq2⟩ := hc3
  rw [hFn2, hGn2, fU_sp (by decide)]
  have hr2 : ∀ p : Int, (lo2 ≤ p ∧ p ≤ hi2) ↔ ((lo1 ≤ p ∧ p ≤ hi1) ∧ _) := fun p => by have z := hq2 p; rw [fU_ja (show (11 : Nat) ≠ 12 by decide), fU_hit, fU_hit] at z; exact z
  refine g_aload_n ok d_Hl_lay_61 rfl 0 rfl ?_
  refine g_aload_n ok d_Hl_lay_62 rfl 0 rfl ?_
  refine gI_Hl_low ok _ rfl k_211 d_Hl_lay_63 ?_
  refine g_top (y := lo2) (by show (fU (fU Fa 231 11 lo2) 231 12 hi2) 231 11 = _; rw [fU_ja (show (11 : Nat) ≠ 12 by decide), fU_hit]) ?_
  refine pI_Hl_first ok _ rfl k_209 d_Hl_lay_66 ?_
  refine g_aload_n ok d_Hl_lay_69 rfl 0 rfl ?_
  refine g_aload_n ok d_Hl_lay_70 rfl 0 rfl ?_
  refine gI_Hl_high ok _ rfl k_212 d_Hl_lay_71 ?_
  refine g_top (y := hi2) (by show (fU (fU (fU Fa 231 11 lo2) 231 12 hi2) 231 9 lo2) 231 12 = _; rw [fU_ja (show (12 : Nat) ≠ 9 by decide), fU_hit]) ?_
  refine pI_Hl_last ok _ rfl k_210 d_Hl_lay_74 ?_
  refine g_aload_n ok d_Hl_lay_77 rfl 0 rfl ?_
  refine g_iconst ok d_Hl_lay_78 ?_
  refine pI_Hl_eventTotal ok _ rfl k_202 d_Hl_lay_79 ?_
  obtain ⟨Fb, hFb⟩ : ∃ Fb, Fb = (fU (fU (fU (fU (fU Fa 231 11 lo2) 231 12 hi2) 231 9 lo2) 231 10 hi2) 231 3 0) := ⟨_, rfl⟩
  rw [← hFb]
  have gfi : Fb 231 9 = lo2 := by rw [hFb, fU_ja (by decide), fU_ja (by decide), fU_hit]
  have gla : Fb 231 10 = hi2 := by rw [hFb, fU_ja (by decide), fU_hit]
  have gev : Fb 231 3 = 0 := by rw [hFb, fU_hit]
  have gxs : Fb 231 5 = Fa 231 5 := by rw [hFb, fU_ja (by decide), fU_ja (by decide), fU_ja (by decide), fU_ja (by decide), fU_ja (by decide)]
  have gys : Fb 231 7 = Fa 231 7 := by rw [hFb, fU_ja (by decide), fU_ja (by decide), fU_ja (by decide), fU_ja (by decide), fU_ja (by decide)]
  have gxb : Fb 231 6 = Fa 231 6 := by rw [hFb, fU_ja (by decide), fU_ja (by decide), fU_ja (by decide), fU_ja (by decide), fU_ja (by decide)]
  have gyb : Fb 231 8 = Fa 231 8 := by rw [hFb, fU_ja (by decide), fU_ja (by decide), fU_ja (by decide), fU_ja (by decide), fU_ja (by decide)]
  have hfb : ∀ a b, a ≠ 231 → Fb a b = F a b := fun a b z => by rw [hFb, fU_ka z, fU_ka z, fU_ka z, fU_ka z, fU_ka z]; exact hfa a b z
  have hOb : hlOk Fb := by unfold hlOk; rw [gxs, gys, gxb, gyb, gfi, gla]; exact ⟨ax ▸ xSt_rng _, ay ▸ ySt_rng _, bxr, bzr, hl2, hh2⟩
  have hIn : ∀ p : Int, hlIn Fb p ↔ (inR (hlX Fb p) (hlY Fb p) ∧ sBox F k (hlX Fb p) (hlY Fb p)) := fun p => by
    have z1 := hr1 p
    have z2 := hr2 p
    have hp : hlX Fb p = p ∨ hlY Fb p = p := lay_p gxs gys gxb gyb ax ay bx bz hd6 p
    unfold hlIn inR sBox
    rw [gfi, gla, z2, z1]
    have e1 : Fa 231 5 * p + Fa 231 6 = hlX Fb p := by unfold hlX; rw [gxs, gxb]
    have e2 : Fa 231 7 * p + Fa 231 8 = hlY Fb p := by unfold hlY; rw [gys, gyb]
    rw [e1, e2]
    omega
  refine g_iconst ok d_Hl_lay_82 ?_
  refine g_istore_n (lv' := [(3, .int (iI 0)), (0, .ref (ad 231)), (1, .ref (ad k)), (2, .int (iI f0))]) ok d_Hl_lay_83 rfl (by decide) rfl ?_
  have L_r : ∀ (n_r : Nat) (r : Int) (F1 : Nat → Nat → Int) (G1 : Nat → Int → Int), (0 ≤ r ∧ r ≤ 4) → (hlF Fb F1) → (∀ a, a ≠ 232 → G1 a = G a) → (0 ≤ F1 231 3 ∧ F1 231 3 ≤ 4 * oC F k r.toNat) → (evOk (G1 232) (F1 231 3)) → (∀ p : Int, cnI (hlIn Fb p) (lOn F G k (hlX Fb p) (hlY Fb p)) (lCr F G k (hlX Fb p) (hlY Fb p)) (fun q => F (k + 3 + 3 * q) 2) r.toNat 0 (evO (G1 232) (F1 231 3) p) (evF (G1 232) (F1 231 3) p)) → (5 - r) < (n_r : Int) → gW p l e R s m args below meth c (MQ below (gQv D A ad 265 (fun ce' => ∃ F' G', ce' = mem ad t F' G' ∧ (fun F' G' => ∃ L : List (Int × Int), L.length ≤ 192 ∧ F' 231 4 = (L.length : Int) ∧ ptR G' L ∧ isRn (fun p => hasC F G k (lX (F k 6) f0 p) (lY (F k 6) f0 p)) L ∧ ((∀ p, F' 231 5 * p + F' 231 6 = lX (F k 6) f0 p) ∧ (∀ p, F' 231 7 * p + F' 231 8 = lY (F k 6) f0 p)) ∧ (∀ a b, a ≠ 231 → F' a b = F a b) ∧ (∀ a, ¬ (232 ≤ a ∧ a ≤ 234) → G' a = G a)) F' G')) args s 0 0 A) D A 7 (gZ) 0 0 ad 265 (mem ad t F1 G1) 84 [(0, .ref (ad 231)), (1, .ref (ad k)), (2, .int (iI f0)), (3, .int (iI r))] [] := by
    intro n_r
    induction n_r with
    | zero =>
      intro r F1 G1 hr hF1 hG1 hn1 hE1 hC1 hm_r
      exact absurd hm_r (by omega)
    | succ n_r ih_r =>
      intro r F1 G1 hr hF1 hG1 hn1 hE1 hC1 hm_r
      refine g_iload_n ok d_Hl_lay_84 rfl 3 rfl ?_
      refine g_iconst ok d_Hl_lay_85 ?_
      refine g_icmp_ge ok 167 d_Hl_lay_86 (by decide) (by omega) (by omega) (fun h4 => ?_) (fun h4 => ?_)
      · refine g_aload_n ok d_Hl_lay_167 rfl 0 rfl ?_
        have hoc4 := hoc r.toNat (by omega)
        have hWh : ∀ p : Int, evW (G1 232) (F1 231 3) p ↔ hasC F G k (hlX Fb p) (hlY Fb p) := fun p => lay_has (hIn p) (by have z := hC1 p; rw [show r.toNat = 4 by omega] at z; exact z)
        refine g_callVV (As := []) (st := []) ok _ (c_Hl_gatherParts F1 G1 (by omega) hE1 (fun t ht z => by have y := ((hWh t).mp z); have y2 := (hIn t).mpr ⟨y.1, y.2.1⟩; unfold hlIn at y2; omega) s0 a0 D t ad) k_446 k_7 k_443 cl_Hl (m_Hl (ad := ad) (t := t) (F := F1) (G := G1) rfl).1 (m_Hl rfl).2 k_445 s_Hl_gatherParts q_Hl_gatherParts (by decide) (Nat.le_of_ble_eq_true rfl) (by decide) d_Hl_lay_168 (fun ce1 hc5 => ?_)
        obtain ⟨F4, G4, rfl, L, hL, hF4, hg4, hRn, hpt⟩ := hc5
        exact g_vret ok d_Hl_lay_171 ⟨_, _, rfl, L, hL, by rw [hF4, fU_hit], hpt, lay_rn hRn (fun p => by rw [hWh p, lay_x gxs gxb ax bx hd6 p, lay_y gys gyb ay bz hd6 p]), ⟨fun p => by rw [← lay_x gxs gxb ax bx hd6 p]; unfold hlX; rw [hF4, fU_ja (by decide), fU_ja (by decide), hF1 231 5 (by decide), hF1 231 6 (by decide)], fun p => by rw [← lay_y gys gyb ay bz hd6 p]; unfold hlY; rw [hF4, fU_ja (by decide), fU_ja (by decide), hF1 231 7 (by decide), hF1 231 8 (by decide)]⟩, fun a b z => by rw [hF4, fU_ka z]; exact (hF1 a b (by omega)).trans (hfb a b z), fun a z => (hg4 a (by omega) (by omega)).trans (hG1 a (by omega))⟩
      · obtain ⟨hsz, hX⟩ := hRs r.toNat (by omega)
        have h24r := h24 r.toNat (by omega)
        have hocr := hoc r.toNat (by omega)
        have hocs := hoc (r.toNat + 1) (by omega)
        have hocq : oC F k (r.toNat + 1) = oC F k r.toNat + F (k + 3 + 3 * r.toNat) 2 := rfl
        have hr32 := rRoom_le ((k + 3 + 3 * r.toNat - 2) % 22)
        have a1 : isA (k + 3 + 3 * r.toNat + 1) (rRoom ((k + 3 + 3 * r.toNat - 2) % 22)) := a_rg (rg_of hK (by omega)) (Or.inl rfl) rfl
        have a2 : isA (k + 3 + 3 * r.toNat + 2) (rRoom ((k + 3 + 3 * r.toNat - 2) % 22)) := a_rg (rg_of hK (by omega)) (Or.inr rfl) rfl
        refine g_aload_n ok d_Hl_lay_89 rfl 1 rfl ?_
        refine gN_Sh_rings ok _ hK k_86 d_Hl_lay_90 ?_
        refine g_iload_n ok d_Hl_lay_93 rfl 3 rfl ?_
        refine h_rings ok _ hK (by omega) d_Hl_lay_94 ?_
        refine g_astore (lv' := [(4, .ref (ad (k + 3 + 3 * (r : Int).toNat))), (0, .ref (ad 231)), (1, .ref (ad k)), (2, .int (iI f0)), (3, .int (iI r))]) ok d_Hl_lay_95 (by decide) rfl ?_
        refine g_iconst ok d_Hl_lay_97 ?_
        refine g_istore (lv' := [(5, .int (iI 0)), (4, .ref (ad (k + 3 + 3 * (r : Int).toNat))), (0, .ref (ad 231)), (1, .ref (ad k)), (2, .int (iI f0)), (3, .int (iI r))]) ok d_Hl_lay_98 (by decide) rfl ?_
        have L_i : ∀ (n_i : Nat) (i : Int) (F2 : Nat → Nat → Int) (G2 : Nat → Int → Int), (0 ≤ i ∧ i ≤ F (k + 3 + 3 * r.toNat) 2) → (hlF Fb F2) → (∀ a, a ≠ 232 → G2 a = G a) → (0 ≤ F2 231 3 ∧ F2 231 3 ≤ 4 * (oC F k r.toNat + i)) → (evOk (G2 232) (F2 231 3)) → (∀ p : Int, cnI (hlIn Fb p) (lOn F G k (hlX Fb p) (hlY Fb p)) (lCr F G k (hlX Fb p) (hlY Fb p)) (fun q => F (k + 3 + 3 * q) 2) r.toNat i (evO (G2 232) (F2 231 3) p) (evF (G2 232) (F2 231 3) p)) → (F (k + 3 + 3 * r.toNat) 2 + 1 - i) < (n_i : Int) → gW p l e R s m args below meth c (MQ below (gQv D A ad 265 (fun ce' => ∃ F' G', ce' = mem ad t F' G' ∧ (fun F' G' => ∃ L : List (Int × Int), L.length ≤ 192 ∧ F' 231 4 = (L.length : Int) ∧ ptR G' L ∧ isRn (fun p => hasC F G k (lX (F k 6) f0 p) (lY (F k 6) f0 p)) L ∧ ((∀ p, F' 231 5 * p + F' 231 6 = lX (F k 6) f0 p) ∧ (∀ p, F' 231 7 * p + F' 231 8 = lY (F k 6) f0 p)) ∧ (∀ a b, a ≠ 231 → F' a b = F a b) ∧ (∀ a, ¬ (232 ≤ a ∧ a ≤ 234) → G' a = G a)) F' G')) args s 0 0 A) D A 7 (gZ) 0 0 ad 265 (mem ad t F2 G2) 100 [(0, .ref (ad 231)), (1, .ref (ad k)), (2, .int (iI f0)), (3, .int (iI r)), (4, .ref (ad (k + 3 + 3 * (r : Int).toNat))), (5, .int (iI i))] [] := by
          intro n_i
          induction n_i with
          | zero =>
            intro i F2 G2 hi hF2 hG2 hn2 hE2 hC2 hm_i
            exact absurd hm_i (by omega)
          | succ n_i ih_i =>
            intro i F2 G2 hi hF2 hG2 hn2 hE2 hC2 hm_i
            refine g_iload ok d_Hl_lay_100 5 rfl ?_
            refine g_aload ok d_Hl_lay_102 4 rfl ?_
            refine gN_Rg_size ok _ (rg_of hK (by omega)) k_59 d_Hl_lay_104 ?_
            refine g_top (y := F (k + 3 + 3 * (r : Int).toNat) 2) (by show F2 (k + 3 + 3 * (r : Int).toNat) 2 = _; rw [((hF2 (k + 3 + 3 * (r : Int).toNat) 2 (by omega)).trans (hfb (k + 3 + 3 * (r : Int).toNat) 2 (by omega)))]) ?_
            refine g_icmp_ge ok 161 d_Hl_lay_107 (by decide) (by omega) (by omega) (fun h6 => ?_) (fun h6 => ?_)
            · refine g_iinc (lv' := [(3, .int (iI (r + 1))), (0, .ref (ad 231)), (1, .ref (ad k)), (2, .int (iI f0)), (4, .ref (ad (k + 3 + 3 * (r : Int).toNat))), (5, .int (iI i))]) ok d_Hl_lay_161 3 rfl (by decide) rfl ?_
              refine g_goto ok 84 d_Hl_lay_164 (by decide) ?_
              refine g_lv [1, 2, 3, 0] rfl ?_
              exact ih_r (r + 1) F2 G2 (by omega) (hF2) (hG2) (by rw [oC_step hr.1]; omega) (hE2) (fun p => by have z := hC2 p; rw [show i = F (k + 3 + 3 * r.toNat) 2 by omega] at z; rw [show (r + 1).toNat = r.toNat + 1 by omega]; exact cnI_ring z) (by omega)
            · refine g_aload ok d_Hl_lay_110 4 rfl ?_
              refine g_iload ok d_Hl_lay_112 5 rfl ?_
              refine g_callPVN (As := [.int (iI i)]) (st := []) ok _ (c_Rg_next F2 G2 _ _ (rg_of hK (by omega)) (by omega) (by rw [((hF2 (k + 3 + 3 * (r : Int).toNat) 2 (by omega)).trans (hfb (k + 3 + 3 * (r : Int).toNat) 2 (by omega)))]; omega) s0 a0 D t ad) k_421 k_3 k_418 cl_Rg (m_Rg (ad := ad) (t := t) (F := F2) (G := G2) (rg_of hK (by omega))).1 (m_Rg (rg_of hK (by omega))).2 k_420 s_Rg_next q_Rg_next (by decide) (Nat.le_of_ble_eq_true rfl) (by decide) d_Hl_lay_114 (fun z7 hc7 => ?_)
              rw [((hF2 (k + 3 + 3 * (r : Int).toNat) 2 (by omega)).trans (hfb (k + 3 + 3 * (r : Int).toNat) 2 (by omega)))] at hc7
              have hj : z7 = rJ (F (k + 3 + 3 * r.toNat) 2) i := hc7
              have hjr : 0 ≤ z7 ∧ z7 < F (k + 3 + 3 * r.toNat) 2 := by rw [hc7]; split <;> omega
              refine g_istore (lv' := [(6, .int (iI z7)), (0, .ref (ad 231)), (1, .ref (ad k)), (2, .int (iI f0)), (3, .int (iI r)), (4, .ref (ad (k + 3 + 3 * (r : Int).toNat))), (5, .int (iI i))]) ok d_Hl_lay_117 (by decide) rfl ?_
              refine g_aload_n ok d_Hl_lay_119 rfl 1 rfl ?_
              refine g_aload ok d_Hl_lay_120 5 rfl ?_
              refine gN_Rg_xs ok _ (rg_of hK (by omega)) k_47 d_Hl_lay_122 ?_
              refine g_iload ok d_Hl_lay_125 6 rfl ?_
              refine h_iald ok _ a1 (by omega) d_Hl_lay_127 ?_
              refine g_top (y := G ((k + 3 + 3 * (r : Int).toNat) + 1) i) (by show G2 ((k + 3 + 3 * (r : Int).toNat) + 1) i = _; rw [hG2 ((k + 3 + 3 * (r : Int).toNat) + 1) (by omega)]) ?_
              refine g_aload ok d_Hl_lay_128 5 rfl ?_
              refine gN_Rg_ys ok _ (rg_of hK (by omega)) k_52 d_Hl_lay_130 ?_
              refine g_iload ok d_Hl_lay_133 6 rfl ?_
              refine h_iald ok _ a2 (by omega) d_Hl_lay_135 ?_
              refine g_top (y := G ((k + 3 + 3 * (r : Int).toNat) + 2) i) (by show G2 ((k + 3 + 3 * (r : Int).toNat) + 2) i = _; rw [hG2 ((k + 3 + 3 * (r : Int).toNat) + 2) (by omega)]) ?_
              refine g_aload ok d_Hl_lay_136 5 rfl ?_
              refine gN_Rg_xs ok _ (rg_of hK (by omega)) k_47 d_Hl_lay_138 ?_
              refine g_iload ok d_Hl_lay_141 0 rfl ?_
              refine h_iald ok _ a1 (by omega) d_Hl_lay_143 ?_
              refine g_top (y := G ((k + 3 + 3 * (r : Int).toNat) + 1) z7) (by show G2 ((k + 3 + 3 * (r : Int).toNat) + 1) z7 = _; rw [hG2 ((k + 3 + 3 * (r : Int).toNat) + 1) (by omega)]) ?_
              refine g_aload ok d_Hl_lay_144 5 rfl ?_
              refine gN_Rg_ys ok _ (rg_of hK (by omega)) k_52 d_Hl_lay_146 ?_
              refine g_iload ok d_Hl_lay_149 0 rfl ?_
              refine h_iald ok _ a2 (by omega) d_Hl_lay_151 ?_
              refine g_top (y := G ((k + 3 + 3 * (r : Int).toNat) + 2) z7) (by show G2 ((k + 3 + 3 * (r : Int).toNat) + 2) z7 = _; rw [hG2 ((k + 3 + 3 * (r : Int).toNat) + 2) (by omega)]) ?_
              refine g_callVV (As := [.int (iI (G ((k + 3 + 3 * (r : Int).toNat) + 1) i)), .int (iI (G ((k + 3 + 3 * (r : Int).toNat) + 2) i)), .int (iI (G ((k + 3 + 3 * (r : Int).toNat) + 1) z7)), .int (iI (G ((k + 3 + 3 * (r : Int).toNat) + 2) z7))]) (st := []) ok _ (c_Hl_addEdge F2 G2 _ _ _ _ (hX i hi.1 (by omega)) (hX _ hjr.1 hjr.2) (hlOk_up hOb hF2) (by omega) hE2 s0 a0 D t ad) k_425 k_7 k_422 cl_Hl (m_Hl (ad := ad) (t := t) (F := F2) (G := G2) rfl).1 (m_Hl rfl).2 k_424 s_Hl_addEdge q_Hl_addEdge (by decide) (Nat.le_of_ble_eq_true rfl) (by decide) d_Hl_lay_152 (fun ce1 hc8 => ?_)
              obtain ⟨F3, G3, rfl, af, ag, an, ae, ac⟩ := hc8
              rw [hj] at ac
              have hF3 : hlF Fb F3 := fun a b z => (af a b z).trans (hF2 a b z)
              have hG3 : ∀ a, a ≠ 232 → G3 a = G a := fun a z => (ag a z).trans (hG2 a z)
              have hC3 : ∀ p : Int, cnI (hlIn Fb p) (lOn F G k (hlX Fb p) (hlY Fb p)) (lCr F G k (hlX Fb p) (hlY Fb p)) (fun q => F (k + 3 + 3 * q) 2) r.toNat (i + 1) (evO (G3 232) (F3 231 3) p) (evF (G3 232) (F3 231 3) p) := fun p => cnI_step hi.1 (hC2 p) (by have z := (ac p).1; rw [hlIn_up hF2, hlX_up hF2, hlY_up hF2] at z; exact z) (by have z := (ac p).2; rw [hlIn_up hF2, hlX_up hF2, hlY_up hF2] at z; exact z)
              refine g_iinc (lv' := [(5, .int (iI (i + 1))), (6, .int (iI z7)), (0, .ref (ad 231)), (1, .ref (ad k)), (2, .int (iI f0)), (3, .int (iI r)), (4, .ref (ad (k + 3 + 3 * (r : Int).toNat)))]) ok d_Hl_lay_155 6 rfl (by decide) rfl ?_
              refine g_goto ok 100 d_Hl_lay_158 (by decide) ?_
              refine g_lv [2, 3, 4, 5, 6, 0] rfl ?_
              exact ih_i (i + 1) F3 G3 (by omega) (hF3) (hG3) (by omega) (ae) (hC3) (by omega)
        refine g_z ?_
        refine g_lv [2, 3, 4, 5, 1, 0] rfl ?_
        exact L_i ((F (k + 3 + 3 * r.toNat) 2 + 1 - 0 : Int).toNat + 1) 0 F1 G1 (by omega) (hF1) (hG1) (by omega) (hE1) (hC1) (by omega)
  refine g_z ?_
  refine g_lv [1, 2, 3, 0] rfl ?_
  exact L_r ((5 - 0 : Int).toNat + 1) 0 Fb G (by omega) (fun _ _ _ => rfl) (fun _ _ => rfl) (by rw [gev]; exact ⟨Int.le_refl _, by show (0 : Int) ≤ 4 * 0; decide⟩) (by rw [gev]; exact ⟨fun i j q1 q2 q3 => by omega, fun j q1 q2 => by omega⟩) (fun p => by rw [gev]; exact cnI_0) (by omega)
