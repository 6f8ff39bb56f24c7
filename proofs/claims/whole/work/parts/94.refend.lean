/-! the reference's end -/
theorem gU_id {G : Nat → Int → Int} {k : Nat} {i v : Int} (h : G k i = v) : gU G k i v = G := by
  funext a
  by_cases c : a = k
  · subst c
    funext j
    by_cases d : j = i
    · subst d
      rw [gU_hit, h]
    · rw [gU_i d]
  · exact gU_k _ _ _ c
def cM (G : Nat → Int → Int) (r i x y : Int) : Prop := ∃ q j : Int, ((0 ≤ q ∧ q < r ∧ 0 ≤ j ∧ j < G 246 (40 + q)) ∨ (q = r ∧ 0 ≤ j ∧ j < i)) ∧ x = G 247 (960 + 24 * q + j) ∧ y = G 248 (960 + 24 * q + j)
theorem cM_i {G : Nat → Int → Int} {r i : Int} (hi : 0 ≤ i) (x y : Int) : cM G r (i + 1) x y ↔ (cM G r i x y ∨ (x = G 247 (960 + 24 * r + i) ∧ y = G 248 (960 + 24 * r + i))) := by
  constructor
  · rintro ⟨q, j, h, h2⟩
    by_cases e : q = r ∧ j = i
    · obtain ⟨e1, e2⟩ := e
      subst e1 e2
      exact Or.inr h2
    · exact Or.inl ⟨q, j, by omega, h2⟩
  · rintro (⟨q, j, h, h2⟩ | h)
    · exact ⟨q, j, by omega, h2⟩
    · exact ⟨r, i, by omega, h⟩
theorem cM_n {G : Nat → Int → Int} {r i : Int} (hr : 0 ≤ r) (hi : i = G 246 (40 + r)) (x y : Int) : cM G (r + 1) 0 x y ↔ cM G r i x y := by
  constructor
  · rintro ⟨q, j, h, h2⟩
    rcases h with h | h
    · by_cases e : q = r
      · subst e
        exact ⟨q, j, by omega, h2⟩
      · exact ⟨q, j, by omega, h2⟩
    · omega
  · rintro ⟨q, j, h, h2⟩
    rcases h with h | ⟨e, h⟩
    · exact ⟨q, j, by omega, h2⟩
    · subst e
      exact ⟨q, j, by omega, h2⟩
/-- the copy of an open shape to place s: told and corners of t rings, places of the rings before r and k of ring r -/
def enI (G G2 G1 : Nat → Int → Int) (s t r k : Int) : Prop :=
  (∀ a, ¬ (245 ≤ a ∧ a ≤ 249) → G1 a = G2 a) ∧
  (∀ j : Int, (¬ (4 * s ≤ j ∧ j < 4 * s + t) → G1 245 j = G 245 j ∧ G1 246 j = G 246 j) ∧ (4 * s ≤ j ∧ j < 4 * s + t → G1 245 j = G 245 (40 + (j - 4 * s)) ∧ G1 246 j = G 246 (40 + (j - 4 * s)))) ∧
  (∀ j : Int, ¬ (96 * s ≤ j ∧ j < 96 * s + 96) → G1 247 j = G 247 j ∧ G1 248 j = G 248 j) ∧
  (∀ q j : Int, ((0 ≤ q ∧ q < r ∧ 0 ≤ j ∧ j < G 246 (40 + q)) ∨ (q = r ∧ 0 ≤ j ∧ j < k)) → G1 247 (96 * s + 24 * q + j) = G 247 (960 + 24 * q + j) ∧ G1 248 (96 * s + 24 * q + j) = G 248 (960 + 24 * q + j)) ∧
  (∀ j : Int, ¬ (4 * s ≤ j ∧ j < 4 * s + 4) → G1 249 j = G 249 j) ∧
  ((0 ≤ G1 249 (4 * s) ∧ G1 249 (4 * s) ≤ 600) ∧ (0 ≤ G1 249 (4 * s + 1) ∧ G1 249 (4 * s + 1) ≤ 600) ∧ (0 ≤ G1 249 (4 * s + 2) ∧ G1 249 (4 * s + 2) ≤ 600) ∧ (0 ≤ G1 249 (4 * s + 3) ∧ G1 249 (4 * s + 3) ≤ 600)) ∧
  boxP (cM G r k) (G1 249 (4 * s)) (G1 249 (4 * s + 1)) (G1 249 (4 * s + 2)) (G1 249 (4 * s + 3))
theorem en_0 {G G2 : Nat → Int → Int} {s : Int} (hm : mFr G G2) : enI G G2 (gU (gU (gU (gU G2 249 (4 * s) 600) 249 (4 * s + 1) 600) 249 (4 * s + 2) 0) 249 (4 * s + 3) 0) s 0 0 0 := by
  have e0 : (gU (gU (gU (gU G2 249 (4 * s) 600) 249 (4 * s + 1) 600) 249 (4 * s + 2) 0) 249 (4 * s + 3) 0) 249 (4 * s) = 600 := by
    rw [gU_i (by omega), gU_i (by omega), gU_i (by omega), gU_hit]
  have e1 : (gU (gU (gU (gU G2 249 (4 * s) 600) 249 (4 * s + 1) 600) 249 (4 * s + 2) 0) 249 (4 * s + 3) 0) 249 (4 * s + 1) = 600 := by
    rw [gU_i (by omega), gU_i (by omega), gU_hit]
  have e2 : (gU (gU (gU (gU G2 249 (4 * s) 600) 249 (4 * s + 1) 600) 249 (4 * s + 2) 0) 249 (4 * s + 3) 0) 249 (4 * s + 2) = 0 := by
    rw [gU_i (by omega), gU_hit]
  have e3 : (gU (gU (gU (gU G2 249 (4 * s) 600) 249 (4 * s + 1) 600) 249 (4 * s + 2) 0) 249 (4 * s + 3) 0) 249 (4 * s + 3) = 0 := gU_hit
  have ea : ∀ a, a ≠ 249 → (gU (gU (gU (gU G2 249 (4 * s) 600) 249 (4 * s + 1) 600) 249 (4 * s + 2) 0) 249 (4 * s + 3) 0) a = G2 a := fun a z => by
    rw [gU_k _ _ _ z, gU_k _ _ _ z, gU_k _ _ _ z, gU_k _ _ _ z]
  refine ⟨fun a z => ea a (by omega), fun j => ⟨fun _ => ?_, fun z => by omega⟩, fun j _ => ?_, fun q j z => by omega, fun j z => ?_, ?_, ?_⟩
  · rw [ea 245 (by decide), ea 246 (by decide), hm 245 (by decide), hm 246 (by decide)]
    exact ⟨rfl, rfl⟩
  · rw [ea 247 (by decide), ea 248 (by decide), hm 247 (by decide), hm 248 (by decide)]
    exact ⟨rfl, rfl⟩
  · rw [gU_i (by omega), gU_i (by omega), gU_i (by omega), gU_i (by omega), hm 249 (by decide)]
  · rw [e0, e1, e2, e3]
    decide
  · rw [e0, e1, e2, e3]
    exact ⟨fun x y ⟨q, j, z, _⟩ => by omega, Or.inl rfl, Or.inl rfl, Or.inl rfl, Or.inl rfl⟩
theorem en_told {G G2 G1 : Nat → Int → Int} {s r k : Int} (hs : 0 ≤ s ∧ s ≤ 9) (hr : 0 ≤ r ∧ r < 4) (h : enI G G2 G1 s r r k) : enI G G2 (gU (gU G1 245 (4 * s + r) (G 245 (40 + r))) 246 (4 * s + r) (G 246 (40 + r))) s (r + 1) r k := by
  obtain ⟨h1, h2, h3, h4, h5, h6, h7⟩ := h
  have ea : ∀ a, a ≠ 245 → a ≠ 246 → (gU (gU G1 245 (4 * s + r) (G 245 (40 + r))) 246 (4 * s + r) (G 246 (40 + r))) a = G1 a := fun a z1 z2 => by
    rw [gU_k _ _ _ z2, gU_k _ _ _ z1]
  refine ⟨fun a z => by rw [ea a (by omega) (by omega)]; exact h1 a z, fun j => ⟨fun z => ?_, fun z => ?_⟩, ?_, ?_, ?_, ?_, ?_⟩
  · rw [gU_a (by decide), gU_i (by omega), gU_i (by omega), gU_a (by decide)]
    exact (h2 j).1 (by omega)
  · by_cases e : j = 4 * s + r
    · subst e
      rw [gU_a (by decide), gU_hit, gU_hit, show 40 + (4 * s + r - 4 * s) = 40 + r by omega]
      exact ⟨rfl, rfl⟩
    · rw [gU_a (by decide), gU_i e, gU_i e, gU_a (by decide)]
      exact (h2 j).2 (by omega)
  · rw [ea 247 (by decide) (by decide), ea 248 (by decide) (by decide)]
    exact h3
  · rw [ea 247 (by decide) (by decide), ea 248 (by decide) (by decide)]
    exact h4
  · rw [ea 249 (by decide) (by decide)]
    exact h5
  · rw [ea 249 (by decide) (by decide)]
    exact h6
  · rw [ea 249 (by decide) (by decide)]
    exact h7
theorem en_ring {G G2 G1 : Nat → Int → Int} {s r k : Int} (hr : 0 ≤ r) (hk : k = G 246 (40 + r)) (h : enI G G2 G1 s (r + 1) r k) : enI G G2 G1 s (r + 1) (r + 1) 0 := by
  obtain ⟨h1, h2, h3, h4, h5, h6, h7⟩ := h
  refine ⟨h1, h2, h3, fun q j z => h4 q j ?_, h5, h6, boxP_cong h7 (cM_n hr hk)⟩
  rcases z with z | z
  · by_cases e : q = r
    · subst e
      right
      omega
    · left
      omega
  · omega
theorem en_step {G G2 G1 : Nat → Int → Int} {s t r k X Y : Int} (hs : 0 ≤ s ∧ s ≤ 9) (hr : 0 ≤ r ∧ r < 4) (hk : 0 ≤ k ∧ k < 24) (hX : X = G 247 (960 + 24 * r + k)) (hY : Y = G 248 (960 + 24 * r + k)) (hXr : 0 ≤ X ∧ X ≤ 600) (hYr : 0 ≤ Y ∧ Y ≤ 600) (h : enI G G2 G1 s t r k) : enI G G2 (gU (gU (gU (gU (gU (gU G1 247 (96 * s + 24 * r + k) X) 248 (96 * s + 24 * r + k) Y) 249 (4 * s) (min (G1 249 (4 * s)) X)) 249 (4 * s + 1) (min (G1 249 (4 * s + 1)) Y)) 249 (4 * s + 2) (max (G1 249 (4 * s + 2)) X)) 249 (4 * s + 3) (max (G1 249 (4 * s + 3)) Y)) s t r (k + 1) := by
  obtain ⟨h1, h2, h3, h4, h5, h6, h7⟩ := h
  generalize hg : gU (gU (gU (gU (gU (gU G1 247 (96 * s + 24 * r + k) X) 248 (96 * s + 24 * r + k) Y) 249 (4 * s) (min (G1 249 (4 * s)) X)) 249 (4 * s + 1) (min (G1 249 (4 * s + 1)) Y)) 249 (4 * s + 2) (max (G1 249 (4 * s + 2)) X)) 249 (4 * s + 3) (max (G1 249 (4 * s + 3)) Y) = G3
  have ea : ∀ a, a ≠ 247 → a ≠ 248 → a ≠ 249 → G3 a = G1 a := fun a z1 z2 z3 => by
    rw [← hg, gU_k _ _ _ z3, gU_k _ _ _ z3, gU_k _ _ _ z3, gU_k _ _ _ z3, gU_k _ _ _ z2, gU_k _ _ _ z1]
  have e7 : ∀ j, j ≠ 96 * s + 24 * r + k → G3 247 j = G1 247 j ∧ G3 248 j = G1 248 j := fun j z => by
    rw [← hg, gU_a (by decide), gU_a (by decide), gU_a (by decide), gU_a (by decide), gU_a (by decide), gU_i z, gU_a (by decide), gU_a (by decide), gU_a (by decide), gU_a (by decide), gU_i z, gU_a (by decide)]
    exact ⟨rfl, rfl⟩
  have e8 : G3 247 (96 * s + 24 * r + k) = X ∧ G3 248 (96 * s + 24 * r + k) = Y := by
    rw [← hg, gU_a (by decide), gU_a (by decide), gU_a (by decide), gU_a (by decide), gU_a (by decide), gU_hit, gU_a (by decide), gU_a (by decide), gU_a (by decide), gU_a (by decide), gU_hit]
    exact ⟨rfl, rfl⟩
  have b0 : G3 249 (4 * s) = min (G1 249 (4 * s)) X := by
    rw [← hg, gU_i (by omega), gU_i (by omega), gU_i (by omega), gU_hit]
  have b1 : G3 249 (4 * s + 1) = min (G1 249 (4 * s + 1)) Y := by
    rw [← hg, gU_i (by omega), gU_i (by omega), gU_hit]
  have b2 : G3 249 (4 * s + 2) = max (G1 249 (4 * s + 2)) X := by
    rw [← hg, gU_i (by omega), gU_hit]
  have b3 : G3 249 (4 * s + 3) = max (G1 249 (4 * s + 3)) Y := by
    rw [← hg, gU_hit]
  refine ⟨fun a z => by rw [ea a (by omega) (by omega) (by omega)]; exact h1 a z, ?_, fun j z => ?_, fun q j z => ?_, fun j z => ?_, ?_, ?_⟩
  · rw [ea 245 (by decide) (by decide) (by decide), ea 246 (by decide) (by decide) (by decide)]
    exact h2
  · rw [(e7 j (by omega)).1, (e7 j (by omega)).2]
    exact h3 j z
  · by_cases e : q = r ∧ j = k
    · obtain ⟨a, b⟩ := e
      subst a b
      rw [e8.1, e8.2]
      exact ⟨hX, hY⟩
    · have z' : (0 ≤ q ∧ q < r ∧ 0 ≤ j ∧ j < G 246 (40 + q)) ∨ (q = r ∧ 0 ≤ j ∧ j < k) := by omega
      by_cases w : 96 * s + 24 * q + j = 96 * s + 24 * r + k
      · rw [w, e8.1, e8.2]
        have y := h4 q j z'
        rw [show 960 + 24 * q + j = 960 + 24 * r + k by omega]
        exact ⟨hX, hY⟩
      · rw [(e7 _ w).1, (e7 _ w).2]
        exact h4 q j z'
  · rw [← hg, gU_i (by omega), gU_i (by omega), gU_i (by omega), gU_i (by omega), gU_a (by decide), gU_a (by decide)]
    exact h5 j z
  · rw [b0, b1, b2, b3]
    omega
  · rw [b0, b1, b2, b3]
    exact boxP_cong (boxP_add h7 X Y) (fun x y => (cM_i hk.1 x y).trans (by rw [hX, hY]))
theorem mFault_rng {G : Nat → Int → Int} {z a b : Int} (h : mFault G z a b) : 0 ≤ z ∧ z ≤ 4 := by
  unfold mFault at h
  rcases h with h | h | ⟨-, -, G1, -, h⟩
  · have := h.1
    omega
  · have := h.2.2.1
    omega
  · rcases h with h | ⟨-, h⟩
    · have := h.1
      omega
    · omega
theorem d_Mo_end_0 : decode b_Mo_end 0 = .ok (.aload_n 0, 1) := by decide +kernel
theorem d_Mo_end_1 : decode b_Mo_end 1 = .ok (.aload_n 0, 1) := by decide +kernel
theorem d_Mo_end_2 : decode b_Mo_end 2 = .ok (.getfield 16, 3) := by decide +kernel
theorem d_Mo_end_5 : decode b_Mo_end 5 = .ok (.ifCond .eq 7, 3) := by decide +kernel
theorem d_Mo_end_8 : decode b_Mo_end 8 = .ok (.iconst 0, 1) := by decide +kernel
theorem d_Mo_end_9 : decode b_Mo_end 9 = .ok (.goto 4, 3) := by decide +kernel
theorem d_Mo_end_12 : decode b_Mo_end 12 = .ok (.iconst 1, 1) := by decide +kernel
theorem d_Mo_end_13 : decode b_Mo_end 13 = .ok (.putfield 7, 3) := by decide +kernel
theorem d_Mo_end_16 : decode b_Mo_end 16 = .ok (.aload_n 0, 1) := by decide +kernel
theorem d_Mo_end_17 : decode b_Mo_end 17 = .ok (.getfield 7, 3) := by decide +kernel
theorem d_Mo_end_20 : decode b_Mo_end 20 = .ok (.ifCond .eq 5, 3) := by decide +kernel
theorem d_Mo_end_23 : decode b_Mo_end 23 = .ok (.iconst 0, 1) := by decide +kernel
theorem d_Mo_end_24 : decode b_Mo_end 24 = .ok (.ireturn, 1) := by decide +kernel
theorem d_Mo_end_25 : decode b_Mo_end 25 = .ok (.aload_n 0, 1) := by decide +kernel
theorem d_Mo_end_26 : decode b_Mo_end 26 = .ok (.iconst 0, 1) := by decide +kernel
theorem d_Mo_end_27 : decode b_Mo_end 27 = .ok (.putfield 16, 3) := by decide +kernel
theorem d_Mo_end_30 : decode b_Mo_end 30 = .ok (.aload_n 0, 1) := by decide +kernel
theorem d_Mo_end_31 : decode b_Mo_end 31 = .ok (.iconst (-1), 1) := by decide +kernel
theorem d_Mo_end_32 : decode b_Mo_end 32 = .ok (.putfield 42, 3) := by decide +kernel
theorem d_Mo_end_35 : decode b_Mo_end 35 = .ok (.aload_n 0, 1) := by decide +kernel
theorem d_Mo_end_36 : decode b_Mo_end 36 = .ok (.iconst (-1), 1) := by decide +kernel
theorem d_Mo_end_37 : decode b_Mo_end 37 = .ok (.putfield 45, 3) := by decide +kernel
theorem d_Mo_end_40 : decode b_Mo_end 40 = .ok (.aload_n 0, 1) := by decide +kernel
theorem d_Mo_end_41 : decode b_Mo_end 41 = .ok (.aload_n 0, 1) := by decide +kernel
theorem d_Mo_end_42 : decode b_Mo_end 42 = .ok (.invokevirtual 226, 3) := by decide +kernel
theorem d_Mo_end_45 : decode b_Mo_end 45 = .ok (.putfield 39, 3) := by decide +kernel
theorem d_Mo_end_48 : decode b_Mo_end 48 = .ok (.aload_n 0, 1) := by decide +kernel
theorem d_Mo_end_49 : decode b_Mo_end 49 = .ok (.getfield 39, 3) := by decide +kernel
theorem d_Mo_end_52 : decode b_Mo_end 52 = .ok (.ifCond .eq 8, 3) := by decide +kernel
theorem d_Mo_end_55 : decode b_Mo_end 55 = .ok (.aload_n 0, 1) := by decide +kernel
theorem d_Mo_end_56 : decode b_Mo_end 56 = .ok (.getfield 39, 3) := by decide +kernel
theorem d_Mo_end_59 : decode b_Mo_end 59 = .ok (.ireturn, 1) := by decide +kernel
theorem d_Mo_end_60 : decode b_Mo_end 60 = .ok (.aload_n 0, 1) := by decide +kernel
theorem d_Mo_end_61 : decode b_Mo_end 61 = .ok (.getfield 13, 3) := by decide +kernel
theorem d_Mo_end_64 : decode b_Mo_end 64 = .ok (.istore_n 1, 1) := by decide +kernel
theorem d_Mo_end_65 : decode b_Mo_end 65 = .ok (.aload_n 0, 1) := by decide +kernel
theorem d_Mo_end_66 : decode b_Mo_end 66 = .ok (.getfield 33, 3) := by decide +kernel
theorem d_Mo_end_69 : decode b_Mo_end 69 = .ok (.iconst 4, 1) := by decide +kernel
theorem d_Mo_end_70 : decode b_Mo_end 70 = .ok (.iload_n 1, 1) := by decide +kernel
theorem d_Mo_end_71 : decode b_Mo_end 71 = .ok (.imul, 1) := by decide +kernel
theorem d_Mo_end_72 : decode b_Mo_end 72 = .ok (.sipush 600, 3) := by decide +kernel
theorem d_Mo_end_75 : decode b_Mo_end 75 = .ok (.iastore, 1) := by decide +kernel
theorem d_Mo_end_76 : decode b_Mo_end 76 = .ok (.aload_n 0, 1) := by decide +kernel
theorem d_Mo_end_77 : decode b_Mo_end 77 = .ok (.getfield 33, 3) := by decide +kernel
theorem d_Mo_end_80 : decode b_Mo_end 80 = .ok (.iconst 4, 1) := by decide +kernel
theorem d_Mo_end_81 : decode b_Mo_end 81 = .ok (.iload_n 1, 1) := by decide +kernel
theorem d_Mo_end_82 : decode b_Mo_end 82 = .ok (.imul, 1) := by decide +kernel
theorem d_Mo_end_83 : decode b_Mo_end 83 = .ok (.iconst 1, 1) := by decide +kernel
theorem d_Mo_end_84 : decode b_Mo_end 84 = .ok (.iadd, 1) := by decide +kernel
theorem d_Mo_end_85 : decode b_Mo_end 85 = .ok (.sipush 600, 3) := by decide +kernel
theorem d_Mo_end_88 : decode b_Mo_end 88 = .ok (.iastore, 1) := by decide +kernel
theorem d_Mo_end_89 : decode b_Mo_end 89 = .ok (.aload_n 0, 1) := by decide +kernel
theorem d_Mo_end_90 : decode b_Mo_end 90 = .ok (.getfield 33, 3) := by decide +kernel
theorem d_Mo_end_93 : decode b_Mo_end 93 = .ok (.iconst 4, 1) := by decide +kernel
theorem d_Mo_end_94 : decode b_Mo_end 94 = .ok (.iload_n 1, 1) := by decide +kernel
theorem d_Mo_end_95 : decode b_Mo_end 95 = .ok (.imul, 1) := by decide +kernel
theorem d_Mo_end_96 : decode b_Mo_end 96 = .ok (.iconst 2, 1) := by decide +kernel
theorem d_Mo_end_97 : decode b_Mo_end 97 = .ok (.iadd, 1) := by decide +kernel
theorem d_Mo_end_98 : decode b_Mo_end 98 = .ok (.iconst 0, 1) := by decide +kernel
theorem d_Mo_end_99 : decode b_Mo_end 99 = .ok (.iastore, 1) := by decide +kernel
theorem d_Mo_end_100 : decode b_Mo_end 100 = .ok (.aload_n 0, 1) := by decide +kernel
theorem d_Mo_end_101 : decode b_Mo_end 101 = .ok (.getfield 33, 3) := by decide +kernel
theorem d_Mo_end_104 : decode b_Mo_end 104 = .ok (.iconst 4, 1) := by decide +kernel
theorem d_Mo_end_105 : decode b_Mo_end 105 = .ok (.iload_n 1, 1) := by decide +kernel
theorem d_Mo_end_106 : decode b_Mo_end 106 = .ok (.imul, 1) := by decide +kernel
theorem d_Mo_end_107 : decode b_Mo_end 107 = .ok (.iconst 3, 1) := by decide +kernel
theorem d_Mo_end_108 : decode b_Mo_end 108 = .ok (.iadd, 1) := by decide +kernel
theorem d_Mo_end_109 : decode b_Mo_end 109 = .ok (.iconst 0, 1) := by decide +kernel
theorem d_Mo_end_110 : decode b_Mo_end 110 = .ok (.iastore, 1) := by decide +kernel
theorem d_Mo_end_111 : decode b_Mo_end 111 = .ok (.iconst 0, 1) := by decide +kernel
theorem d_Mo_end_112 : decode b_Mo_end 112 = .ok (.istore_n 2, 1) := by decide +kernel
theorem d_Mo_end_113 : decode b_Mo_end 113 = .ok (.iload_n 2, 1) := by decide +kernel
theorem d_Mo_end_114 : decode b_Mo_end 114 = .ok (.iconst 4, 1) := by decide +kernel
theorem d_Mo_end_115 : decode b_Mo_end 115 = .ok (.if_icmp .ge 242, 3) := by decide +kernel
theorem d_Mo_end_118 : decode b_Mo_end 118 = .ok (.aload_n 0, 1) := by decide +kernel
theorem d_Mo_end_119 : decode b_Mo_end 119 = .ok (.getfield 20, 3) := by decide +kernel
theorem d_Mo_end_122 : decode b_Mo_end 122 = .ok (.iconst 4, 1) := by decide +kernel
theorem d_Mo_end_123 : decode b_Mo_end 123 = .ok (.iload_n 1, 1) := by decide +kernel
theorem d_Mo_end_124 : decode b_Mo_end 124 = .ok (.imul, 1) := by decide +kernel
theorem d_Mo_end_125 : decode b_Mo_end 125 = .ok (.iload_n 2, 1) := by decide +kernel
theorem d_Mo_end_126 : decode b_Mo_end 126 = .ok (.iadd, 1) := by decide +kernel
theorem d_Mo_end_127 : decode b_Mo_end 127 = .ok (.aload_n 0, 1) := by decide +kernel
theorem d_Mo_end_128 : decode b_Mo_end 128 = .ok (.getfield 20, 3) := by decide +kernel
theorem d_Mo_end_131 : decode b_Mo_end 131 = .ok (.bipush 40, 2) := by decide +kernel
theorem d_Mo_end_133 : decode b_Mo_end 133 = .ok (.iload_n 2, 1) := by decide +kernel
theorem d_Mo_end_134 : decode b_Mo_end 134 = .ok (.iadd, 1) := by decide +kernel
theorem d_Mo_end_135 : decode b_Mo_end 135 = .ok (.iaload, 1) := by decide +kernel
theorem d_Mo_end_136 : decode b_Mo_end 136 = .ok (.iastore, 1) := by decide +kernel
theorem d_Mo_end_137 : decode b_Mo_end 137 = .ok (.aload_n 0, 1) := by decide +kernel
theorem d_Mo_end_138 : decode b_Mo_end 138 = .ok (.getfield 24, 3) := by decide +kernel
theorem d_Mo_end_141 : decode b_Mo_end 141 = .ok (.iconst 4, 1) := by decide +kernel
theorem d_Mo_end_142 : decode b_Mo_end 142 = .ok (.iload_n 1, 1) := by decide +kernel
theorem d_Mo_end_143 : decode b_Mo_end 143 = .ok (.imul, 1) := by decide +kernel
theorem d_Mo_end_144 : decode b_Mo_end 144 = .ok (.iload_n 2, 1) := by decide +kernel
theorem d_Mo_end_145 : decode b_Mo_end 145 = .ok (.iadd, 1) := by decide +kernel
theorem d_Mo_end_146 : decode b_Mo_end 146 = .ok (.aload_n 0, 1) := by decide +kernel
theorem d_Mo_end_147 : decode b_Mo_end 147 = .ok (.getfield 24, 3) := by decide +kernel
theorem d_Mo_end_150 : decode b_Mo_end 150 = .ok (.bipush 40, 2) := by decide +kernel
theorem d_Mo_end_152 : decode b_Mo_end 152 = .ok (.iload_n 2, 1) := by decide +kernel
theorem d_Mo_end_153 : decode b_Mo_end 153 = .ok (.iadd, 1) := by decide +kernel
theorem d_Mo_end_154 : decode b_Mo_end 154 = .ok (.iaload, 1) := by decide +kernel
theorem d_Mo_end_155 : decode b_Mo_end 155 = .ok (.iastore, 1) := by decide +kernel
theorem d_Mo_end_156 : decode b_Mo_end 156 = .ok (.iconst 0, 1) := by decide +kernel
theorem d_Mo_end_157 : decode b_Mo_end 157 = .ok (.istore_n 3, 1) := by decide +kernel
theorem d_Mo_end_158 : decode b_Mo_end 158 = .ok (.iload_n 3, 1) := by decide +kernel
theorem d_Mo_end_159 : decode b_Mo_end 159 = .ok (.aload_n 0, 1) := by decide +kernel
theorem d_Mo_end_160 : decode b_Mo_end 160 = .ok (.getfield 24, 3) := by decide +kernel
theorem d_Mo_end_163 : decode b_Mo_end 163 = .ok (.bipush 40, 2) := by decide +kernel
theorem d_Mo_end_165 : decode b_Mo_end 165 = .ok (.iload_n 2, 1) := by decide +kernel
theorem d_Mo_end_166 : decode b_Mo_end 166 = .ok (.iadd, 1) := by decide +kernel
theorem d_Mo_end_167 : decode b_Mo_end 167 = .ok (.iaload, 1) := by decide +kernel
theorem d_Mo_end_168 : decode b_Mo_end 168 = .ok (.if_icmp .ge 183, 3) := by decide +kernel
theorem d_Mo_end_171 : decode b_Mo_end 171 = .ok (.aload_n 0, 1) := by decide +kernel
theorem d_Mo_end_172 : decode b_Mo_end 172 = .ok (.getfield 27, 3) := by decide +kernel
theorem d_Mo_end_175 : decode b_Mo_end 175 = .ok (.sipush 960, 3) := by decide +kernel
theorem d_Mo_end_178 : decode b_Mo_end 178 = .ok (.bipush 24, 2) := by decide +kernel
theorem d_Mo_end_180 : decode b_Mo_end 180 = .ok (.iload_n 2, 1) := by decide +kernel
theorem d_Mo_end_181 : decode b_Mo_end 181 = .ok (.imul, 1) := by decide +kernel
theorem d_Mo_end_182 : decode b_Mo_end 182 = .ok (.iadd, 1) := by decide +kernel
theorem d_Mo_end_183 : decode b_Mo_end 183 = .ok (.iload_n 3, 1) := by decide +kernel
theorem d_Mo_end_184 : decode b_Mo_end 184 = .ok (.iadd, 1) := by decide +kernel
theorem d_Mo_end_185 : decode b_Mo_end 185 = .ok (.iaload, 1) := by decide +kernel
theorem d_Mo_end_186 : decode b_Mo_end 186 = .ok (.istore 4, 2) := by decide +kernel
theorem d_Mo_end_188 : decode b_Mo_end 188 = .ok (.aload_n 0, 1) := by decide +kernel
theorem d_Mo_end_189 : decode b_Mo_end 189 = .ok (.getfield 30, 3) := by decide +kernel
theorem d_Mo_end_192 : decode b_Mo_end 192 = .ok (.sipush 960, 3) := by decide +kernel
theorem d_Mo_end_195 : decode b_Mo_end 195 = .ok (.bipush 24, 2) := by decide +kernel
theorem d_Mo_end_197 : decode b_Mo_end 197 = .ok (.iload_n 2, 1) := by decide +kernel
theorem d_Mo_end_198 : decode b_Mo_end 198 = .ok (.imul, 1) := by decide +kernel
theorem d_Mo_end_199 : decode b_Mo_end 199 = .ok (.iadd, 1) := by decide +kernel
theorem d_Mo_end_200 : decode b_Mo_end 200 = .ok (.iload_n 3, 1) := by decide +kernel
theorem d_Mo_end_201 : decode b_Mo_end 201 = .ok (.iadd, 1) := by decide +kernel
theorem d_Mo_end_202 : decode b_Mo_end 202 = .ok (.iaload, 1) := by decide +kernel
theorem d_Mo_end_203 : decode b_Mo_end 203 = .ok (.istore 5, 2) := by decide +kernel
theorem d_Mo_end_205 : decode b_Mo_end 205 = .ok (.aload_n 0, 1) := by decide +kernel
theorem d_Mo_end_206 : decode b_Mo_end 206 = .ok (.getfield 27, 3) := by decide +kernel
theorem d_Mo_end_209 : decode b_Mo_end 209 = .ok (.bipush 96, 2) := by decide +kernel
theorem d_Mo_end_211 : decode b_Mo_end 211 = .ok (.iload_n 1, 1) := by decide +kernel
theorem d_Mo_end_212 : decode b_Mo_end 212 = .ok (.imul, 1) := by decide +kernel
theorem d_Mo_end_213 : decode b_Mo_end 213 = .ok (.bipush 24, 2) := by decide +kernel
theorem d_Mo_end_215 : decode b_Mo_end 215 = .ok (.iload_n 2, 1) := by decide +kernel
theorem d_Mo_end_216 : decode b_Mo_end 216 = .ok (.imul, 1) := by decide +kernel
theorem d_Mo_end_217 : decode b_Mo_end 217 = .ok (.iadd, 1) := by decide +kernel
theorem d_Mo_end_218 : decode b_Mo_end 218 = .ok (.iload_n 3, 1) := by decide +kernel
theorem d_Mo_end_219 : decode b_Mo_end 219 = .ok (.iadd, 1) := by decide +kernel
theorem d_Mo_end_220 : decode b_Mo_end 220 = .ok (.iload 4, 2) := by decide +kernel
theorem d_Mo_end_222 : decode b_Mo_end 222 = .ok (.iastore, 1) := by decide +kernel
theorem d_Mo_end_223 : decode b_Mo_end 223 = .ok (.aload_n 0, 1) := by decide +kernel
theorem d_Mo_end_224 : decode b_Mo_end 224 = .ok (.getfield 30, 3) := by decide +kernel
theorem d_Mo_end_227 : decode b_Mo_end 227 = .ok (.bipush 96, 2) := by decide +kernel
theorem d_Mo_end_229 : decode b_Mo_end 229 = .ok (.iload_n 1, 1) := by decide +kernel
theorem d_Mo_end_230 : decode b_Mo_end 230 = .ok (.imul, 1) := by decide +kernel
theorem d_Mo_end_231 : decode b_Mo_end 231 = .ok (.bipush 24, 2) := by decide +kernel
theorem d_Mo_end_233 : decode b_Mo_end 233 = .ok (.iload_n 2, 1) := by decide +kernel
theorem d_Mo_end_234 : decode b_Mo_end 234 = .ok (.imul, 1) := by decide +kernel
theorem d_Mo_end_235 : decode b_Mo_end 235 = .ok (.iadd, 1) := by decide +kernel
theorem d_Mo_end_236 : decode b_Mo_end 236 = .ok (.iload_n 3, 1) := by decide +kernel
theorem d_Mo_end_237 : decode b_Mo_end 237 = .ok (.iadd, 1) := by decide +kernel
theorem d_Mo_end_238 : decode b_Mo_end 238 = .ok (.iload 5, 2) := by decide +kernel
theorem d_Mo_end_240 : decode b_Mo_end 240 = .ok (.iastore, 1) := by decide +kernel
theorem d_Mo_end_241 : decode b_Mo_end 241 = .ok (.iload 4, 2) := by decide +kernel
theorem d_Mo_end_243 : decode b_Mo_end 243 = .ok (.aload_n 0, 1) := by decide +kernel
theorem d_Mo_end_244 : decode b_Mo_end 244 = .ok (.getfield 33, 3) := by decide +kernel
theorem d_Mo_end_247 : decode b_Mo_end 247 = .ok (.iconst 4, 1) := by decide +kernel
theorem d_Mo_end_248 : decode b_Mo_end 248 = .ok (.iload_n 1, 1) := by decide +kernel
theorem d_Mo_end_249 : decode b_Mo_end 249 = .ok (.imul, 1) := by decide +kernel
theorem d_Mo_end_250 : decode b_Mo_end 250 = .ok (.iaload, 1) := by decide +kernel
theorem d_Mo_end_251 : decode b_Mo_end 251 = .ok (.if_icmp .ge 13, 3) := by decide +kernel
theorem d_Mo_end_254 : decode b_Mo_end 254 = .ok (.aload_n 0, 1) := by decide +kernel
theorem d_Mo_end_255 : decode b_Mo_end 255 = .ok (.getfield 33, 3) := by decide +kernel
theorem d_Mo_end_258 : decode b_Mo_end 258 = .ok (.iconst 4, 1) := by decide +kernel
theorem d_Mo_end_259 : decode b_Mo_end 259 = .ok (.iload_n 1, 1) := by decide +kernel
theorem d_Mo_end_260 : decode b_Mo_end 260 = .ok (.imul, 1) := by decide +kernel
theorem d_Mo_end_261 : decode b_Mo_end 261 = .ok (.iload 4, 2) := by decide +kernel
theorem d_Mo_end_263 : decode b_Mo_end 263 = .ok (.iastore, 1) := by decide +kernel
theorem d_Mo_end_264 : decode b_Mo_end 264 = .ok (.iload 5, 2) := by decide +kernel
theorem d_Mo_end_266 : decode b_Mo_end 266 = .ok (.aload_n 0, 1) := by decide +kernel
theorem d_Mo_end_267 : decode b_Mo_end 267 = .ok (.getfield 33, 3) := by decide +kernel
theorem d_Mo_end_270 : decode b_Mo_end 270 = .ok (.iconst 4, 1) := by decide +kernel
theorem d_Mo_end_271 : decode b_Mo_end 271 = .ok (.iload_n 1, 1) := by decide +kernel
theorem d_Mo_end_272 : decode b_Mo_end 272 = .ok (.imul, 1) := by decide +kernel
theorem d_Mo_end_273 : decode b_Mo_end 273 = .ok (.iconst 1, 1) := by decide +kernel
theorem d_Mo_end_274 : decode b_Mo_end 274 = .ok (.iadd, 1) := by decide +kernel
theorem d_Mo_end_275 : decode b_Mo_end 275 = .ok (.iaload, 1) := by decide +kernel
theorem d_Mo_end_276 : decode b_Mo_end 276 = .ok (.if_icmp .ge 15, 3) := by decide +kernel
theorem d_Mo_end_279 : decode b_Mo_end 279 = .ok (.aload_n 0, 1) := by decide +kernel
theorem d_Mo_end_280 : decode b_Mo_end 280 = .ok (.getfield 33, 3) := by decide +kernel
theorem d_Mo_end_283 : decode b_Mo_end 283 = .ok (.iconst 4, 1) := by decide +kernel
theorem d_Mo_end_284 : decode b_Mo_end 284 = .ok (.iload_n 1, 1) := by decide +kernel
theorem d_Mo_end_285 : decode b_Mo_end 285 = .ok (.imul, 1) := by decide +kernel
theorem d_Mo_end_286 : decode b_Mo_end 286 = .ok (.iconst 1, 1) := by decide +kernel
theorem d_Mo_end_287 : decode b_Mo_end 287 = .ok (.iadd, 1) := by decide +kernel
theorem d_Mo_end_288 : decode b_Mo_end 288 = .ok (.iload 5, 2) := by decide +kernel
theorem d_Mo_end_290 : decode b_Mo_end 290 = .ok (.iastore, 1) := by decide +kernel
theorem d_Mo_end_291 : decode b_Mo_end 291 = .ok (.iload 4, 2) := by decide +kernel
theorem d_Mo_end_293 : decode b_Mo_end 293 = .ok (.aload_n 0, 1) := by decide +kernel
theorem d_Mo_end_294 : decode b_Mo_end 294 = .ok (.getfield 33, 3) := by decide +kernel
theorem d_Mo_end_297 : decode b_Mo_end 297 = .ok (.iconst 4, 1) := by decide +kernel
theorem d_Mo_end_298 : decode b_Mo_end 298 = .ok (.iload_n 1, 1) := by decide +kernel
theorem d_Mo_end_299 : decode b_Mo_end 299 = .ok (.imul, 1) := by decide +kernel
theorem d_Mo_end_300 : decode b_Mo_end 300 = .ok (.iconst 2, 1) := by decide +kernel
theorem d_Mo_end_301 : decode b_Mo_end 301 = .ok (.iadd, 1) := by decide +kernel
theorem d_Mo_end_302 : decode b_Mo_end 302 = .ok (.iaload, 1) := by decide +kernel
theorem d_Mo_end_303 : decode b_Mo_end 303 = .ok (.if_icmp .le 15, 3) := by decide +kernel
theorem d_Mo_end_306 : decode b_Mo_end 306 = .ok (.aload_n 0, 1) := by decide +kernel
theorem d_Mo_end_307 : decode b_Mo_end 307 = .ok (.getfield 33, 3) := by decide +kernel
theorem d_Mo_end_310 : decode b_Mo_end 310 = .ok (.iconst 4, 1) := by decide +kernel
theorem d_Mo_end_311 : decode b_Mo_end 311 = .ok (.iload_n 1, 1) := by decide +kernel
theorem d_Mo_end_312 : decode b_Mo_end 312 = .ok (.imul, 1) := by decide +kernel
theorem d_Mo_end_313 : decode b_Mo_end 313 = .ok (.iconst 2, 1) := by decide +kernel
theorem d_Mo_end_314 : decode b_Mo_end 314 = .ok (.iadd, 1) := by decide +kernel
theorem d_Mo_end_315 : decode b_Mo_end 315 = .ok (.iload 4, 2) := by decide +kernel
theorem d_Mo_end_317 : decode b_Mo_end 317 = .ok (.iastore, 1) := by decide +kernel
theorem d_Mo_end_318 : decode b_Mo_end 318 = .ok (.iload 5, 2) := by decide +kernel
theorem d_Mo_end_320 : decode b_Mo_end 320 = .ok (.aload_n 0, 1) := by decide +kernel
theorem d_Mo_end_321 : decode b_Mo_end 321 = .ok (.getfield 33, 3) := by decide +kernel
theorem d_Mo_end_324 : decode b_Mo_end 324 = .ok (.iconst 4, 1) := by decide +kernel
theorem d_Mo_end_325 : decode b_Mo_end 325 = .ok (.iload_n 1, 1) := by decide +kernel
theorem d_Mo_end_326 : decode b_Mo_end 326 = .ok (.imul, 1) := by decide +kernel
theorem d_Mo_end_327 : decode b_Mo_end 327 = .ok (.iconst 3, 1) := by decide +kernel
theorem d_Mo_end_328 : decode b_Mo_end 328 = .ok (.iadd, 1) := by decide +kernel
theorem d_Mo_end_329 : decode b_Mo_end 329 = .ok (.iaload, 1) := by decide +kernel
theorem d_Mo_end_330 : decode b_Mo_end 330 = .ok (.if_icmp .le 15, 3) := by decide +kernel
theorem d_Mo_end_333 : decode b_Mo_end 333 = .ok (.aload_n 0, 1) := by decide +kernel
theorem d_Mo_end_334 : decode b_Mo_end 334 = .ok (.getfield 33, 3) := by decide +kernel
theorem d_Mo_end_337 : decode b_Mo_end 337 = .ok (.iconst 4, 1) := by decide +kernel
theorem d_Mo_end_338 : decode b_Mo_end 338 = .ok (.iload_n 1, 1) := by decide +kernel
theorem d_Mo_end_339 : decode b_Mo_end 339 = .ok (.imul, 1) := by decide +kernel
theorem d_Mo_end_340 : decode b_Mo_end 340 = .ok (.iconst 3, 1) := by decide +kernel
theorem d_Mo_end_341 : decode b_Mo_end 341 = .ok (.iadd, 1) := by decide +kernel
theorem d_Mo_end_342 : decode b_Mo_end 342 = .ok (.iload 5, 2) := by decide +kernel
theorem d_Mo_end_344 : decode b_Mo_end 344 = .ok (.iastore, 1) := by decide +kernel
theorem d_Mo_end_345 : decode b_Mo_end 345 = .ok (.iinc 3 1, 3) := by decide +kernel
theorem d_Mo_end_348 : decode b_Mo_end 348 = .ok (.goto (-190), 3) := by decide +kernel
theorem d_Mo_end_351 : decode b_Mo_end 351 = .ok (.iinc 2 1, 3) := by decide +kernel
theorem d_Mo_end_354 : decode b_Mo_end 354 = .ok (.goto (-241), 3) := by decide +kernel
theorem d_Mo_end_357 : decode b_Mo_end 357 = .ok (.aload_n 0, 1) := by decide +kernel
theorem d_Mo_end_358 : decode b_Mo_end 358 = .ok (.getfield 36, 3) := by decide +kernel
theorem d_Mo_end_361 : decode b_Mo_end 361 = .ok (.iload_n 1, 1) := by decide +kernel
theorem d_Mo_end_362 : decode b_Mo_end 362 = .ok (.iload_n 1, 1) := by decide +kernel
theorem d_Mo_end_363 : decode b_Mo_end 363 = .ok (.iastore, 1) := by decide +kernel
theorem d_Mo_end_364 : decode b_Mo_end 364 = .ok (.aload_n 0, 1) := by decide +kernel
theorem d_Mo_end_365 : decode b_Mo_end 365 = .ok (.dup, 1) := by decide +kernel
theorem d_Mo_end_366 : decode b_Mo_end 366 = .ok (.getfield 13, 3) := by decide +kernel
theorem d_Mo_end_369 : decode b_Mo_end 369 = .ok (.iconst 1, 1) := by decide +kernel
theorem d_Mo_end_370 : decode b_Mo_end 370 = .ok (.iadd, 1) := by decide +kernel
theorem d_Mo_end_371 : decode b_Mo_end 371 = .ok (.putfield 13, 3) := by decide +kernel
theorem d_Mo_end_374 : decode b_Mo_end 374 = .ok (.iconst 0, 1) := by decide +kernel
theorem d_Mo_end_375 : decode b_Mo_end 375 = .ok (.ireturn, 1) := by decide +kernel
set_option maxHeartbeats 1000000 in
set_option maxRecDepth 100000 in
theorem c_Mo_end (F : Nat → Nat → Int) (G : Nat → Int → Int) (hn : 0 ≤ F 244 1 ∧ F 244 1 ≤ 9) (hop : F 244 2 = 0 ∨ F 244 2 = 1) (hO : mOk G 10) (hP : mPl G) (h41 : 0 ≤ G 246 41 ∧ G 246 41 ≤ 24) : cI y_Mo_end b_Mo_end 6 (some .int) 5 119 F G (fun ad => [.ref (ad 244)]) (fun z F' G' => ((F 244 2 = 0 ∧ F' = fU F 244 0 1 ∧ G' = G) ∨ (F 244 2 = 1 ∧ F' 244 0 = 0 ∧ F' 244 2 = 0 ∧ F' 244 9 = z ∧ mFault G z (F' 244 10) (F' 244 11) ∧ ((z ≠ 0 ∧ (∀ a b, ¬ (a = 244 ∧ (b = 0 ∨ b = 2 ∨ b = 9 ∨ b = 10 ∨ b = 11 ∨ b = 12)) → F' a b = F a b) ∧ mFr G G') ∨ (z = 0 ∧ (∀ a b, ¬ (a = 244 ∧ (b = 0 ∨ b = 1 ∨ b = 2 ∨ b = 9 ∨ b = 10 ∨ b = 11 ∨ b = 12)) → F' a b = F a b) ∧ F' 244 1 = F 244 1 + 1 ∧ ∃ G2 G1, mFr G G2 ∧ enI G G2 G1 (F 244 1) 4 4 0 ∧ G' = gU G1 250 (F 244 1) (F 244 1)))))) := by
  have hc24 : ∀ r : Int, 0 ≤ r → r < 4 → 0 ≤ G 246 (40 + r) ∧ G 246 (40 + r) ≤ 24 := fun r z1 z2 => hO.2.1 r z1 z2
  intro s0 a0 D t ad
  refine g_startI (by decide +kernel) (Nat.le_of_ble_eq_true rfl) (fun p l e R s m args below meth c A ok => ?_)
  show gW p l e R s m args below meth c _ D A 6 (gZ0 s) 0 0 ad 265 (mem ad t F G) 0 [(0, .ref (ad 244))] []
  refine g_aload_n ok d_Mo_end_0 rfl 0 rfl ?_
  refine g_aload_n ok d_Mo_end_1 rfl 0 rfl ?_
  refine gI_Mo_open ok _ rfl k_991 d_Mo_end_2 ?_
  refine g_if_eq ok 12 d_Mo_end_5 (by decide) (by omega) (fun h1 => ?_) (fun h1 => ?_)
  · refine g_iconst ok d_Mo_end_12 ?_
    refine pI_Mo_thrownCode ok _ rfl k_989 d_Mo_end_13 ?_
    refine g_aload_n ok d_Mo_end_16 rfl 0 rfl ?_
    refine gI_Mo_thrownCode ok _ rfl k_989 d_Mo_end_17 ?_
    refine g_top (y := 1) (by show (fU F 244 0 1) 244 0 = _; rw [fU_hit]) ?_
    refine g_if_eq ok 25 d_Mo_end_20 (by decide) (by omega) (fun h2 => ?_) (fun h2 => ?_)
    · exact absurd h2 (by decide)
    · refine g_iconst ok d_Mo_end_23 ?_
      exact g_iret ok d_Mo_end_24 ⟨_, _, rfl, Or.inl ⟨by omega, rfl, rfl⟩⟩
  · refine g_iconst ok d_Mo_end_8 ?_
    refine g_goto ok 13 d_Mo_end_9 (by decide) ?_
    refine pI_Mo_thrownCode ok _ rfl k_989 d_Mo_end_13 ?_
    refine g_aload_n ok d_Mo_end_16 rfl 0 rfl ?_
    refine gI_Mo_thrownCode ok _ rfl k_989 d_Mo_end_17 ?_
    refine g_top (y := 0) (by show (fU F 244 0 0) 244 0 = _; rw [fU_hit]) ?_
    refine g_if_eq ok 25 d_Mo_end_20 (by decide) (by omega) (fun h3 => ?_) (fun h3 => ?_)
    · refine g_aload_n ok d_Mo_end_25 rfl 0 rfl ?_
      refine g_iconst ok d_Mo_end_26 ?_
      refine pI_Mo_open ok _ rfl k_991 (by first | exact Or.inl rfl | exact Or.inr rfl | omega) d_Mo_end_27 ?_
      refine g_aload_n ok d_Mo_end_30 rfl 0 rfl ?_
      refine g_iconst ok d_Mo_end_31 ?_
      refine pI_Mo_faultOne ok _ rfl k_999 d_Mo_end_32 ?_
      refine g_aload_n ok d_Mo_end_35 rfl 0 rfl ?_
      refine g_iconst ok d_Mo_end_36 ?_
      refine pI_Mo_faultOther ok _ rfl k_1000 d_Mo_end_37 ?_
      refine g_aload_n ok d_Mo_end_40 rfl 0 rfl ?_
      refine g_aload_n ok d_Mo_end_41 rfl 0 rfl ?_
      refine g_callIV (As := []) (st := [.ref (ad 244)]) ok _ (c_Mo_findFault (fU (fU (fU (fU F 244 0 0) 244 2 0) 244 10 (-1)) 244 11 (-1)) G hO hP h41 (by rw [fU_ja (by decide), fU_hit]) (by rw [fU_hit]) s0 a0 D t ad) k_1123 k_11 k_1120 cl_Mo (m_Mo (ad := ad) (t := t) (F := (fU (fU (fU (fU F 244 0 0) 244 2 0) 244 10 (-1)) 244 11 (-1))) (G := G) rfl).1 (m_Mo rfl).2 k_1122 s_Mo_findFault q_Mo_findFault (by decide) (Nat.le_of_ble_eq_true rfl) (by decide) d_Mo_end_42 (fun zf ce1 hc4 => ?_)
      obtain ⟨F2, G2, rfl, hfl, hmf, hf2⟩ := hc4
      have hzr := mFault_rng hfl
      have hf3 : ∀ a b, ¬ (a = 244 ∧ (b = 0 ∨ b = 2 ∨ b = 9 ∨ b = 10 ∨ b = 11 ∨ b = 12)) → fU F2 244 9 zf a b = F a b := fun a b z => by rw [show fU F2 244 9 zf a b = F2 a b by unfold fU; rw [if_neg (by omega)], hf2 a b (by omega)]; unfold fU; rw [if_neg (by omega), if_neg (by omega), if_neg (by omega), if_neg (by omega)]
      have h30 : fU F2 244 9 zf 244 0 = 0 := by rw [fU_ja (by decide), hf2 244 0 (by decide), fU_ja (by decide), fU_ja (by decide), fU_ja (by decide), fU_hit]
      have h32 : fU F2 244 9 zf 244 2 = 0 := by rw [fU_ja (by decide), hf2 244 2 (by decide), fU_ja (by decide), fU_ja (by decide), fU_hit]
      have h39 : fU F2 244 9 zf 244 10 = F2 244 10 ∧ fU F2 244 9 zf 244 11 = F2 244 11 := ⟨fU_ja (by decide), fU_ja (by decide)⟩
      refine pI_Mo_faultNow ok _ rfl k_998 d_Mo_end_45 ?_
      refine g_aload_n ok d_Mo_end_48 rfl 0 rfl ?_
      refine gI_Mo_faultNow ok _ rfl k_998 d_Mo_end_49 ?_
      refine g_top (y := zf) (by show (fU F2 244 9 zf) 244 9 = _; rw [fU_hit]) ?_
      refine g_if_eq ok 60 d_Mo_end_52 (by decide) (by omega) (fun h5 => ?_) (fun h5 => ?_)
      · have hz0 : zf = 0 := by omega
        have hfl0 := hfl
        rw [hz0] at hfl0
        refine g_aload_n ok d_Mo_end_60 rfl 0 rfl ?_
        refine gI_Mo_shapes ok _ rfl k_990 d_Mo_end_61 ?_
        refine g_top (y := F2 244 1) (by show (fU F2 244 9 zf) 244 1 = _; rw [fU_ja (show (1 : Nat) ≠ 9 by decide)]) ?_
        refine g_top (y := F 244 1) (by show F2 244 1 = _; rw [← hf3 244 1 (by decide), fU_ja (by decide)]) ?_
        refine g_istore_n (lv' := [(1, .int (iI (F 244 1))), (0, .ref (ad 244))]) ok d_Mo_end_64 rfl (by decide) rfl ?_
        refine g_aload_n ok d_Mo_end_65 rfl 1 rfl ?_
        refine gI_Mo_box ok _ rfl k_996 d_Mo_end_66 ?_
        refine g_iconst ok d_Mo_end_69 ?_
        refine g_iload_n ok d_Mo_end_70 rfl 0 rfl ?_
        refine g_imul ok d_Mo_end_71 ?_
        refine g_sipush ok (by decide) d_Mo_end_72 ?_
        refine h_iast ok _ a_249 (by omega) d_Mo_end_75 ?_
        refine g_aload_n ok d_Mo_end_76 rfl 1 rfl ?_
        refine gI_Mo_box ok _ rfl k_996 d_Mo_end_77 ?_
        refine g_iconst ok d_Mo_end_80 ?_
        refine g_iload_n ok d_Mo_end_81 rfl 0 rfl ?_
        refine g_imul ok d_Mo_end_82 ?_
        refine g_iconst ok d_Mo_end_83 ?_
        refine g_iadd ok d_Mo_end_84 ?_
        refine g_sipush ok (by decide) d_Mo_end_85 ?_
        refine h_iast ok _ a_249 (by omega) d_Mo_end_88 ?_
        refine g_aload_n ok d_Mo_end_89 rfl 1 rfl ?_
        refine gI_Mo_box ok _ rfl k_996 d_Mo_end_90 ?_
        refine g_iconst ok d_Mo_end_93 ?_
        refine g_iload_n ok d_Mo_end_94 rfl 0 rfl ?_
        refine g_imul ok d_Mo_end_95 ?_
        refine g_iconst ok d_Mo_end_96 ?_
        refine g_iadd ok d_Mo_end_97 ?_
        refine g_iconst ok d_Mo_end_98 ?_
        refine h_iast ok _ a_249 (by omega) d_Mo_end_99 ?_
        refine g_aload_n ok d_Mo_end_100 rfl 1 rfl ?_
        refine gI_Mo_box ok _ rfl k_996 d_Mo_end_101 ?_
        refine g_iconst ok d_Mo_end_104 ?_
        refine g_iload_n ok d_Mo_end_105 rfl 0 rfl ?_
        refine g_imul ok d_Mo_end_106 ?_
        refine g_iconst ok d_Mo_end_107 ?_
        refine g_iadd ok d_Mo_end_108 ?_
        refine g_iconst ok d_Mo_end_109 ?_
        refine h_iast ok _ a_249 (by omega) d_Mo_end_110 ?_
        refine g_iconst ok d_Mo_end_111 ?_
        refine g_istore_n (lv' := [(2, .int (iI 0)), (1, .int (iI (F 244 1))), (0, .ref (ad 244))]) ok d_Mo_end_112 rfl (by decide) rfl ?_
        have L_r : ∀ (n_r : Nat) (r : Int) (G1 : Nat → Int → Int), (0 ≤ r ∧ r ≤ 4) → (enI G G2 G1 (F 244 1) r r 0) → (5 - r) < (n_r : Int) → gW p l e R s m args below meth c (MQ below (gQi D A ad 265 (fun z ce' => ∃ F' G', ce' = mem ad t F' G' ∧ (fun z F' G' => ((F 244 2 = 0 ∧ F' = fU F 244 0 1 ∧ G' = G) ∨ (F 244 2 = 1 ∧ F' 244 0 = 0 ∧ F' 244 2 = 0 ∧ F' 244 9 = z ∧ mFault G z (F' 244 10) (F' 244 11) ∧ ((z ≠ 0 ∧ (∀ a b, ¬ (a = 244 ∧ (b = 0 ∨ b = 2 ∨ b = 9 ∨ b = 10 ∨ b = 11 ∨ b = 12)) → F' a b = F a b) ∧ mFr G G') ∨ (z = 0 ∧ (∀ a b, ¬ (a = 244 ∧ (b = 0 ∨ b = 1 ∨ b = 2 ∨ b = 9 ∨ b = 10 ∨ b = 11 ∨ b = 12)) → F' a b = F a b) ∧ F' 244 1 = F 244 1 + 1 ∧ ∃ G2 G1, mFr G G2 ∧ enI G G2 G1 (F 244 1) 4 4 0 ∧ G' = gU G1 250 (F 244 1) (F 244 1)))))) z F' G')) args s 0 0 A) D A 6 (gZ) 0 0 ad 265 (mem ad t (fU F2 244 9 zf) G1) 113 [(0, .ref (ad 244)), (1, .int (iI (F 244 1))), (2, .int (iI r))] [] := by
          intro n_r
          induction n_r with
          | zero =>
            intro r G1 hr hI hm_r
            exact absurd hm_r (by omega)
          | succ n_r ih_r =>
            intro r G1 hr hI hm_r
            refine g_iload_n ok d_Mo_end_113 rfl 2 rfl ?_
            refine g_iconst ok d_Mo_end_114 ?_
            refine g_icmp_ge ok 357 d_Mo_end_115 (by decide) (by omega) (by omega) (fun h6 => ?_) (fun h6 => ?_)
            · refine g_aload_n ok d_Mo_end_357 rfl 0 rfl ?_
              refine gI_Mo_order ok _ rfl k_997 d_Mo_end_358 ?_
              refine g_iload_n ok d_Mo_end_361 rfl 1 rfl ?_
              refine g_iload_n ok d_Mo_end_362 rfl 1 rfl ?_
              refine h_iast ok _ a_250 (by omega) d_Mo_end_363 ?_
              refine g_aload_n ok d_Mo_end_364 rfl 0 rfl ?_
              refine g_dup ok d_Mo_end_365 rfl ?_
              refine gI_Mo_shapes ok _ rfl k_990 d_Mo_end_366 ?_
              refine g_top (y := F2 244 1) (by show (fU F2 244 9 zf) 244 1 = _; rw [fU_ja (show (1 : Nat) ≠ 9 by decide)]) ?_
              refine g_top (y := F 244 1) (by show F2 244 1 = _; rw [← hf3 244 1 (by decide), fU_ja (by decide)]) ?_
              refine g_iconst ok d_Mo_end_369 ?_
              refine g_iadd ok d_Mo_end_370 ?_
              refine pI_Mo_shapes ok _ rfl k_990 d_Mo_end_371 ?_
              refine g_iconst ok d_Mo_end_374 ?_
              exact g_iret ok d_Mo_end_375 ⟨_, _, rfl, Or.inr ⟨by omega, by rw [fU_ja (by decide)]; exact h30, by rw [fU_ja (by decide)]; exact h32, by rw [fU_ja (by decide), fU_hit]; omega, by rw [fU_ja (show (10 : Nat) ≠ 1 by decide), fU_ja (show (10 : Nat) ≠ 9 by decide), fU_ja (show (11 : Nat) ≠ 1 by decide), fU_ja (show (11 : Nat) ≠ 9 by decide)]; exact hfl0, Or.inr ⟨rfl, fun a b z => by rw [show ∀ v : Int, fU (fU F2 244 9 zf) 244 1 v a b = (fU F2 244 9 zf) a b from fun v => by unfold fU; rw [if_neg (by omega)]]; exact hf3 a b (by omega), by rw [fU_hit], G2, G1, hmf, by rw [show r = 4 by omega] at hI; exact hI, rfl⟩⟩⟩
            · have hcr := hc24 r hr.1 (by omega)
              refine g_aload_n ok d_Mo_end_118 rfl 0 rfl ?_
              refine gI_Mo_told ok _ rfl k_992 d_Mo_end_119 ?_
              refine g_iconst ok d_Mo_end_122 ?_
              refine g_iload_n ok d_Mo_end_123 rfl 1 rfl ?_
              refine g_imul ok d_Mo_end_124 ?_
              refine g_iload_n ok d_Mo_end_125 rfl 2 rfl ?_
              refine g_iadd ok d_Mo_end_126 ?_
              refine g_aload_n ok d_Mo_end_127 rfl 0 rfl ?_
              refine gI_Mo_told ok _ rfl k_992 d_Mo_end_128 ?_
              refine g_bipush ok (by decide) d_Mo_end_131 ?_
              refine g_iload_n ok d_Mo_end_133 rfl 2 rfl ?_
              refine g_iadd ok d_Mo_end_134 ?_
              refine h_iald ok _ a_245 (by omega) d_Mo_end_135 ?_
              refine g_top (y := G 245 (40 + r)) (by show G1 245 (40 + r) = _; exact (hI.2.1 (40 + r)).1 (by omega) |>.1) ?_
              refine h_iast ok _ a_245 (by omega) d_Mo_end_136 ?_
              refine g_aload_n ok d_Mo_end_137 rfl 0 rfl ?_
              refine gI_Mo_corners ok _ rfl k_993 d_Mo_end_138 ?_
              refine g_iconst ok d_Mo_end_141 ?_
              refine g_iload_n ok d_Mo_end_142 rfl 1 rfl ?_
              refine g_imul ok d_Mo_end_143 ?_
              refine g_iload_n ok d_Mo_end_144 rfl 2 rfl ?_
              refine g_iadd ok d_Mo_end_145 ?_
              refine g_aload_n ok d_Mo_end_146 rfl 0 rfl ?_
              refine gI_Mo_corners ok _ rfl k_993 d_Mo_end_147 ?_
              refine g_bipush ok (by decide) d_Mo_end_150 ?_
              refine g_iload_n ok d_Mo_end_152 rfl 2 rfl ?_
              refine g_iadd ok d_Mo_end_153 ?_
              refine h_iald ok _ a_246 (by omega) d_Mo_end_154 ?_
              refine g_top (y := G1 246 (40 + r)) (by show (gU G1 245 ((4 * (F 244 1)) + r) (G 245 (40 + r))) 246 (40 + r) = _; rw [gU_a (show 246 ≠ 245 by omega)]) ?_
              refine g_top (y := G 246 (40 + r)) (by show G1 246 (40 + r) = _; exact ((hI.2.1 (40 + r)).1 (by omega)).2) ?_
              refine h_iast ok _ a_246 (by omega) d_Mo_end_155 ?_
              refine g_iconst ok d_Mo_end_156 ?_
              refine g_istore_n (lv' := [(3, .int (iI 0)), (0, .ref (ad 244)), (1, .int (iI (F 244 1))), (2, .int (iI r))]) ok d_Mo_end_157 rfl (by decide) rfl ?_
              have L_k : ∀ (n_k : Nat) (k : Int) (G1 : Nat → Int → Int), (0 ≤ k ∧ k ≤ G 246 (40 + r)) → (enI G G2 G1 (F 244 1) (r + 1) r k) → (G 246 (40 + r) + 1 - k) < (n_k : Int) → gW p l e R s m args below meth c (MQ below (gQi D A ad 265 (fun z ce' => ∃ F' G', ce' = mem ad t F' G' ∧ (fun z F' G' => ((F 244 2 = 0 ∧ F' = fU F 244 0 1 ∧ G' = G) ∨ (F 244 2 = 1 ∧ F' 244 0 = 0 ∧ F' 244 2 = 0 ∧ F' 244 9 = z ∧ mFault G z (F' 244 10) (F' 244 11) ∧ ((z ≠ 0 ∧ (∀ a b, ¬ (a = 244 ∧ (b = 0 ∨ b = 2 ∨ b = 9 ∨ b = 10 ∨ b = 11 ∨ b = 12)) → F' a b = F a b) ∧ mFr G G') ∨ (z = 0 ∧ (∀ a b, ¬ (a = 244 ∧ (b = 0 ∨ b = 1 ∨ b = 2 ∨ b = 9 ∨ b = 10 ∨ b = 11 ∨ b = 12)) → F' a b = F a b) ∧ F' 244 1 = F 244 1 + 1 ∧ ∃ G2 G1, mFr G G2 ∧ enI G G2 G1 (F 244 1) 4 4 0 ∧ G' = gU G1 250 (F 244 1) (F 244 1)))))) z F' G')) args s 0 0 A) D A 6 (gZ) 0 0 ad 265 (mem ad t (fU F2 244 9 zf) G1) 158 [(0, .ref (ad 244)), (1, .int (iI (F 244 1))), (2, .int (iI r)), (3, .int (iI k))] [] := by
                intro n_k
                induction n_k with
                | zero =>
                  intro k G1 hk hI hm_k
                  exact absurd hm_k (by omega)
                | succ n_k ih_k =>
                  intro k G1 hk hI hm_k
                  refine g_iload_n ok d_Mo_end_158 rfl 3 rfl ?_
                  refine g_aload_n ok d_Mo_end_159 rfl 0 rfl ?_
                  refine gI_Mo_corners ok _ rfl k_993 d_Mo_end_160 ?_
                  refine g_bipush ok (by decide) d_Mo_end_163 ?_
                  refine g_iload_n ok d_Mo_end_165 rfl 2 rfl ?_
                  refine g_iadd ok d_Mo_end_166 ?_
                  refine h_iald ok _ a_246 (by omega) d_Mo_end_167 ?_
                  refine g_top (y := G 246 (40 + r)) (by show G1 246 (40 + r) = _; exact ((hI.2.1 (40 + r)).1 (by omega)).2) ?_
                  refine g_icmp_ge ok 351 d_Mo_end_168 (by decide) (by omega) (by omega) (fun h7 => ?_) (fun h7 => ?_)
                  · refine g_iinc (lv' := [(2, .int (iI (r + 1))), (0, .ref (ad 244)), (1, .int (iI (F 244 1))), (3, .int (iI k))]) ok d_Mo_end_351 2 rfl (by decide) rfl ?_
                    refine g_goto ok 113 d_Mo_end_354 (by decide) ?_
                    refine g_lv [1, 2, 0] rfl ?_
                    exact ih_r (r + 1) G1 (by omega) (en_ring hr.1 (by omega) hI) (by omega)
                  · have hpk := hP r k hr.1 (by omega) hk.1 (by omega)
                    have hb6 := hI.2.2.2.2.2.1
                    refine g_aload_n ok d_Mo_end_171 rfl 0 rfl ?_
                    refine gI_Mo_cx ok _ rfl k_994 d_Mo_end_172 ?_
                    refine g_sipush ok (by decide) d_Mo_end_175 ?_
                    refine g_bipush ok (by decide) d_Mo_end_178 ?_
                    refine g_iload_n ok d_Mo_end_180 rfl 2 rfl ?_
                    refine g_imul ok d_Mo_end_181 ?_
                    refine g_iadd ok d_Mo_end_182 ?_
                    refine g_iload_n ok d_Mo_end_183 rfl 3 rfl ?_
                    refine g_iadd ok d_Mo_end_184 ?_
                    refine h_iald ok _ a_247 (by omega) d_Mo_end_185 ?_
                    refine g_top (y := G 247 ((960 + (24 * r)) + k)) (by show G1 247 ((960 + (24 * r)) + k) = _; exact (hI.2.2.1 _ (by omega)).1) ?_
                    refine g_istore (lv' := [(4, .int (iI (G 247 ((960 + (24 * r)) + k)))), (0, .ref (ad 244)), (1, .int (iI (F 244 1))), (2, .int (iI r)), (3, .int (iI k))]) ok d_Mo_end_186 (by decide) rfl ?_
                    refine g_aload_n ok d_Mo_end_188 rfl 1 rfl ?_
                    refine gI_Mo_cy ok _ rfl k_995 d_Mo_end_189 ?_
                    refine g_sipush ok (by decide) d_Mo_end_192 ?_
                    refine g_bipush ok (by decide) d_Mo_end_195 ?_
                    refine g_iload_n ok d_Mo_end_197 rfl 3 rfl ?_
                    refine g_imul ok d_Mo_end_198 ?_
                    refine g_iadd ok d_Mo_end_199 ?_
                    refine g_iload_n ok d_Mo_end_200 rfl 4 rfl ?_
                    refine g_iadd ok d_Mo_end_201 ?_
                    refine h_iald ok _ a_248 (by omega) d_Mo_end_202 ?_
                    refine g_top (y := G 248 ((960 + (24 * r)) + k)) (by show G1 248 ((960 + (24 * r)) + k) = _; exact (hI.2.2.1 _ (by omega)).2) ?_
                    refine g_istore (lv' := [(5, .int (iI (G 248 ((960 + (24 * r)) + k)))), (4, .int (iI (G 247 ((960 + (24 * r)) + k)))), (0, .ref (ad 244)), (1, .int (iI (F 244 1))), (2, .int (iI r)), (3, .int (iI k))]) ok d_Mo_end_203 (by decide) rfl ?_
                    refine g_aload_n ok d_Mo_end_205 rfl 2 rfl ?_
                    refine gI_Mo_cx ok _ rfl k_994 d_Mo_end_206 ?_
                    refine g_bipush ok (by decide) d_Mo_end_209 ?_
                    refine g_iload_n ok d_Mo_end_211 rfl 3 rfl ?_
                    refine g_imul ok d_Mo_end_212 ?_
                    refine g_bipush ok (by decide) d_Mo_end_213 ?_
                    refine g_iload_n ok d_Mo_end_215 rfl 4 rfl ?_
                    refine g_imul ok d_Mo_end_216 ?_
                    refine g_iadd ok d_Mo_end_217 ?_
                    refine g_iload_n ok d_Mo_end_218 rfl 5 rfl ?_
                    refine g_iadd ok d_Mo_end_219 ?_
                    refine g_iload ok d_Mo_end_220 1 rfl ?_
                    refine h_iast ok _ a_247 (by omega) d_Mo_end_222 ?_
                    refine g_aload_n ok d_Mo_end_223 rfl 2 rfl ?_
                    refine gI_Mo_cy ok _ rfl k_995 d_Mo_end_224 ?_
                    refine g_bipush ok (by decide) d_Mo_end_227 ?_
                    refine g_iload_n ok d_Mo_end_229 rfl 3 rfl ?_
                    refine g_imul ok d_Mo_end_230 ?_
                    refine g_bipush ok (by decide) d_Mo_end_231 ?_
                    refine g_iload_n ok d_Mo_end_233 rfl 4 rfl ?_
                    refine g_imul ok d_Mo_end_234 ?_
                    refine g_iadd ok d_Mo_end_235 ?_
                    refine g_iload_n ok d_Mo_end_236 rfl 5 rfl ?_
                    refine g_iadd ok d_Mo_end_237 ?_
                    refine g_iload ok d_Mo_end_238 0 rfl ?_
                    refine h_iast ok _ a_248 (by omega) d_Mo_end_240 ?_
                    have J_a : ∀ (Ga : Nat → Int → Int), (Ga = (gU (gU (gU G1 247 (((96 * (F 244 1)) + (24 * r)) + k) (G 247 ((960 + (24 * r)) + k))) 248 (((96 * (F 244 1)) + (24 * r)) + k) (G 248 ((960 + (24 * r)) + k))) 249 (4 * (F 244 1)) (min (G1 249 (4 * (F 244 1))) (G 247 ((960 + (24 * r)) + k))))) → gW p l e R s m args below meth c (MQ below (gQi D A ad 265 (fun z ce' => ∃ F' G', ce' = mem ad t F' G' ∧ (fun z F' G' => ((F 244 2 = 0 ∧ F' = fU F 244 0 1 ∧ G' = G) ∨ (F 244 2 = 1 ∧ F' 244 0 = 0 ∧ F' 244 2 = 0 ∧ F' 244 9 = z ∧ mFault G z (F' 244 10) (F' 244 11) ∧ ((z ≠ 0 ∧ (∀ a b, ¬ (a = 244 ∧ (b = 0 ∨ b = 2 ∨ b = 9 ∨ b = 10 ∨ b = 11 ∨ b = 12)) → F' a b = F a b) ∧ mFr G G') ∨ (z = 0 ∧ (∀ a b, ¬ (a = 244 ∧ (b = 0 ∨ b = 1 ∨ b = 2 ∨ b = 9 ∨ b = 10 ∨ b = 11 ∨ b = 12)) → F' a b = F a b) ∧ F' 244 1 = F 244 1 + 1 ∧ ∃ G2 G1, mFr G G2 ∧ enI G G2 G1 (F 244 1) 4 4 0 ∧ G' = gU G1 250 (F 244 1) (F 244 1)))))) z F' G')) args s 0 0 A) D A 6 (gZ) 0 0 ad 265 (mem ad t (fU F2 244 9 zf) Ga) 264 [(0, .ref (ad 244)), (1, .int (iI (F 244 1))), (2, .int (iI r)), (3, .int (iI k)), (4, .int (iI (G 247 ((960 + (24 * r)) + k)))), (5, .int (iI (G 248 ((960 + (24 * r)) + k))))] [] := by
                      intro Ga ha
                      rw [ha]
                      have J_b : ∀ (Gb : Nat → Int → Int), (Gb = (gU (gU (gU (gU G1 247 (((96 * (F 244 1)) + (24 * r)) + k) (G 247 ((960 + (24 * r)) + k))) 248 (((96 * (F 244 1)) + (24 * r)) + k) (G 248 ((960 + (24 * r)) + k))) 249 (4 * (F 244 1)) (min (G1 249 (4 * (F 244 1))) (G 247 ((960 + (24 * r)) + k)))) 249 ((4 * (F 244 1)) + 1) (min (G1 249 ((4 * (F 244 1)) + 1)) (G 248 ((960 + (24 * r)) + k))))) → gW p l e R s m args below meth c (MQ below (gQi D A ad 265 (fun z ce' => ∃ F' G', ce' = mem ad t F' G' ∧ (fun z F' G' => ((F 244 2 = 0 ∧ F' = fU F 244 0 1 ∧ G' = G) ∨ (F 244 2 = 1 ∧ F' 244 0 = 0 ∧ F' 244 2 = 0 ∧ F' 244 9 = z ∧ mFault G z (F' 244 10) (F' 244 11) ∧ ((z ≠ 0 ∧ (∀ a b, ¬ (a = 244 ∧ (b = 0 ∨ b = 2 ∨ b = 9 ∨ b = 10 ∨ b = 11 ∨ b = 12)) → F' a b = F a b) ∧ mFr G G') ∨ (z = 0 ∧ (∀ a b, ¬ (a = 244 ∧ (b = 0 ∨ b = 1 ∨ b = 2 ∨ b = 9 ∨ b = 10 ∨ b = 11 ∨ b = 12)) → F' a b = F a b) ∧ F' 244 1 = F 244 1 + 1 ∧ ∃ G2 G1, mFr G G2 ∧ enI G G2 G1 (F 244 1) 4 4 0 ∧ G' = gU G1 250 (F 244 1) (F 244 1)))))) z F' G')) args s 0 0 A) D A 6 (gZ) 0 0 ad 265 (mem ad t (fU F2 244 9 zf) Gb) 291 [(0, .ref (ad 244)), (1, .int (iI (F 244 1))), (2, .int (iI r)), (3, .int (iI k)), (4, .int (iI (G 247 ((960 + (24 * r)) + k)))), (5, .int (iI (G 248 ((960 + (24 * r)) + k))))] [] := by
                        intro Gb hb
                        rw [hb]
                        have J_c : ∀ (Gc : Nat → Int → Int), (Gc = (gU (gU (gU (gU (gU G1 247 (((96 * (F 244 1)) + (24 * r)) + k) (G 247 ((960 + (24 * r)) + k))) 248 (((96 * (F 244 1)) + (24 * r)) + k) (G 248 ((960 + (24 * r)) + k))) 249 (4 * (F 244 1)) (min (G1 249 (4 * (F 244 1))) (G 247 ((960 + (24 * r)) + k)))) 249 ((4 * (F 244 1)) + 1) (min (G1 249 ((4 * (F 244 1)) + 1)) (G 248 ((960 + (24 * r)) + k)))) 249 ((4 * (F 244 1)) + 2) (max (G1 249 ((4 * (F 244 1)) + 2)) (G 247 ((960 + (24 * r)) + k))))) → gW p l e R s m args below meth c (MQ below (gQi D A ad 265 (fun z ce' => ∃ F' G', ce' = mem ad t F' G' ∧ (fun z F' G' => ((F 244 2 = 0 ∧ F' = fU F 244 0 1 ∧ G' = G) ∨ (F 244 2 = 1 ∧ F' 244 0 = 0 ∧ F' 244 2 = 0 ∧ F' 244 9 = z ∧ mFault G z (F' 244 10) (F' 244 11) ∧ ((z ≠ 0 ∧ (∀ a b, ¬ (a = 244 ∧ (b = 0 ∨ b = 2 ∨ b = 9 ∨ b = 10 ∨ b = 11 ∨ b = 12)) → F' a b = F a b) ∧ mFr G G') ∨ (z = 0 ∧ (∀ a b, ¬ (a = 244 ∧ (b = 0 ∨ b = 1 ∨ b = 2 ∨ b = 9 ∨ b = 10 ∨ b = 11 ∨ b = 12)) → F' a b = F a b) ∧ F' 244 1 = F 244 1 + 1 ∧ ∃ G2 G1, mFr G G2 ∧ enI G G2 G1 (F 244 1) 4 4 0 ∧ G' = gU G1 250 (F 244 1) (F 244 1)))))) z F' G')) args s 0 0 A) D A 6 (gZ) 0 0 ad 265 (mem ad t (fU F2 244 9 zf) Gc) 318 [(0, .ref (ad 244)), (1, .int (iI (F 244 1))), (2, .int (iI r)), (3, .int (iI k)), (4, .int (iI (G 247 ((960 + (24 * r)) + k)))), (5, .int (iI (G 248 ((960 + (24 * r)) + k))))] [] := by
                          intro Gc hc
                          rw [hc]
                          have J_d : ∀ (Gd : Nat → Int → Int), (Gd = (gU (gU (gU (gU (gU (gU G1 247 (((96 * (F 244 1)) + (24 * r)) + k) (G 247 ((960 + (24 * r)) + k))) 248 (((96 * (F 244 1)) + (24 * r)) + k) (G 248 ((960 + (24 * r)) + k))) 249 (4 * (F 244 1)) (min (G1 249 (4 * (F 244 1))) (G 247 ((960 + (24 * r)) + k)))) 249 ((4 * (F 244 1)) + 1) (min (G1 249 ((4 * (F 244 1)) + 1)) (G 248 ((960 + (24 * r)) + k)))) 249 ((4 * (F 244 1)) + 2) (max (G1 249 ((4 * (F 244 1)) + 2)) (G 247 ((960 + (24 * r)) + k)))) 249 ((4 * (F 244 1)) + 3) (max (G1 249 ((4 * (F 244 1)) + 3)) (G 248 ((960 + (24 * r)) + k))))) → gW p l e R s m args below meth c (MQ below (gQi D A ad 265 (fun z ce' => ∃ F' G', ce' = mem ad t F' G' ∧ (fun z F' G' => ((F 244 2 = 0 ∧ F' = fU F 244 0 1 ∧ G' = G) ∨ (F 244 2 = 1 ∧ F' 244 0 = 0 ∧ F' 244 2 = 0 ∧ F' 244 9 = z ∧ mFault G z (F' 244 10) (F' 244 11) ∧ ((z ≠ 0 ∧ (∀ a b, ¬ (a = 244 ∧ (b = 0 ∨ b = 2 ∨ b = 9 ∨ b = 10 ∨ b = 11 ∨ b = 12)) → F' a b = F a b) ∧ mFr G G') ∨ (z = 0 ∧ (∀ a b, ¬ (a = 244 ∧ (b = 0 ∨ b = 1 ∨ b = 2 ∨ b = 9 ∨ b = 10 ∨ b = 11 ∨ b = 12)) → F' a b = F a b) ∧ F' 244 1 = F 244 1 + 1 ∧ ∃ G2 G1, mFr G G2 ∧ enI G G2 G1 (F 244 1) 4 4 0 ∧ G' = gU G1 250 (F 244 1) (F 244 1)))))) z F' G')) args s 0 0 A) D A 6 (gZ) 0 0 ad 265 (mem ad t (fU F2 244 9 zf) Gd) 345 [(0, .ref (ad 244)), (1, .int (iI (F 244 1))), (2, .int (iI r)), (3, .int (iI k)), (4, .int (iI (G 247 ((960 + (24 * r)) + k)))), (5, .int (iI (G 248 ((960 + (24 * r)) + k))))] [] := by
                            intro Gd hd
                            rw [hd]
                            refine g_iinc (lv' := [(3, .int (iI (k + 1))), (0, .ref (ad 244)), (1, .int (iI (F 244 1))), (2, .int (iI r)), (4, .int (iI (G 247 ((960 + (24 * r)) + k)))), (5, .int (iI (G 248 ((960 + (24 * r)) + k))))]) ok d_Mo_end_345 3 rfl (by decide) rfl ?_
                            refine g_goto ok 158 d_Mo_end_348 (by decide) ?_
                            refine g_lv [1, 2, 3, 0] rfl ?_
                            exact ih_k (k + 1) (gU (gU (gU (gU (gU (gU G1 247 (((96 * (F 244 1)) + (24 * r)) + k) (G 247 ((960 + (24 * r)) + k))) 248 (((96 * (F 244 1)) + (24 * r)) + k) (G 248 ((960 + (24 * r)) + k))) 249 (4 * (F 244 1)) (min (G1 249 (4 * (F 244 1))) (G 247 ((960 + (24 * r)) + k)))) 249 ((4 * (F 244 1)) + 1) (min (G1 249 ((4 * (F 244 1)) + 1)) (G 248 ((960 + (24 * r)) + k)))) 249 ((4 * (F 244 1)) + 2) (max (G1 249 ((4 * (F 244 1)) + 2)) (G 247 ((960 + (24 * r)) + k)))) 249 ((4 * (F 244 1)) + 3) (max (G1 249 ((4 * (F 244 1)) + 3)) (G 248 ((960 + (24 * r)) + k)))) (by omega) (en_step (by omega) (by omega) (by omega) rfl rfl hpk.1 hpk.2 hI) (by omega)
                          refine g_iload ok d_Mo_end_318 5 rfl ?_
                          refine g_aload_n ok d_Mo_end_320 rfl 0 rfl ?_
                          refine gI_Mo_box ok _ rfl k_996 d_Mo_end_321 ?_
                          refine g_iconst ok d_Mo_end_324 ?_
                          refine g_iload_n ok d_Mo_end_325 rfl 1 rfl ?_
                          refine g_imul ok d_Mo_end_326 ?_
                          refine g_iconst ok d_Mo_end_327 ?_
                          refine g_iadd ok d_Mo_end_328 ?_
                          refine h_iald ok _ a_249 (by omega) d_Mo_end_329 ?_
                          refine g_top (y := G1 249 ((4 * (F 244 1)) + 3)) (by show (gU (gU (gU (gU (gU G1 247 (((96 * (F 244 1)) + (24 * r)) + k) (G 247 ((960 + (24 * r)) + k))) 248 (((96 * (F 244 1)) + (24 * r)) + k) (G 248 ((960 + (24 * r)) + k))) 249 (4 * (F 244 1)) (min (G1 249 (4 * (F 244 1))) (G 247 ((960 + (24 * r)) + k)))) 249 ((4 * (F 244 1)) + 1) (min (G1 249 ((4 * (F 244 1)) + 1)) (G 248 ((960 + (24 * r)) + k)))) 249 ((4 * (F 244 1)) + 2) (max (G1 249 ((4 * (F 244 1)) + 2)) (G 247 ((960 + (24 * r)) + k)))) 249 ((4 * (F 244 1)) + 3) = _; rw [gU_i (by omega), gU_i (by omega), gU_i (by omega), gU_a (show 249 ≠ 248 by omega), gU_a (show 249 ≠ 247 by omega)]) ?_
                          refine g_icmp_le ok 345 d_Mo_end_330 (by decide) (by omega) (by omega) (fun h8 => ?_) (fun h8 => ?_)
                          · refine g_z ?_
                            exact J_d (gU (gU (gU (gU (gU G1 247 (((96 * (F 244 1)) + (24 * r)) + k) (G 247 ((960 + (24 * r)) + k))) 248 (((96 * (F 244 1)) + (24 * r)) + k) (G 248 ((960 + (24 * r)) + k))) 249 (4 * (F 244 1)) (min (G1 249 (4 * (F 244 1))) (G 247 ((960 + (24 * r)) + k)))) 249 ((4 * (F 244 1)) + 1) (min (G1 249 ((4 * (F 244 1)) + 1)) (G 248 ((960 + (24 * r)) + k)))) 249 ((4 * (F 244 1)) + 2) (max (G1 249 ((4 * (F 244 1)) + 2)) (G 247 ((960 + (24 * r)) + k)))) (by rw [show max (G1 249 ((4 * (F 244 1)) + 3)) (G 248 ((960 + (24 * r)) + k)) = G1 249 ((4 * (F 244 1)) + 3) by omega]; exact (gU_id (by rw [gU_i (by omega), gU_i (by omega), gU_i (by omega), gU_a (by decide), gU_a (by decide)])).symm)
                          · refine g_aload_n ok d_Mo_end_333 rfl 0 rfl ?_
                            refine gI_Mo_box ok _ rfl k_996 d_Mo_end_334 ?_
                            refine g_iconst ok d_Mo_end_337 ?_
                            refine g_iload_n ok d_Mo_end_338 rfl 1 rfl ?_
                            refine g_imul ok d_Mo_end_339 ?_
                            refine g_iconst ok d_Mo_end_340 ?_
                            refine g_iadd ok d_Mo_end_341 ?_
                            refine g_iload ok d_Mo_end_342 5 rfl ?_
                            refine h_iast ok _ a_249 (by omega) d_Mo_end_344 ?_
                            refine g_z ?_
                            exact J_d (gU (gU (gU (gU (gU (gU G1 247 (((96 * (F 244 1)) + (24 * r)) + k) (G 247 ((960 + (24 * r)) + k))) 248 (((96 * (F 244 1)) + (24 * r)) + k) (G 248 ((960 + (24 * r)) + k))) 249 (4 * (F 244 1)) (min (G1 249 (4 * (F 244 1))) (G 247 ((960 + (24 * r)) + k)))) 249 ((4 * (F 244 1)) + 1) (min (G1 249 ((4 * (F 244 1)) + 1)) (G 248 ((960 + (24 * r)) + k)))) 249 ((4 * (F 244 1)) + 2) (max (G1 249 ((4 * (F 244 1)) + 2)) (G 247 ((960 + (24 * r)) + k)))) 249 ((4 * (F 244 1)) + 3) (G 248 ((960 + (24 * r)) + k))) (by rw [show max (G1 249 ((4 * (F 244 1)) + 3)) (G 248 ((960 + (24 * r)) + k)) = G 248 ((960 + (24 * r)) + k) by omega])
                        refine g_iload ok d_Mo_end_291 4 rfl ?_
                        refine g_aload_n ok d_Mo_end_293 rfl 0 rfl ?_
                        refine gI_Mo_box ok _ rfl k_996 d_Mo_end_294 ?_
                        refine g_iconst ok d_Mo_end_297 ?_
                        refine g_iload_n ok d_Mo_end_298 rfl 1 rfl ?_
                        refine g_imul ok d_Mo_end_299 ?_
                        refine g_iconst ok d_Mo_end_300 ?_
                        refine g_iadd ok d_Mo_end_301 ?_
                        refine h_iald ok _ a_249 (by omega) d_Mo_end_302 ?_
                        refine g_top (y := G1 249 ((4 * (F 244 1)) + 2)) (by show (gU (gU (gU (gU G1 247 (((96 * (F 244 1)) + (24 * r)) + k) (G 247 ((960 + (24 * r)) + k))) 248 (((96 * (F 244 1)) + (24 * r)) + k) (G 248 ((960 + (24 * r)) + k))) 249 (4 * (F 244 1)) (min (G1 249 (4 * (F 244 1))) (G 247 ((960 + (24 * r)) + k)))) 249 ((4 * (F 244 1)) + 1) (min (G1 249 ((4 * (F 244 1)) + 1)) (G 248 ((960 + (24 * r)) + k)))) 249 ((4 * (F 244 1)) + 2) = _; rw [gU_i (by omega), gU_i (by omega), gU_a (show 249 ≠ 248 by omega), gU_a (show 249 ≠ 247 by omega)]) ?_
                        refine g_icmp_le ok 318 d_Mo_end_303 (by decide) (by omega) (by omega) (fun h9 => ?_) (fun h9 => ?_)
                        · refine g_z ?_
                          exact J_c (gU (gU (gU (gU G1 247 (((96 * (F 244 1)) + (24 * r)) + k) (G 247 ((960 + (24 * r)) + k))) 248 (((96 * (F 244 1)) + (24 * r)) + k) (G 248 ((960 + (24 * r)) + k))) 249 (4 * (F 244 1)) (min (G1 249 (4 * (F 244 1))) (G 247 ((960 + (24 * r)) + k)))) 249 ((4 * (F 244 1)) + 1) (min (G1 249 ((4 * (F 244 1)) + 1)) (G 248 ((960 + (24 * r)) + k)))) (by rw [show max (G1 249 ((4 * (F 244 1)) + 2)) (G 247 ((960 + (24 * r)) + k)) = G1 249 ((4 * (F 244 1)) + 2) by omega]; exact (gU_id (by rw [gU_i (by omega), gU_i (by omega), gU_a (by decide), gU_a (by decide)])).symm)
                        · refine g_aload_n ok d_Mo_end_306 rfl 0 rfl ?_
                          refine gI_Mo_box ok _ rfl k_996 d_Mo_end_307 ?_
                          refine g_iconst ok d_Mo_end_310 ?_
                          refine g_iload_n ok d_Mo_end_311 rfl 1 rfl ?_
                          refine g_imul ok d_Mo_end_312 ?_
                          refine g_iconst ok d_Mo_end_313 ?_
                          refine g_iadd ok d_Mo_end_314 ?_
                          refine g_iload ok d_Mo_end_315 4 rfl ?_
                          refine h_iast ok _ a_249 (by omega) d_Mo_end_317 ?_
                          refine g_z ?_
                          exact J_c (gU (gU (gU (gU (gU G1 247 (((96 * (F 244 1)) + (24 * r)) + k) (G 247 ((960 + (24 * r)) + k))) 248 (((96 * (F 244 1)) + (24 * r)) + k) (G 248 ((960 + (24 * r)) + k))) 249 (4 * (F 244 1)) (min (G1 249 (4 * (F 244 1))) (G 247 ((960 + (24 * r)) + k)))) 249 ((4 * (F 244 1)) + 1) (min (G1 249 ((4 * (F 244 1)) + 1)) (G 248 ((960 + (24 * r)) + k)))) 249 ((4 * (F 244 1)) + 2) (G 247 ((960 + (24 * r)) + k))) (by rw [show max (G1 249 ((4 * (F 244 1)) + 2)) (G 247 ((960 + (24 * r)) + k)) = G 247 ((960 + (24 * r)) + k) by omega])
                      refine g_iload ok d_Mo_end_264 5 rfl ?_
                      refine g_aload_n ok d_Mo_end_266 rfl 0 rfl ?_
                      refine gI_Mo_box ok _ rfl k_996 d_Mo_end_267 ?_
                      refine g_iconst ok d_Mo_end_270 ?_
                      refine g_iload_n ok d_Mo_end_271 rfl 1 rfl ?_
                      refine g_imul ok d_Mo_end_272 ?_
                      refine g_iconst ok d_Mo_end_273 ?_
                      refine g_iadd ok d_Mo_end_274 ?_
                      refine h_iald ok _ a_249 (by omega) d_Mo_end_275 ?_
                      refine g_top (y := G1 249 ((4 * (F 244 1)) + 1)) (by show (gU (gU (gU G1 247 (((96 * (F 244 1)) + (24 * r)) + k) (G 247 ((960 + (24 * r)) + k))) 248 (((96 * (F 244 1)) + (24 * r)) + k) (G 248 ((960 + (24 * r)) + k))) 249 (4 * (F 244 1)) (min (G1 249 (4 * (F 244 1))) (G 247 ((960 + (24 * r)) + k)))) 249 ((4 * (F 244 1)) + 1) = _; rw [gU_i (by omega), gU_a (show 249 ≠ 248 by omega), gU_a (show 249 ≠ 247 by omega)]) ?_
                      refine g_icmp_ge ok 291 d_Mo_end_276 (by decide) (by omega) (by omega) (fun h10 => ?_) (fun h10 => ?_)
                      · refine g_z ?_
                        exact J_b (gU (gU (gU G1 247 (((96 * (F 244 1)) + (24 * r)) + k) (G 247 ((960 + (24 * r)) + k))) 248 (((96 * (F 244 1)) + (24 * r)) + k) (G 248 ((960 + (24 * r)) + k))) 249 (4 * (F 244 1)) (min (G1 249 (4 * (F 244 1))) (G 247 ((960 + (24 * r)) + k)))) (by rw [show min (G1 249 ((4 * (F 244 1)) + 1)) (G 248 ((960 + (24 * r)) + k)) = G1 249 ((4 * (F 244 1)) + 1) by omega]; exact (gU_id (by rw [gU_i (by omega), gU_a (by decide), gU_a (by decide)])).symm)
                      · refine g_aload_n ok d_Mo_end_279 rfl 0 rfl ?_
                        refine gI_Mo_box ok _ rfl k_996 d_Mo_end_280 ?_
                        refine g_iconst ok d_Mo_end_283 ?_
                        refine g_iload_n ok d_Mo_end_284 rfl 1 rfl ?_
                        refine g_imul ok d_Mo_end_285 ?_
                        refine g_iconst ok d_Mo_end_286 ?_
                        refine g_iadd ok d_Mo_end_287 ?_
                        refine g_iload ok d_Mo_end_288 5 rfl ?_
                        refine h_iast ok _ a_249 (by omega) d_Mo_end_290 ?_
                        refine g_z ?_
                        exact J_b (gU (gU (gU (gU G1 247 (((96 * (F 244 1)) + (24 * r)) + k) (G 247 ((960 + (24 * r)) + k))) 248 (((96 * (F 244 1)) + (24 * r)) + k) (G 248 ((960 + (24 * r)) + k))) 249 (4 * (F 244 1)) (min (G1 249 (4 * (F 244 1))) (G 247 ((960 + (24 * r)) + k)))) 249 ((4 * (F 244 1)) + 1) (G 248 ((960 + (24 * r)) + k))) (by rw [show min (G1 249 ((4 * (F 244 1)) + 1)) (G 248 ((960 + (24 * r)) + k)) = G 248 ((960 + (24 * r)) + k) by omega])
                    refine g_iload ok d_Mo_end_241 1 rfl ?_
                    refine g_aload_n ok d_Mo_end_243 rfl 2 rfl ?_
                    refine gI_Mo_box ok _ rfl k_996 d_Mo_end_244 ?_
                    refine g_iconst ok d_Mo_end_247 ?_
                    refine g_iload_n ok d_Mo_end_248 rfl 3 rfl ?_
                    refine g_imul ok d_Mo_end_249 ?_
                    refine h_iald ok _ a_249 (by omega) d_Mo_end_250 ?_
                    refine g_top (y := G1 249 (4 * (F 244 1))) (by show (gU (gU G1 247 (((96 * (F 244 1)) + (24 * r)) + k) (G 247 ((960 + (24 * r)) + k))) 248 (((96 * (F 244 1)) + (24 * r)) + k) (G 248 ((960 + (24 * r)) + k))) 249 (4 * (F 244 1)) = _; rw [gU_a (show 249 ≠ 248 by omega), gU_a (show 249 ≠ 247 by omega)]) ?_
                    refine g_icmp_ge ok 264 d_Mo_end_251 (by decide) (by omega) (by omega) (fun h11 => ?_) (fun h11 => ?_)
                    · refine g_z ?_
                      refine g_lv [2, 3, 4, 5, 1, 0] rfl ?_
                      exact J_a (gU (gU G1 247 (((96 * (F 244 1)) + (24 * r)) + k) (G 247 ((960 + (24 * r)) + k))) 248 (((96 * (F 244 1)) + (24 * r)) + k) (G 248 ((960 + (24 * r)) + k))) (by rw [show min (G1 249 (4 * (F 244 1))) (G 247 ((960 + (24 * r)) + k)) = G1 249 (4 * (F 244 1)) by omega]; exact (gU_id (by rw [gU_a (by decide), gU_a (by decide)])).symm)
                    · refine g_aload_n ok d_Mo_end_254 rfl 2 rfl ?_
                      refine gI_Mo_box ok _ rfl k_996 d_Mo_end_255 ?_
                      refine g_iconst ok d_Mo_end_258 ?_
                      refine g_iload_n ok d_Mo_end_259 rfl 3 rfl ?_
                      refine g_imul ok d_Mo_end_260 ?_
                      refine g_iload ok d_Mo_end_261 1 rfl ?_
                      refine h_iast ok _ a_249 (by omega) d_Mo_end_263 ?_
                      refine g_z ?_
                      refine g_lv [2, 3, 4, 5, 1, 0] rfl ?_
                      exact J_a (gU (gU (gU G1 247 (((96 * (F 244 1)) + (24 * r)) + k) (G 247 ((960 + (24 * r)) + k))) 248 (((96 * (F 244 1)) + (24 * r)) + k) (G 248 ((960 + (24 * r)) + k))) 249 (4 * (F 244 1)) (G 247 ((960 + (24 * r)) + k))) (by rw [show min (G1 249 (4 * (F 244 1))) (G 247 ((960 + (24 * r)) + k)) = G 247 ((960 + (24 * r)) + k) by omega])
              refine g_z ?_
              refine g_lv [1, 2, 3, 0] rfl ?_
              exact L_k ((G 246 (40 + r) + 1 - 0 : Int).toNat + 1) 0 (gU (gU G1 245 ((4 * (F 244 1)) + r) (G 245 (40 + r))) 246 ((4 * (F 244 1)) + r) (G 246 (40 + r))) (by omega) (en_told (by omega) (by omega) hI) (by omega)
        refine g_z ?_
        refine g_lv [2, 1, 0] rfl ?_
        exact L_r ((5 - 0 : Int).toNat + 1) 0 (gU (gU (gU (gU G2 249 (4 * (F 244 1)) 600) 249 ((4 * (F 244 1)) + 1) 600) 249 ((4 * (F 244 1)) + 2) 0) 249 ((4 * (F 244 1)) + 3) 0) (by omega) (en_0 hmf) (by omega)
      · refine g_aload_n ok d_Mo_end_55 rfl 0 rfl ?_
        refine gI_Mo_faultNow ok _ rfl k_998 d_Mo_end_56 ?_
        refine g_top (y := zf) (by show (fU F2 244 9 zf) 244 9 = _; rw [fU_hit]) ?_
        exact g_iret ok d_Mo_end_59 ⟨_, _, rfl, Or.inr ⟨by omega, h30, h32, fU_hit, by rw [h39.1, h39.2]; exact hfl, Or.inl ⟨by omega, hf3, hmf⟩⟩⟩
    · exact absurd h3 (by decide)
