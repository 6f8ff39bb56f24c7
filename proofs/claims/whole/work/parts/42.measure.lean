theorem fU4 (F : Nat → Nat → Int) (k : Nat) (a b c d a' b' c' d' : Int) : fU (fU (fU (fU (fU (fU (fU (fU F k 7 a) k 8 b) k 9 c) k 10 d) k 7 a') k 8 b') k 9 c') k 10 d' = fU (fU (fU (fU F k 7 a') k 8 b') k 9 c') k 10 d' := by
  funext x y
  unfold fU
  by_cases h : x = k
  · subst h
    by_cases h1 : y = 10
    · simp [h1]
    · by_cases h2 : y = 9
      · simp [h2]
      · by_cases h3 : y = 8
        · simp [h3]
        · by_cases h4 : y = 7
          · simp [h4]
          · simp [h1, h2, h3, h4]
  · simp [h]
/-- the box of a set of places -/
def boxP (S : Int → Int → Prop) (l t r b : Int) : Prop := (∀ x y, S x y → l ≤ x ∧ t ≤ y ∧ x ≤ r ∧ y ≤ b) ∧ (l = 600 ∨ ∃ y, S l y) ∧ (t = 600 ∨ ∃ x, S x t) ∧ (r = 0 ∨ ∃ y, S r y) ∧ (b = 0 ∨ ∃ x, S x b)
theorem boxP_add {S : Int → Int → Prop} {l t r b : Int} (h : boxP S l t r b) (a c : Int) : boxP (fun x y => S x y ∨ (x = a ∧ y = c)) (min l a) (min t c) (max r a) (max b c) := by
  obtain ⟨h1, h2, h3, h4, h5⟩ := h
  refine ⟨fun x y q => ?_, ?_, ?_, ?_, ?_⟩
  · rcases q with q | q
    · have := h1 x y q
      omega
    · omega
  · rcases Int.le_total l a with q | q
    · rw [Int.min_eq_left q]
      exact h2.imp id (fun ⟨y, z⟩ => ⟨y, Or.inl z⟩)
    · rw [Int.min_eq_right q]
      exact Or.inr ⟨c, Or.inr ⟨rfl, rfl⟩⟩
  · rcases Int.le_total t c with q | q
    · rw [Int.min_eq_left q]
      exact h3.imp id (fun ⟨y, z⟩ => ⟨y, Or.inl z⟩)
    · rw [Int.min_eq_right q]
      exact Or.inr ⟨a, Or.inr ⟨rfl, rfl⟩⟩
  · rcases Int.le_total a r with q | q
    · rw [Int.max_eq_left q]
      exact h4.imp id (fun ⟨y, z⟩ => ⟨y, Or.inl z⟩)
    · rw [Int.max_eq_right q]
      exact Or.inr ⟨c, Or.inr ⟨rfl, rfl⟩⟩
  · rcases Int.le_total c b with q | q
    · rw [Int.max_eq_left q]
      exact h5.imp id (fun ⟨y, z⟩ => ⟨y, Or.inl z⟩)
    · rw [Int.max_eq_right q]
      exact Or.inr ⟨a, Or.inr ⟨rfl, rfl⟩⟩
theorem boxP_cong {S S' : Int → Int → Prop} {l t r b : Int} (h : boxP S l t r b) (e : ∀ x y, S' x y ↔ S x y) : boxP S' l t r b := by
  have : S' = S := by
    funext x y
    exact propext (e x y)
  rw [this]
  exact h
theorem boxP_uniq {S : Int → Int → Prop} {l t r b l' t' r' b' : Int} (hS : ∀ x y, S x y → (0 ≤ x ∧ x ≤ 600) ∧ (0 ≤ y ∧ y ≤ 600)) (h : boxP S l t r b) (h' : boxP S l' t' r' b') (hl : l ≤ 600 ∧ t ≤ 600 ∧ 0 ≤ r ∧ 0 ≤ b) (hl' : l' ≤ 600 ∧ t' ≤ 600 ∧ 0 ≤ r' ∧ 0 ≤ b') : l = l' ∧ t = t' ∧ r = r' ∧ b = b' := by
  obtain ⟨h1, h2, h3, h4, h5⟩ := h
  obtain ⟨g1, g2, g3, g4, g5⟩ := h'
  refine ⟨?_, ?_, ?_, ?_⟩
  · have a : l ≤ l' := g2.elim (fun q => by omega) (fun ⟨y, q⟩ => (h1 _ _ q).1)
    have b : l' ≤ l := h2.elim (fun q => by omega) (fun ⟨y, q⟩ => (g1 _ _ q).1)
    omega
  · have a : t ≤ t' := g3.elim (fun q => by omega) (fun ⟨y, q⟩ => (h1 _ _ q).2.1)
    have b : t' ≤ t := h3.elim (fun q => by omega) (fun ⟨y, q⟩ => (g1 _ _ q).2.1)
    omega
  · have a : r' ≤ r := g4.elim (fun q => by omega) (fun ⟨y, q⟩ => (h1 _ _ q).2.2.1)
    have b : r ≤ r' := h4.elim (fun q => by omega) (fun ⟨y, q⟩ => (g1 _ _ q).2.2.1)
    omega
  · have a : b' ≤ b := g5.elim (fun q => by omega) (fun ⟨y, q⟩ => (h1 _ _ q).2.2.2)
    have b : b ≤ b' := h5.elim (fun q => by omega) (fun ⟨y, q⟩ => (g1 _ _ q).2.2.2)
    omega
/-- the corners of the first n rings of the shape at k, and i of ring n -/
def cS (F : Nat → Nat → Int) (G : Nat → Int → Int) (k n : Nat) (i x y : Int) : Prop := ∃ (q : Nat) (j : Int), ((q < n ∧ 0 ≤ j ∧ j < F (k + 3 + 3 * q) 2) ∨ (q = n ∧ 0 ≤ j ∧ j < i)) ∧ x = G (k + 3 + 3 * q + 1) j ∧ y = G (k + 3 + 3 * q + 2) j
theorem cS_0 {F : Nat → Nat → Int} {G : Nat → Int → Int} {k : Nat} (x y : Int) : ¬ cS F G k 0 0 x y := fun ⟨q, j, h, _⟩ => by omega
theorem cS_i {F : Nat → Nat → Int} {G : Nat → Int → Int} {k n : Nat} {i : Int} (hi : 0 ≤ i) (x y : Int) : cS F G k n (i + 1) x y ↔ (cS F G k n i x y ∨ (x = G (k + 3 + 3 * n + 1) i ∧ y = G (k + 3 + 3 * n + 2) i)) := by
  constructor
  · rintro ⟨q, j, h, h2⟩
    by_cases e : q = n ∧ j = i
    · rw [e.1, e.2] at h2
      exact Or.inr h2
    · exact Or.inl ⟨q, j, by omega, h2⟩
  · rintro (⟨q, j, h, h2⟩ | h)
    · exact ⟨q, j, by omega, h2⟩
    · exact ⟨n, i, by omega, h⟩
theorem cS_n {F : Nat → Nat → Int} {G : Nat → Int → Int} {k n : Nat} {i : Int} (hi : i = F (k + 3 + 3 * n) 2) (x y : Int) : cS F G k (n + 1) 0 x y ↔ cS F G k n i x y := by
  subst hi
  constructor
  · rintro ⟨q, j, h, h2⟩
    refine ⟨q, j, ?_, h2⟩
    rcases h with h | h
    · by_cases e : q = n
      · subst e
        exact Or.inr ⟨rfl, h.2⟩
      · exact Or.inl ⟨by omega, h.2⟩
    · omega
  · rintro ⟨q, j, h, h2⟩
    refine ⟨q, j, Or.inl ?_, h2⟩
    rcases h with h | h
    · exact ⟨by omega, h.2⟩
    · obtain ⟨e, h⟩ := h
      subst e
      exact ⟨by omega, h⟩
theorem d_Sh_measure_0 : decode b_Sh_measure 0 = .ok (.aload_n 0, 1) := by decide +kernel
theorem d_Sh_measure_1 : decode b_Sh_measure 1 = .ok (.sipush 600, 3) := by decide +kernel
theorem d_Sh_measure_4 : decode b_Sh_measure 4 = .ok (.putfield 67, 3) := by decide +kernel
theorem d_Sh_measure_7 : decode b_Sh_measure 7 = .ok (.aload_n 0, 1) := by decide +kernel
theorem d_Sh_measure_8 : decode b_Sh_measure 8 = .ok (.sipush 600, 3) := by decide +kernel
theorem d_Sh_measure_11 : decode b_Sh_measure 11 = .ok (.putfield 70, 3) := by decide +kernel
theorem d_Sh_measure_14 : decode b_Sh_measure 14 = .ok (.aload_n 0, 1) := by decide +kernel
theorem d_Sh_measure_15 : decode b_Sh_measure 15 = .ok (.iconst 0, 1) := by decide +kernel
theorem d_Sh_measure_16 : decode b_Sh_measure 16 = .ok (.putfield 73, 3) := by decide +kernel
theorem d_Sh_measure_19 : decode b_Sh_measure 19 = .ok (.aload_n 0, 1) := by decide +kernel
theorem d_Sh_measure_20 : decode b_Sh_measure 20 = .ok (.iconst 0, 1) := by decide +kernel
theorem d_Sh_measure_21 : decode b_Sh_measure 21 = .ok (.putfield 76, 3) := by decide +kernel
theorem d_Sh_measure_24 : decode b_Sh_measure 24 = .ok (.iconst 0, 1) := by decide +kernel
theorem d_Sh_measure_25 : decode b_Sh_measure 25 = .ok (.istore_n 1, 1) := by decide +kernel
theorem d_Sh_measure_26 : decode b_Sh_measure 26 = .ok (.iload_n 1, 1) := by decide +kernel
theorem d_Sh_measure_27 : decode b_Sh_measure 27 = .ok (.iconst 4, 1) := by decide +kernel
theorem d_Sh_measure_28 : decode b_Sh_measure 28 = .ok (.if_icmp .ge 100, 3) := by decide +kernel
theorem d_Sh_measure_31 : decode b_Sh_measure 31 = .ok (.aload_n 0, 1) := by decide +kernel
theorem d_Sh_measure_32 : decode b_Sh_measure 32 = .ok (.getfield 11, 3) := by decide +kernel
theorem d_Sh_measure_35 : decode b_Sh_measure 35 = .ok (.iload_n 1, 1) := by decide +kernel
theorem d_Sh_measure_36 : decode b_Sh_measure 36 = .ok (.aaload, 1) := by decide +kernel
theorem d_Sh_measure_37 : decode b_Sh_measure 37 = .ok (.astore_n 2, 1) := by decide +kernel
theorem d_Sh_measure_38 : decode b_Sh_measure 38 = .ok (.iconst 0, 1) := by decide +kernel
theorem d_Sh_measure_39 : decode b_Sh_measure 39 = .ok (.istore_n 3, 1) := by decide +kernel
theorem d_Sh_measure_40 : decode b_Sh_measure 40 = .ok (.iload_n 3, 1) := by decide +kernel
theorem d_Sh_measure_41 : decode b_Sh_measure 41 = .ok (.aload_n 2, 1) := by decide +kernel
theorem d_Sh_measure_42 : decode b_Sh_measure 42 = .ok (.getfield 53, 3) := by decide +kernel
theorem d_Sh_measure_45 : decode b_Sh_measure 45 = .ok (.if_icmp .ge 77, 3) := by decide +kernel
theorem d_Sh_measure_48 : decode b_Sh_measure 48 = .ok (.aload_n 0, 1) := by decide +kernel
theorem d_Sh_measure_49 : decode b_Sh_measure 49 = .ok (.aload_n 0, 1) := by decide +kernel
theorem d_Sh_measure_50 : decode b_Sh_measure 50 = .ok (.getfield 67, 3) := by decide +kernel
theorem d_Sh_measure_53 : decode b_Sh_measure 53 = .ok (.aload_n 2, 1) := by decide +kernel
theorem d_Sh_measure_54 : decode b_Sh_measure 54 = .ok (.getfield 56, 3) := by decide +kernel
theorem d_Sh_measure_57 : decode b_Sh_measure 57 = .ok (.iload_n 3, 1) := by decide +kernel
theorem d_Sh_measure_58 : decode b_Sh_measure 58 = .ok (.iaload, 1) := by decide +kernel
theorem d_Sh_measure_59 : decode b_Sh_measure 59 = .ok (.invokestatic 79, 3) := by decide +kernel
theorem d_Sh_measure_62 : decode b_Sh_measure 62 = .ok (.putfield 67, 3) := by decide +kernel
theorem d_Sh_measure_65 : decode b_Sh_measure 65 = .ok (.aload_n 0, 1) := by decide +kernel
theorem d_Sh_measure_66 : decode b_Sh_measure 66 = .ok (.aload_n 0, 1) := by decide +kernel
theorem d_Sh_measure_67 : decode b_Sh_measure 67 = .ok (.getfield 70, 3) := by decide +kernel
theorem d_Sh_measure_70 : decode b_Sh_measure 70 = .ok (.aload_n 2, 1) := by decide +kernel
theorem d_Sh_measure_71 : decode b_Sh_measure 71 = .ok (.getfield 60, 3) := by decide +kernel
theorem d_Sh_measure_74 : decode b_Sh_measure 74 = .ok (.iload_n 3, 1) := by decide +kernel
theorem d_Sh_measure_75 : decode b_Sh_measure 75 = .ok (.iaload, 1) := by decide +kernel
theorem d_Sh_measure_76 : decode b_Sh_measure 76 = .ok (.invokestatic 79, 3) := by decide +kernel
theorem d_Sh_measure_79 : decode b_Sh_measure 79 = .ok (.putfield 70, 3) := by decide +kernel
theorem d_Sh_measure_82 : decode b_Sh_measure 82 = .ok (.aload_n 0, 1) := by decide +kernel
theorem d_Sh_measure_83 : decode b_Sh_measure 83 = .ok (.aload_n 0, 1) := by decide +kernel
theorem d_Sh_measure_84 : decode b_Sh_measure 84 = .ok (.getfield 73, 3) := by decide +kernel
theorem d_Sh_measure_87 : decode b_Sh_measure 87 = .ok (.aload_n 2, 1) := by decide +kernel
theorem d_Sh_measure_88 : decode b_Sh_measure 88 = .ok (.getfield 56, 3) := by decide +kernel
theorem d_Sh_measure_91 : decode b_Sh_measure 91 = .ok (.iload_n 3, 1) := by decide +kernel
theorem d_Sh_measure_92 : decode b_Sh_measure 92 = .ok (.iaload, 1) := by decide +kernel
theorem d_Sh_measure_93 : decode b_Sh_measure 93 = .ok (.invokestatic 85, 3) := by decide +kernel
theorem d_Sh_measure_96 : decode b_Sh_measure 96 = .ok (.putfield 73, 3) := by decide +kernel
theorem d_Sh_measure_99 : decode b_Sh_measure 99 = .ok (.aload_n 0, 1) := by decide +kernel
theorem d_Sh_measure_100 : decode b_Sh_measure 100 = .ok (.aload_n 0, 1) := by decide +kernel
theorem d_Sh_measure_101 : decode b_Sh_measure 101 = .ok (.getfield 76, 3) := by decide +kernel
theorem d_Sh_measure_104 : decode b_Sh_measure 104 = .ok (.aload_n 2, 1) := by decide +kernel
theorem d_Sh_measure_105 : decode b_Sh_measure 105 = .ok (.getfield 60, 3) := by decide +kernel
theorem d_Sh_measure_108 : decode b_Sh_measure 108 = .ok (.iload_n 3, 1) := by decide +kernel
theorem d_Sh_measure_109 : decode b_Sh_measure 109 = .ok (.iaload, 1) := by decide +kernel
theorem d_Sh_measure_110 : decode b_Sh_measure 110 = .ok (.invokestatic 85, 3) := by decide +kernel
theorem d_Sh_measure_113 : decode b_Sh_measure 113 = .ok (.putfield 76, 3) := by decide +kernel
theorem d_Sh_measure_116 : decode b_Sh_measure 116 = .ok (.iinc 3 1, 3) := by decide +kernel
theorem d_Sh_measure_119 : decode b_Sh_measure 119 = .ok (.goto (-79), 3) := by decide +kernel
theorem d_Sh_measure_122 : decode b_Sh_measure 122 = .ok (.iinc 1 1, 3) := by decide +kernel
theorem d_Sh_measure_125 : decode b_Sh_measure 125 = .ok (.goto (-99), 3) := by decide +kernel
theorem d_Sh_measure_128 : decode b_Sh_measure 128 = .ok (.return_, 1) := by decide +kernel
set_option maxHeartbeats 4000000 in
set_option maxRecDepth 100000 in
theorem c_Sh_measure (F : Nat → Nat → Int) (G : Nat → Int → Int) (k : Nat) (hK : isSh k) (hRs : sRg F G k) : cV y_Sh_measure b_Sh_measure 4 none 1 21 F G (fun ad => [.ref (ad k)]) (fun F' G' => G' = G ∧ ∃ lf tp rt bt : Int, F' = (fU (fU (fU (fU F k 7 lf) k 8 tp) k 9 rt) k 10 bt) ∧ ((0 ≤ lf ∧ lf ≤ 600) ∧ (0 ≤ tp ∧ tp ≤ 600) ∧ (0 ≤ rt ∧ rt ≤ 600) ∧ (0 ≤ bt ∧ bt ≤ 600)) ∧ boxP (cS F G k 4 0) lf tp rt bt) := by
  intro s0 a0 D t ad
  refine g_startV (by decide +kernel) (Nat.le_of_ble_eq_true rfl) (fun p l e R s m args below meth c A ok => ?_)
  show gW p l e R s m args below meth c _ D A 4 (gZ0 s) 0 0 ad 265 (mem ad t F G) 0 [(0, .ref (ad k))] []
  refine g_aload_n ok d_Sh_measure_0 rfl 0 rfl ?_
  refine g_sipush ok (by decide) d_Sh_measure_1 ?_
  refine pI_Sh_left ok _ hK k_110 d_Sh_measure_4 ?_
  refine g_aload_n ok d_Sh_measure_7 rfl 0 rfl ?_
  refine g_sipush ok (by decide) d_Sh_measure_8 ?_
  refine pI_Sh_top ok _ hK k_114 d_Sh_measure_11 ?_
  refine g_aload_n ok d_Sh_measure_14 rfl 0 rfl ?_
  refine g_iconst ok d_Sh_measure_15 ?_
  refine pI_Sh_right ok _ hK k_118 d_Sh_measure_16 ?_
  refine g_aload_n ok d_Sh_measure_19 rfl 0 rfl ?_
  refine g_iconst ok d_Sh_measure_20 ?_
  refine pI_Sh_bottom ok _ hK k_122 d_Sh_measure_21 ?_
  refine g_iconst ok d_Sh_measure_24 ?_
  refine g_istore_n (lv' := [(1, .int (iI 0)), (0, .ref (ad k))]) ok d_Sh_measure_25 rfl (by decide) rfl ?_
  have L_r : ∀ (n_r : Nat) (r : Int) (lf : Int) (tp : Int) (rt : Int) (bt : Int), (0 ≤ r ∧ r ≤ 4) → ((0 ≤ lf ∧ lf ≤ 600) ∧ (0 ≤ tp ∧ tp ≤ 600) ∧ (0 ≤ rt ∧ rt ≤ 600) ∧ (0 ≤ bt ∧ bt ≤ 600)) → (boxP (cS F G k r.toNat 0) lf tp rt bt) → (5 - r) < (n_r : Int) → gW p l e R s m args below meth c (MQ below (gQv D A ad 265 (fun ce' => ∃ F' G', ce' = mem ad t F' G' ∧ (fun F' G' => G' = G ∧ ∃ lf tp rt bt : Int, F' = (fU (fU (fU (fU F k 7 lf) k 8 tp) k 9 rt) k 10 bt) ∧ ((0 ≤ lf ∧ lf ≤ 600) ∧ (0 ≤ tp ∧ tp ≤ 600) ∧ (0 ≤ rt ∧ rt ≤ 600) ∧ (0 ≤ bt ∧ bt ≤ 600)) ∧ boxP (cS F G k 4 0) lf tp rt bt) F' G')) args s 0 0 A) D A 4 (gZ) 0 0 ad 265 (mem ad t (fU (fU (fU (fU F k 7 lf) k 8 tp) k 9 rt) k 10 bt) G) 26 [(0, .ref (ad k)), (1, .int (iI r))] [] := by
    intro n_r
    induction n_r with
    | zero =>
      intro r lf tp rt bt hr hb hx hm_r
      exact absurd hm_r (by omega)
    | succ n_r ih_r =>
      intro r lf tp rt bt hr hb hx hm_r
      refine g_iload_n ok d_Sh_measure_26 rfl 1 rfl ?_
      refine g_iconst ok d_Sh_measure_27 ?_
      refine g_icmp_ge ok 128 d_Sh_measure_28 (by decide) (by omega) (by omega) (fun h1 => ?_) (fun h1 => ?_)
      · exact g_vret ok d_Sh_measure_128 ⟨_, _, rfl, rfl, lf, tp, rt, bt, rfl, hb, by rw [show r.toNat = 4 by omega] at hx; exact hx⟩
      · obtain ⟨hsz, hX⟩ := hRs r.toNat (by omega)
        have hr32 := rRoom_le ((k + 3 + 3 * r.toNat - 2) % 22)
        have a1 : isA (k + 3 + 3 * r.toNat + 1) (rRoom ((k + 3 + 3 * r.toNat - 2) % 22)) := a_rg (rg_of hK (by omega)) (Or.inl rfl) rfl
        have a2 : isA (k + 3 + 3 * r.toNat + 2) (rRoom ((k + 3 + 3 * r.toNat - 2) % 22)) := a_rg (rg_of hK (by omega)) (Or.inr rfl) rfl
        refine g_aload_n ok d_Sh_measure_31 rfl 0 rfl ?_
        refine gI_Sh_rings ok _ hK k_83 d_Sh_measure_32 ?_
        refine g_iload_n ok d_Sh_measure_35 rfl 1 rfl ?_
        refine h_rings ok _ hK (by omega) d_Sh_measure_36 ?_
        refine g_astore_n (lv' := [(2, .ref (ad (k + 3 + 3 * (r : Int).toNat))), (0, .ref (ad k)), (1, .int (iI r))]) ok d_Sh_measure_37 rfl (by decide) rfl ?_
        refine g_iconst ok d_Sh_measure_38 ?_
        refine g_istore_n (lv' := [(3, .int (iI 0)), (2, .ref (ad (k + 3 + 3 * (r : Int).toNat))), (0, .ref (ad k)), (1, .int (iI r))]) ok d_Sh_measure_39 rfl (by decide) rfl ?_
        have L_i : ∀ (n_i : Nat) (i : Int) (lf : Int) (tp : Int) (rt : Int) (bt : Int), (0 ≤ i ∧ i ≤ F (k + 3 + 3 * r.toNat) 2) → ((0 ≤ lf ∧ lf ≤ 600) ∧ (0 ≤ tp ∧ tp ≤ 600) ∧ (0 ≤ rt ∧ rt ≤ 600) ∧ (0 ≤ bt ∧ bt ≤ 600)) → (boxP (cS F G k r.toNat i) lf tp rt bt) → (F (k + 3 + 3 * r.toNat) 2 + 1 - i) < (n_i : Int) → gW p l e R s m args below meth c (MQ below (gQv D A ad 265 (fun ce' => ∃ F' G', ce' = mem ad t F' G' ∧ (fun F' G' => G' = G ∧ ∃ lf tp rt bt : Int, F' = (fU (fU (fU (fU F k 7 lf) k 8 tp) k 9 rt) k 10 bt) ∧ ((0 ≤ lf ∧ lf ≤ 600) ∧ (0 ≤ tp ∧ tp ≤ 600) ∧ (0 ≤ rt ∧ rt ≤ 600) ∧ (0 ≤ bt ∧ bt ≤ 600)) ∧ boxP (cS F G k 4 0) lf tp rt bt) F' G')) args s 0 0 A) D A 4 (gZ) 0 0 ad 265 (mem ad t (fU (fU (fU (fU F k 7 lf) k 8 tp) k 9 rt) k 10 bt) G) 40 [(0, .ref (ad k)), (1, .int (iI r)), (2, .ref (ad (k + 3 + 3 * (r : Int).toNat))), (3, .int (iI i))] [] := by
          intro n_i
          induction n_i with
          | zero =>
            intro i lf tp rt bt hi hb hy hm_i
            exact absurd hm_i (by omega)
          | succ n_i ih_i =>
            intro i lf tp rt bt hi hb hy hm_i
            refine g_iload_n ok d_Sh_measure_40 rfl 3 rfl ?_
            refine g_aload_n ok d_Sh_measure_41 rfl 2 rfl ?_
            refine gN_Rg_size ok _ (rg_of hK (by omega)) k_58 d_Sh_measure_42 ?_
            refine g_top (y := F (k + 3 + 3 * (r : Int).toNat) 2) (by show (fU (fU (fU (fU F k 7 lf) k 8 tp) k 9 rt) k 10 bt) (k + 3 + 3 * (r : Int).toNat) 2 = _; rw [fU_ja (show (2 : Nat) ≠ 10 by decide), fU_ja (show (2 : Nat) ≠ 9 by decide), fU_ja (show (2 : Nat) ≠ 8 by decide), fU_ja (show (2 : Nat) ≠ 7 by decide)]) ?_
            refine g_icmp_ge ok 122 d_Sh_measure_45 (by decide) (by omega) (by omega) (fun h2 => ?_) (fun h2 => ?_)
            · refine g_iinc (lv' := [(1, .int (iI (r + 1))), (0, .ref (ad k)), (2, .ref (ad (k + 3 + 3 * (r : Int).toNat))), (3, .int (iI i))]) ok d_Sh_measure_122 1 rfl (by decide) rfl ?_
              refine g_goto ok 26 d_Sh_measure_125 (by decide) ?_
              refine g_lv [1, 0] rfl ?_
              exact ih_r (r + 1) lf tp rt bt (by omega) (by omega) (by rw [show (r + 1).toNat = r.toNat + 1 by omega]; exact boxP_cong hy (cS_n (by omega))) (by omega)
            · have hxi := hX i (by omega) (by omega)
              refine g_aload_n ok d_Sh_measure_48 rfl 0 rfl ?_
              refine g_aload_n ok d_Sh_measure_49 rfl 0 rfl ?_
              refine gI_Sh_left ok _ hK k_110 d_Sh_measure_50 ?_
              refine g_top (y := lf) (by show (fU (fU (fU (fU F k 7 lf) k 8 tp) k 9 rt) k 10 bt) k 7 = _; rw [fU_ja (show (7 : Nat) ≠ 10 by decide), fU_ja (show (7 : Nat) ≠ 9 by decide), fU_ja (show (7 : Nat) ≠ 8 by decide), fU_hit]) ?_
              refine g_aload_n ok d_Sh_measure_53 rfl 2 rfl ?_
              refine gN_Rg_xs ok _ (rg_of hK (by omega)) k_46 d_Sh_measure_54 ?_
              refine g_iload_n ok d_Sh_measure_57 rfl 3 rfl ?_
              refine h_iald ok _ a1 (by omega) d_Sh_measure_58 ?_
              refine g_callPS (As := [.int (iI lf), .int (iI (G ((k + 3 + 3 * (r : Int).toNat) + 1) i))]) (st := [.ref (ad k)]) ok (c_Ma_min (fU (fU (fU (fU F k 7 lf) k 8 tp) k 9 rt) k 10 bt) G _ _ (by omega) (by omega) s0 a0 D t ad) k_417 k_18 k_889 k_416 q_Ma_min (by decide) (Nat.le_of_ble_eq_true rfl) (by decide) d_Sh_measure_59 (fun z3 hc3 => ?_)
              subst hc3
              refine pI_Sh_left ok _ hK k_110 d_Sh_measure_62 ?_
              refine g_aload_n ok d_Sh_measure_65 rfl 0 rfl ?_
              refine g_aload_n ok d_Sh_measure_66 rfl 0 rfl ?_
              refine gI_Sh_top ok _ hK k_114 d_Sh_measure_67 ?_
              refine g_top (y := tp) (by show (fU (fU (fU (fU (fU F k 7 lf) k 8 tp) k 9 rt) k 10 bt) k 7 (min lf (G ((k + 3 + 3 * (r : Int).toNat) + 1) i))) k 8 = _; rw [fU_ja (show (8 : Nat) ≠ 7 by decide), fU_ja (show (8 : Nat) ≠ 10 by decide), fU_ja (show (8 : Nat) ≠ 9 by decide), fU_hit]) ?_
              refine g_aload_n ok d_Sh_measure_70 rfl 2 rfl ?_
              refine gN_Rg_ys ok _ (rg_of hK (by omega)) k_51 d_Sh_measure_71 ?_
              refine g_iload_n ok d_Sh_measure_74 rfl 3 rfl ?_
              refine h_iald ok _ a2 (by omega) d_Sh_measure_75 ?_
              refine g_callPS (As := [.int (iI tp), .int (iI (G ((k + 3 + 3 * (r : Int).toNat) + 2) i))]) (st := [.ref (ad k)]) ok (c_Ma_min (fU (fU (fU (fU (fU F k 7 lf) k 8 tp) k 9 rt) k 10 bt) k 7 (min lf (G ((k + 3 + 3 * (r : Int).toNat) + 1) i))) G _ _ (by omega) (by omega) s0 a0 D t ad) k_417 k_18 k_889 k_416 q_Ma_min (by decide) (Nat.le_of_ble_eq_true rfl) (by decide) d_Sh_measure_76 (fun z4 hc4 => ?_)
              subst hc4
              refine pI_Sh_top ok _ hK k_114 d_Sh_measure_79 ?_
              refine g_aload_n ok d_Sh_measure_82 rfl 0 rfl ?_
              refine g_aload_n ok d_Sh_measure_83 rfl 0 rfl ?_
              refine gI_Sh_right ok _ hK k_118 d_Sh_measure_84 ?_
              refine g_top (y := rt) (by show (fU (fU (fU (fU (fU (fU F k 7 lf) k 8 tp) k 9 rt) k 10 bt) k 7 (min lf (G ((k + 3 + 3 * (r : Int).toNat) + 1) i))) k 8 (min tp (G ((k + 3 + 3 * (r : Int).toNat) + 2) i))) k 9 = _; rw [fU_ja (show (9 : Nat) ≠ 8 by decide), fU_ja (show (9 : Nat) ≠ 7 by decide), fU_ja (show (9 : Nat) ≠ 10 by decide), fU_hit]) ?_
              refine g_aload_n ok d_Sh_measure_87 rfl 2 rfl ?_
              refine gN_Rg_xs ok _ (rg_of hK (by omega)) k_46 d_Sh_measure_88 ?_
              refine g_iload_n ok d_Sh_measure_91 rfl 3 rfl ?_
              refine h_iald ok _ a1 (by omega) d_Sh_measure_92 ?_
              refine g_callPS (As := [.int (iI rt), .int (iI (G ((k + 3 + 3 * (r : Int).toNat) + 1) i))]) (st := [.ref (ad k)]) ok (c_Ma_max (fU (fU (fU (fU (fU (fU F k 7 lf) k 8 tp) k 9 rt) k 10 bt) k 7 (min lf (G ((k + 3 + 3 * (r : Int).toNat) + 1) i))) k 8 (min tp (G ((k + 3 + 3 * (r : Int).toNat) + 2) i))) G _ _ (by omega) (by omega) s0 a0 D t ad) k_414 k_18 k_890 k_413 q_Ma_max (by decide) (Nat.le_of_ble_eq_true rfl) (by decide) d_Sh_measure_93 (fun z5 hc5 => ?_)
              subst hc5
              refine pI_Sh_right ok _ hK k_118 d_Sh_measure_96 ?_
              refine g_aload_n ok d_Sh_measure_99 rfl 0 rfl ?_
              refine g_aload_n ok d_Sh_measure_100 rfl 0 rfl ?_
              refine gI_Sh_bottom ok _ hK k_122 d_Sh_measure_101 ?_
              refine g_top (y := bt) (by show (fU (fU (fU (fU (fU (fU (fU F k 7 lf) k 8 tp) k 9 rt) k 10 bt) k 7 (min lf (G ((k + 3 + 3 * (r : Int).toNat) + 1) i))) k 8 (min tp (G ((k + 3 + 3 * (r : Int).toNat) + 2) i))) k 9 (max rt (G ((k + 3 + 3 * (r : Int).toNat) + 1) i))) k 10 = _; rw [fU_ja (show (10 : Nat) ≠ 9 by decide), fU_ja (show (10 : Nat) ≠ 8 by decide), fU_ja (show (10 : Nat) ≠ 7 by decide), fU_hit]) ?_
              refine g_aload_n ok d_Sh_measure_104 rfl 2 rfl ?_
              refine gN_Rg_ys ok _ (rg_of hK (by omega)) k_51 d_Sh_measure_105 ?_
              refine g_iload_n ok d_Sh_measure_108 rfl 3 rfl ?_
              refine h_iald ok _ a2 (by omega) d_Sh_measure_109 ?_
              refine g_callPS (As := [.int (iI bt), .int (iI (G ((k + 3 + 3 * (r : Int).toNat) + 2) i))]) (st := [.ref (ad k)]) ok (c_Ma_max (fU (fU (fU (fU (fU (fU (fU F k 7 lf) k 8 tp) k 9 rt) k 10 bt) k 7 (min lf (G ((k + 3 + 3 * (r : Int).toNat) + 1) i))) k 8 (min tp (G ((k + 3 + 3 * (r : Int).toNat) + 2) i))) k 9 (max rt (G ((k + 3 + 3 * (r : Int).toNat) + 1) i))) G _ _ (by omega) (by omega) s0 a0 D t ad) k_414 k_18 k_890 k_413 q_Ma_max (by decide) (Nat.le_of_ble_eq_true rfl) (by decide) d_Sh_measure_110 (fun z6 hc6 => ?_)
              subst hc6
              refine pI_Sh_bottom ok _ hK k_122 d_Sh_measure_113 ?_
              refine g_iinc (lv' := [(3, .int (iI (i + 1))), (0, .ref (ad k)), (1, .int (iI r)), (2, .ref (ad (k + 3 + 3 * (r : Int).toNat)))]) ok d_Sh_measure_116 3 rfl (by decide) rfl ?_
              refine g_goto ok 40 d_Sh_measure_119 (by decide) ?_
              refine g_lv [1, 2, 3, 0] rfl ?_
              rw [fU4]
              exact ih_i (i + 1) (min lf (G ((k + 3 + 3 * (r : Int).toNat) + 1) i)) (min tp (G ((k + 3 + 3 * (r : Int).toNat) + 2) i)) (max rt (G ((k + 3 + 3 * (r : Int).toNat) + 1) i)) (max bt (G ((k + 3 + 3 * (r : Int).toNat) + 2) i)) (by omega) (by omega) (boxP_cong (boxP_add hy _ _) (cS_i hi.1)) (by omega)
        refine g_z ?_
        refine g_lv [2, 3, 1, 0] rfl ?_
        exact L_i ((F (k + 3 + 3 * r.toNat) 2 + 1 - 0 : Int).toNat + 1) 0 lf tp rt bt (by omega) (by omega) (hx) (by omega)
  refine g_z ?_
  refine g_lv [1, 0] rfl ?_
  exact L_r ((5 - 0 : Int).toNat + 1) 0 600 600 0 0 (by omega) (by omega) (⟨fun x y q => absurd q (cS_0 x y), Or.inl rfl, Or.inl rfl, Or.inl rfl, Or.inl rfl⟩) (by omega)
