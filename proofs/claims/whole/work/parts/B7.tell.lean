/-! begin, corner and rail on both sides -/
theorem fU_n {F : Nat → Nat → Int} {k j a b : Nat} {v : Int} (h : ¬ (a = k ∧ b = j)) : fU F k j v a b = F a b := if_neg h
theorem clrN_ne {k : Nat} {F : Nat → Nat → Int} {a b : Nat} : ∀ n : Nat, (∀ q, q < n → ¬ (a = k + 3 * q ∧ b = 2)) → clrN k F n a b = F a b
  | 0, _ => rfl
  | n + 1, h => by
    show fU (clrN k F n) (k + 3 * n) 2 0 a b = F a b
    rw [fU_n (h n (by omega)), clrN_ne n (fun q hq => h q (by omega))]
theorem clrN_hit {k : Nat} {F : Nat → Nat → Int} {q : Nat} : ∀ n : Nat, q < n → clrN k F n (k + 3 * q) 2 = 0
  | 0, h => absurd h (by omega)
  | n + 1, h => by
    show fU (clrN k F n) (k + 3 * n) 2 0 (k + 3 * q) 2 = 0
    by_cases e : q = n
    · rw [e, fU_hit]
    · rw [fU_n (by omega), clrN_hit n (by omega)]
theorem beg_rd {F F1 : Nat → Nat → Int} {k : Nat} {c0 f0 sp d : Int} (hk : 2 ≤ k) (e : F1 = fU (fU (fU (clrN (k + 15) (clrN (k + 3) (fU (fU (fU (fU F k 3 c0) k 4 f0) k 5 sp) k 6 d) 4) 2) (k + 21) 0 0) (k + 21) 1 0) 0 10 1) : (∀ a b, ¬ (k ≤ a ∧ a < k + 22) → ¬ (a = 0 ∧ b = 10) → F1 a b = F a b) ∧ (F1 k 3 = c0 ∧ F1 k 4 = f0 ∧ F1 k 5 = sp ∧ F1 k 6 = d) ∧ (∀ q : Nat, q < 4 → F1 (k + 3 + 3 * q) 2 = 0) ∧ (F1 (k + 15) 2 = 0 ∧ F1 (k + 18) 2 = 0) ∧ (F1 (k + 21) 0 = 0 ∧ F1 (k + 21) 1 = 0) ∧ F1 0 10 = 1 := by
  rw [e]
  refine ⟨fun a b z1 z2 => ?_, ⟨?_, ?_, ?_, ?_⟩, fun q hq => ?_, ⟨?_, ?_⟩, ⟨?_, ?_⟩, fU_hit⟩
  · rw [fU_n (by omega), fU_n (by omega), fU_n (by omega), clrN_ne 2 (fun q hq => by omega), clrN_ne 4 (fun q hq => by omega), fU_n (by omega), fU_n (by omega), fU_n (by omega), fU_n (by omega)]
  · rw [fU_n (by omega), fU_n (by omega), fU_n (by omega), clrN_ne 2 (fun q hq => by omega), clrN_ne 4 (fun q hq => by omega), fU_n (by omega), fU_n (by omega), fU_n (by omega), fU_hit]
  · rw [fU_n (by omega), fU_n (by omega), fU_n (by omega), clrN_ne 2 (fun q hq => by omega), clrN_ne 4 (fun q hq => by omega), fU_n (by omega), fU_n (by omega), fU_hit]
  · rw [fU_n (by omega), fU_n (by omega), fU_n (by omega), clrN_ne 2 (fun q hq => by omega), clrN_ne 4 (fun q hq => by omega), fU_n (by omega), fU_hit]
  · rw [fU_n (by omega), fU_n (by omega), fU_n (by omega), clrN_ne 2 (fun q hq => by omega), clrN_ne 4 (fun q hq => by omega), fU_hit]
  · rw [fU_n (by omega), fU_n (by omega), fU_n (by omega), clrN_ne 2 (fun q hq => by omega), clrN_hit 4 hq]
  · rw [fU_n (by omega), fU_n (by omega), fU_n (by omega)]
    exact clrN_hit (k := k + 15) (q := 0) 2 (by decide)
  · rw [fU_n (by omega), fU_n (by omega), fU_n (by omega)]
    exact clrN_hit (k := k + 15) (q := 1) 2 (by decide)
  · rw [fU_n (by omega), fU_n (by omega), fU_hit]
  · rw [fU_n (by omega), fU_hit]
theorem begG {G G2 : Nat → Int → Int} {c0 f0 sp d : Int} (e : G2 = gU (gU (gU (gU (gU (gU (gU (gU G 245 40 c0) 245 41 f0) 245 42 sp) 245 43 d) 246 40 0) 246 41 0) 246 42 0) 246 43 0) : (G2 245 40 = c0 ∧ G2 245 41 = f0 ∧ G2 245 42 = sp ∧ G2 245 43 = d) ∧ (G2 246 40 = 0 ∧ G2 246 41 = 0 ∧ G2 246 42 = 0 ∧ G2 246 43 = 0) ∧ (∀ a, a ≠ 245 → a ≠ 246 → G2 a = G a) ∧ ∀ i : Int, i < 40 → G2 245 i = G 245 i ∧ G2 246 i = G 246 i := by
  rw [e]
  refine ⟨⟨?_, ?_, ?_, ?_⟩, ⟨?_, ?_, ?_, ?_⟩, fun a z1 z2 => ?_, fun i hi => ⟨?_, ?_⟩⟩
  · rw [gU_a (by decide), gU_a (by decide), gU_a (by decide), gU_a (by decide), gU_i (by decide), gU_i (by decide), gU_i (by decide), gU_hit]
  · rw [gU_a (by decide), gU_a (by decide), gU_a (by decide), gU_a (by decide), gU_i (by decide), gU_i (by decide), gU_hit]
  · rw [gU_a (by decide), gU_a (by decide), gU_a (by decide), gU_a (by decide), gU_i (by decide), gU_hit]
  · rw [gU_a (by decide), gU_a (by decide), gU_a (by decide), gU_a (by decide), gU_hit]
  · rw [gU_i (by decide), gU_i (by decide), gU_i (by decide), gU_hit]
  · rw [gU_i (by decide), gU_i (by decide), gU_hit]
  · rw [gU_i (by decide), gU_hit]
  · rw [gU_hit]
  · rw [gU_k _ _ _ z2, gU_k _ _ _ z2, gU_k _ _ _ z2, gU_k _ _ _ z2, gU_k _ _ _ z1, gU_k _ _ _ z1, gU_k _ _ _ z1, gU_k _ _ _ z1]
  · rw [gU_a (by decide), gU_a (by decide), gU_a (by decide), gU_a (by decide), gU_i (by omega), gU_i (by omega), gU_i (by omega), gU_i (by omega)]
  · rw [gU_i (by omega), gU_i (by omega), gU_i (by omega), gU_i (by omega), gU_a (by decide), gU_a (by decide), gU_a (by decide), gU_a (by decide)]
theorem isSh_n {n : Int} (h : 0 ≤ n ∧ n < 10) : isSh (2 + 22 * n.toNat) := by
  unfold isSh
  omega
theorem o_begin {F : Nat → Nat → Int} {G : Nat → Int → Int} (h : Inv F G) (p1 p2 p3 p4 : Int) (q1 : -2147483648 ≤ p1 ∧ p1 < 2147483648) (q2 : -2147483648 ≤ p2 ∧ p2 < 2147483648) (q3 : -2147483648 ≤ p3 ∧ p3 < 2147483648) (q4 : -2147483648 ≤ p4 ∧ p4 < 2147483648) : oq_begin Inv F G p1 p2 p3 p4 := by
  obtain ⟨hA, hF, hL, hP, hQ, hT, hS, hO⟩ := id h
  have hn := hA.1
  have ho' : F 244 2 = 0 ∨ F 244 2 = 1 := by rw [hA.2.2.2.1]; exact hA.2.2.1
  have hn' : 0 ≤ F 244 1 ∧ F 244 1 ≤ 10 := by rw [hA.2.1]; exact hn
  have thr : ∀ v : Int, (v = 1 ∨ v = 2 ∨ v = 3) → (∀ tc, bgM F p1 p2 p3 p4 tc → tc = v) → ∀ F1 G1, F1 = F → G1 = G → ∃ post2, cV y_Mo_begin b_Mo_begin 7 none 0 0 F1 G1 (fun ad => [.ref (ad 244), .int (iI p1), .int (iI p2), .int (iI p3), .int (iI p4)]) post2 ∧ ∀ F2 G2, post2 F2 G2 → F2 244 0 = v ∧ Inv F2 G2 := fun v hv ht F1 G1 eF eG => by
    rw [eF, eG]
    refine ⟨_, c_Mo_begin F G p1 p2 p3 p4 q1 q2 q3 q4 ho' hn', fun F2 G2 h2 => ?_⟩
    obtain ⟨tc, a, b⟩ := h2
    have et := ht tc a
    rcases b with ⟨-, b1, b2⟩ | ⟨b1, -⟩
    · rw [b1, b2, et]
      exact ⟨fU_hit, iv_t h v⟩
    · omega
  by_cases c0 : F 0 10 = 1
  · refine ⟨_, l_begin_ISE F G p1 p2 p3 p4 (t_Dk_begin_1 F G p1 p2 p3 p4 c0), fun k F1 G1 hk => ?_⟩
    obtain ⟨ek, eF, eG⟩ := hk
    rw [ek]
    refine thr 1 (by decide) (fun tc a => ?_) F1 G1 eF eG
    unfold bgM at a
    rw [hA.2.2.2.1] at a
    omega
  · have c0' : F 0 10 = 0 := by have := hA.2.2.1; omega
    by_cases c1 : F 0 8 = 10
    · refine ⟨_, l_begin_UOE F G p1 p2 p3 p4 (t_Dk_begin_2 F G p1 p2 p3 p4 c0' c1), fun k F1 G1 hk => ?_⟩
      obtain ⟨ek, eF, eG⟩ := hk
      rw [ek]
      refine thr 2 (by decide) (fun tc a => ?_) F1 G1 eF eG
      unfold bgM at a
      rw [hA.2.2.2.1, hA.2.1] at a
      omega
    · by_cases c2 : bgOk p1 p2 p3 p4
      · have hn9 : 0 ≤ F 0 8 ∧ F 0 8 < 10 := by omega
        refine ⟨_, l_begin_ok F G p1 p2 p3 p4 _ (c_Dk_begin F G (2 + 22 * (F 0 8).toNat) hn9 rfl p1 p2 p3 p4 c0' c2), fun z0 F1 G1 hk => ?_⟩
        obtain ⟨ek, eF, eG⟩ := hk
        generalize hkk : 2 + 22 * (F 0 8).toNat = k at eF
        obtain ⟨r1, ⟨r2, r3, r4, r5⟩, r6, ⟨r7, r8⟩, ⟨r9, r10⟩, r11⟩ := beg_rd (by omega) eF
        have x1 : F1 244 1 = F 244 1 := r1 244 1 (by omega) (by omega)
        have x2 : F1 244 2 = F 244 2 := r1 244 2 (by omega) (by omega)
        rw [eG]
        refine ⟨_, c_Mo_begin F1 G p1 p2 p3 p4 q1 q2 q3 q4 (by rw [x2]; exact ho') (by rw [x1]; exact hn'), fun F2 G2 h2 => ?_⟩
        obtain ⟨tc, a, b⟩ := h2
        have et : tc = 0 := by
          unfold bgM at a
          rw [x1, x2, hA.2.2.2.1, hA.2.1] at a
          rcases a with ⟨-, a⟩ | ⟨-, -, a⟩ | ⟨-, -, -, a⟩ | ⟨a, -⟩
          · exact absurd a c0
          · exact absurd a c1
          · exact absurd c2 a
          · exact a
        rcases b with ⟨b1, -⟩ | ⟨-, b1, b2⟩
        · exact absurd et b1
        · obtain ⟨⟨g1, g2, g3, g4⟩, ⟨g5, g6, g7, g8⟩, g9, g10⟩ := begG b2
          have fr : ∀ a b, ¬ (a = 244 ∧ (b = 0 ∨ b = 2)) → F2 a b = F1 a b := fun a b y => by
            rw [b1, fU_n (by omega), fU_n (by omega)]
          have fs : ∀ a b, ¬ (k ≤ a ∧ a < k + 22) → ¬ (a = 0 ∧ b = 10) → ¬ (a = 244 ∧ (b = 0 ∨ b = 2)) → F2 a b = F a b := fun a b y1 y2 y3 => by rw [fr a b y3, r1 a b y1 y2]
          have cn : ∀ q : Int, 0 ≤ q → q < 4 → G2 246 (4 * 10 + q) = 0 := fun q a0 a1 => by
            rcases (show q = 0 ∨ q = 1 ∨ q = 2 ∨ q = 3 by omega) with e | e | e | e <;> subst e
            · exact g5
            · exact g6
            · exact g7
            · exact g8
          have s2 : ∀ q : Nat, q < 4 → F2 (k + 3 + 3 * q) 2 = 0 := fun q hq => by rw [fr _ _ (by omega), r6 q hq]
          have s15 : F2 (k + 15) 2 = 0 := by rw [fr _ _ (by omega), r7]
          have s18 : F2 (k + 18) 2 = 0 := by rw [fr _ _ (by omega), r8]
          have rin : ∀ R : Nat, F2 R 2 = 0 → rIn F2 G2 R := fun R e => by
            unfold rIn
            rw [e]
            exact ⟨⟨by omega, by omega⟩, fun i a b => by omega⟩
          have k3 : F2 k 3 = p1 := by rw [fr _ _ (by omega), r2]
          have k4 : F2 k 4 = p2 := by rw [fr _ _ (by omega), r3]
          have k5 : F2 k 5 = p3 := by rw [fr _ _ (by omega), r4]
          have k6 : F2 k 6 = p4 := by rw [fr _ _ (by omega), r5]
          have n8 : F2 0 8 = F 0 8 := fs 0 8 (by omega) (by omega) (by omega)
          have hcn : cnts G2 10 := fun q a0 a1 => by
            rw [cn q a0 a1]
            decide
          refine ⟨?_, ?_, ivF_cong hF (fun b => fs _ _ (by omega) (by omega) (by omega)) (fun b y => fs _ _ (by omega) (by omega) (by omega)), ivL_cong hL (fs _ _ (by omega) (by omega) (by omega)) (fs _ _ (by omega) (by omega) (by omega)) (g9 _ (by decide) (by decide)) (g9 _ (by decide) (by decide)), ivP_cong hP (fs _ _ (by omega) (by omega) (by omega)) (fs _ _ (by omega) (by omega) (by omega)) (g9 _ (by decide) (by decide)) (g9 _ (by decide) (by decide)) (g9 _ (by decide) (by decide)) (g9 _ (by decide) (by decide)), ivQ_cong hQ n8 (g9 _ (by decide) (by decide)) (g9 _ (by decide) (by decide)), ivT_cong hT (g9 _ (by decide) (by decide)), fun j j0 j1 => ?_, hcn, ?_, fun _ => ?_⟩
          · rw [ek, b1, fU_n (by omega), fU_hit]
          · unfold ivA
            rw [n8, fs 244 1 (by omega) (by omega) (by omega), fr 0 10 (by omega), r11, fs 235 6 (by omega) (by omega) (by omega), show F2 244 2 = 1 by rw [b1, fU_hit]]
            exact ⟨hn, hA.2.1, Or.inr rfl, rfl, fun _ => by omega, hA.2.2.2.2.2⟩
          · rw [n8] at j1
            refine cpl_cong (hS j j0 j1) (fun a b c d => fs a b (by omega) (by omega) (by omega)) (fun a c d => g9 a (by omega) (by omega)) ⟨fun i a b => ?_, fun i a b => ?_⟩
            · rw [(g10 i (by omega)).1, (g10 i (by omega)).2, g9 249 (by decide) (by decide)]
              exact ⟨rfl, rfl, rfl⟩
            · rw [g9 247 (by decide) (by decide), g9 248 (by decide) (by decide)]
              exact ⟨rfl, rfl⟩
          · rw [g2]
            exact c2.2.1
          · rw [n8, hkk]
            refine ⟨⟨?_, fun q hq => rin _ (s2 q hq), fun q hq => ?_, rin _ s15, rin _ s18, fun _ => ⟨s2 0 (by decide), s2 1 (by decide), s2 2 (by decide), s2 3 (by decide)⟩, ?_⟩, ⟨?_, hcn, fun _ q hq => ?_, fun _ => ?_⟩, fun _ => ⟨g7, g8⟩⟩
            · rw [k3, k4, k5, k6]
              exact c2
            · rw [s2 q hq]
              decide
            · rw [fr (k + 21) 0 (by omega), fr (k + 21) 1 (by omega)]
              exact ⟨r9, r10⟩
            · unfold tld
              rw [k3, k4, k5, k6]
              exact ⟨g1, g2, g3, g4⟩
            · rw [s2 q hq, cn (q : Int) (by omega) (by omega)]
              exact ⟨rfl, fun i a b => by omega⟩
            · unfold rls
              rw [s15, s18]
              exact ⟨⟨g5, fun i a b => by omega⟩, g6, fun i a b => by omega⟩
      · refine ⟨_, l_begin_IAE F G p1 p2 p3 p4 (t_Dk_begin_3 F G p1 p2 p3 p4 q1 q2 q3 q4 c0' (by omega) c2), fun k F1 G1 hk => ?_⟩
        obtain ⟨ek, eF, eG⟩ := hk
        rw [ek]
        refine thr 3 (by decide) (fun tc a => ?_) F1 G1 eF eG
        unfold bgM at a
        rw [hA.2.2.2.1, hA.2.1] at a
        rcases a with ⟨-, a⟩ | ⟨-, -, a⟩ | ⟨a, -⟩ | ⟨-, -, -, a⟩
        · exact absurd a c0
        · exact absurd a c1
        · exact a
        · exact absurd a c2
-- a place is told to a ring or a rail
theorem rIn_push {F F1 : Nat → Nat → Int} {G G1 : Nat → Int → Int} {R : Nat} {x y : Int} (h : rIn F G R) (hm : F R 2 < rRoom ((R - 2) % 22)) (hx : 0 ≤ x ∧ x ≤ 600) (hy : 0 ≤ y ∧ y ≤ 600) (e1 : F1 R 2 = F R 2 + 1) (e2 : ∀ i : Int, i ≠ F R 2 → G1 (R + 1) i = G (R + 1) i ∧ G1 (R + 2) i = G (R + 2) i) (e3 : G1 (R + 1) (F R 2) = x ∧ G1 (R + 2) (F R 2) = y) : rIn F1 G1 R := by
  obtain ⟨h1, h2⟩ := h
  unfold rIn
  rw [e1]
  refine ⟨by omega, fun i a b => ?_⟩
  by_cases c : i = F R 2
  · rw [c, e3.1, e3.2]
    exact ⟨hx, hy⟩
  · rw [(e2 i c).1, (e2 i c).2]
    exact h2 i a (by omega)
theorem rIn_same {F F1 : Nat → Nat → Int} {G G1 : Nat → Int → Int} {R : Nat} (h : rIn F G R) (e1 : F1 R 2 = F R 2) (e2 : G1 (R + 1) = G (R + 1)) (e3 : G1 (R + 2) = G (R + 2)) : rIn F1 G1 R := by
  unfold rIn
  rw [e1, e2, e3]
  exact h
theorem pt_push {G G2 : Nat → Int → Int} {R : Nat} {B m x y : Int} (h : ∀ i : Int, 0 ≤ i → i < m → G 247 (B + i) = G (R + 1) i ∧ G 248 (B + i) = G (R + 2) i) (e2 : ∀ i : Int, i ≠ m → G2 (R + 1) i = G (R + 1) i ∧ G2 (R + 2) i = G (R + 2) i) (e3 : G2 (R + 1) m = x ∧ G2 (R + 2) m = y) (f2 : ∀ i : Int, i ≠ B + m → G2 247 i = G 247 i ∧ G2 248 i = G 248 i) (f3 : G2 247 (B + m) = x ∧ G2 248 (B + m) = y) : ∀ i : Int, 0 ≤ i → i < m + 1 → G2 247 (B + i) = G2 (R + 1) i ∧ G2 248 (B + i) = G2 (R + 2) i := by
  intro i a b
  by_cases c : i = m
  · rw [c, e3.1, e3.2, f3.1, f3.2]
    exact ⟨rfl, rfl⟩
  · rw [(e2 i c).1, (e2 i c).2, (f2 (B + i) (by omega)).1, (f2 (B + i) (by omega)).2]
    exact h i a (by omega)
theorem push_rd {F F1 F2 : Nat → Nat → Int} {G Gm G1 G2 : Nat → Int → Int} {R : Nat} {m x y v r P : Int} (hR : 2 ≤ R ∧ R + 2 < 222) (e1 : F1 = fU F R 2 (m + 1)) (e2 : Gm = gU (gU G (R + 1) m x) (R + 2) m y) (e3 : G1 = gU Gm 264 0 v) (e4 : F2 = fU F1 244 0 0) (e5 : G2 = gU (gU (gU G1 247 P x) 248 P y) 246 (40 + r) (m + 1)) :
    (F2 R 2 = m + 1 ∧ F2 244 0 = 0 ∧ ∀ a b, ¬ (a = R ∧ b = 2) → ¬ (a = 244 ∧ b = 0) → F2 a b = F a b) ∧ ((G2 (R + 1) m = x ∧ G2 (R + 2) m = y) ∧ ∀ i : Int, i ≠ m → G2 (R + 1) i = G (R + 1) i ∧ G2 (R + 2) i = G (R + 2) i) ∧ ((G2 247 P = x ∧ G2 248 P = y) ∧ ∀ i : Int, i ≠ P → G2 247 i = G 247 i ∧ G2 248 i = G 248 i) ∧ (G2 246 (40 + r) = m + 1 ∧ ∀ i : Int, i ≠ 40 + r → G2 246 i = G 246 i) ∧ (∀ a, a ≠ R + 1 → a ≠ R + 2 → a ≠ 246 → a ≠ 247 → a ≠ 248 → a ≠ 264 → G2 a = G a) ∧ G2 264 0 = v := by
  refine ⟨⟨?_, ?_, fun a b z1 z2 => ?_⟩, ⟨⟨?_, ?_⟩, fun i z => ⟨?_, ?_⟩⟩, ⟨⟨?_, ?_⟩, fun i z => ⟨?_, ?_⟩⟩, ⟨?_, fun i z => ?_⟩, fun a z1 z2 z3 z4 z5 z6 => ?_, ?_⟩
  · rw [e4, fU_n (by omega), e1, fU_hit]
  · rw [e4, fU_hit]
  · rw [e4, fU_n z2, e1, fU_n z1]
  · rw [e5, gU_a (by omega), gU_a (by omega), gU_a (by omega), e3, gU_a (by omega), e2, gU_a (by omega), gU_hit]
  · rw [e5, gU_a (by omega), gU_a (by omega), gU_a (by omega), e3, gU_a (by omega), e2, gU_hit]
  · rw [e5, gU_a (by omega), gU_a (by omega), gU_a (by omega), e3, gU_a (by omega), e2, gU_a (by omega), gU_i z]
  · rw [e5, gU_a (by omega), gU_a (by omega), gU_a (by omega), e3, gU_a (by omega), e2, gU_i z, gU_a (by omega)]
  · rw [e5, gU_a (by decide), gU_a (by decide), gU_hit]
  · rw [e5, gU_a (by decide), gU_hit]
  · rw [e5, gU_a (by decide), gU_a (by decide), gU_i z, e3, gU_a (by decide), e2, gU_a (by omega), gU_a (by omega)]
  · rw [e5, gU_a (by decide), gU_i z, gU_a (by decide), e3, gU_a (by decide), e2, gU_a (by omega), gU_a (by omega)]
  · rw [e5, gU_hit]
  · rw [e5, gU_i z, gU_a (by decide), gU_a (by decide), e3, gU_a (by decide), e2, gU_a (by omega), gU_a (by omega)]
  · rw [e5, gU_k _ _ _ z3, gU_k _ _ _ z5, gU_k _ _ _ z4, e3, gU_k _ _ _ z6, e2, gU_k _ _ _ z2, gU_k _ _ _ z1]
  · rw [e5, gU_a (by decide), gU_a (by decide), gU_a (by decide), e3, gU_hit]
theorem iv_push {F F2 : Nat → Nat → Int} {G G2 : Nat → Int → Int} {k R : Nat} {m r : Int} (h : Inv F G) (ho : F 0 10 = 1) (hk : k = 2 + 22 * (F 0 8).toNat) (hR : k < R ∧ R + 2 < k + 22) (hr : 0 ≤ r ∧ r < 4) (hm : 0 ≤ m ∧ m < 24) (f1 : ∀ a b, ¬ (a = R ∧ b = 2) → ¬ (a = 244 ∧ b = 0) → F2 a b = F a b) (g1 : ∀ i : Int, i ≠ 960 + 24 * r + m → G2 247 i = G 247 i ∧ G2 248 i = G 248 i) (g2 : G2 246 (40 + r) = m + 1 ∧ ∀ i : Int, i ≠ 40 + r → G2 246 i = G 246 i) (g3 : ∀ a, a ≠ R + 1 → a ≠ R + 2 → a ≠ 246 → a ≠ 247 → a ≠ 248 → a ≠ 264 → G2 a = G a) (hop : cnts G2 10 → opn F2 G2 k) : Inv F2 G2 := by
  obtain ⟨hA, hF, hL, hP, hQ, hT, hS, hO⟩ := id h
  have hn := hA.1
  have n9 := hA.2.2.2.2.1 ho
  have n8 : F2 0 8 = F 0 8 := f1 _ _ (by omega) (by omega)
  have hcn : cnts G2 10 := fun q a b => by
    by_cases c : q = r
    · subst c
      rw [show 4 * (10 : Int) + q = 40 + q by omega, g2.1]
      omega
    · rw [g2.2 _ (by omega)]
      exact hO.1 q a b
  refine ⟨ivA_cong hA n8 (f1 _ _ (by omega) (by omega)) (f1 _ _ (by omega) (by omega)) (f1 _ _ (by omega) (by omega)) (f1 _ _ (by omega) (by omega)), ivF_cong hF (fun b => f1 _ _ (by omega) (by omega)) (fun b y => f1 _ _ (by omega) (by omega)), ivL_cong hL (f1 _ _ (by omega) (by omega)) (f1 _ _ (by omega) (by omega)) (g3 _ (by omega) (by omega) (by omega) (by omega) (by omega) (by omega)) (g3 _ (by omega) (by omega) (by omega) (by omega) (by omega) (by omega)), ivP_cong hP (f1 _ _ (by omega) (by omega)) (f1 _ _ (by omega) (by omega)) (g3 _ (by omega) (by omega) (by omega) (by omega) (by omega) (by omega)) (g3 _ (by omega) (by omega) (by omega) (by omega) (by omega) (by omega)) (g3 _ (by omega) (by omega) (by omega) (by omega) (by omega) (by omega)) (g3 _ (by omega) (by omega) (by omega) (by omega) (by omega) (by omega)), ivQ_cong hQ n8 (g3 _ (by omega) (by omega) (by omega) (by omega) (by omega) (by omega)) (g3 _ (by omega) (by omega) (by omega) (by omega) (by omega) (by omega)), ivT_cong hT (g3 _ (by omega) (by omega) (by omega) (by omega) (by omega) (by omega)), fun j j0 j1 => ?_, hcn, ?_, fun _ => ?_⟩
  · rw [n8] at j1
    refine cpl_cong (hS j j0 j1) (fun a b c d => f1 a b (by omega) (by omega)) (fun a c d => g3 a (by omega) (by omega) (by omega) (by omega) (by omega) (by omega)) ⟨fun i a b => ?_, fun i a b => ?_⟩
    · rw [g3 245 (by omega) (by omega) (by omega) (by omega) (by omega) (by omega), g3 249 (by omega) (by omega) (by omega) (by omega) (by omega) (by omega), g2.2 i (by omega)]
      exact ⟨rfl, rfl, rfl⟩
    · exact g1 i (by omega)
  · rw [g3 245 (by omega) (by omega) (by omega) (by omega) (by omega) (by omega)]
    exact hO.2.1
  · rw [n8, ← hk]
    exact hop hcn
theorem o_corner {F : Nat → Nat → Int} {G : Nat → Int → Int} (h : Inv F G) (p1 p2 p3 : Int) (q1 : -2147483648 ≤ p1 ∧ p1 < 2147483648) (q2 : -2147483648 ≤ p2 ∧ p2 < 2147483648) (q3 : -2147483648 ≤ p3 ∧ p3 < 2147483648) : oq_corner Inv F G p1 p2 p3 := by
  obtain ⟨hA, hF, hL, hP, hQ, hT, hS, hO⟩ := id h
  have hn := hA.1
  have ho' : F 244 2 = 0 ∨ F 244 2 = 1 := by rw [hA.2.2.2.1]; exact hA.2.2.1
  have hc4 : ∀ r : Int, 0 ≤ r → r ≤ 3 → 0 ≤ G 246 (40 + r) ∧ G 246 (40 + r) ≤ 24 := fun r a b => by
    have z := hO.1 r a (by omega)
    rwa [show 4 * (10 : Int) + r = 40 + r by omega] at z
  have thr : ∀ v : Int, (v = 1 ∨ v = 2 ∨ v = 3) → (∀ tc, coM F G p1 p2 p3 tc → tc = v) → ∀ F1 G1, F1 = F → G1 = G → ∃ post2, cI y_Mo_corner b_Mo_corner 4 (some .int) 1 24 F1 G1 (fun ad => [.ref (ad 244), .int (iI p1), .int (iI p2), .int (iI p3)]) post2 ∧ ∀ z F2 G2, post2 z F2 G2 → (0 ≤ v ∧ v ≤ 3) ∧ F2 244 0 = v ∧ (v = 0 → G2 264 0 = (iI z).toInt) ∧ Inv F2 G2 := fun v hv ht F1 G1 eF eG => by
    rw [eF, eG]
    refine ⟨_, c_Mo_corner F G p1 p2 p3 q1 q2 q3 ho' hO.2.1 hc4, fun z F2 G2 h2 => ?_⟩
    obtain ⟨tc, a, b⟩ := h2
    have et := ht tc a
    rcases b with ⟨-, b1, b2, -⟩ | ⟨b1, -⟩
    · rw [b1, b2, et]
      exact ⟨by omega, fU_hit, fun y => by omega, iv_t h v⟩
    · omega
  by_cases c0 : F 0 10 = 1
  · have n9 := hA.2.2.2.2.1 c0
    have hn9 : 0 ≤ F 0 8 ∧ F 0 8 < 10 := by omega
    have hKs := isSh_n hn9
    obtain ⟨op, sa, -⟩ := hO.2.2 c0
    generalize hkk : 2 + 22 * (F 0 8).toNat = k at op sa hKs
    have e4 := e41 sa
    have hfl := op.1.2.1
    by_cases c1 : F k 4 = 1
    · refine ⟨_, l_corner_ISE F G p1 p2 p3 (t_Dk_corner_1 F G k hn9 hkk.symm p1 p2 p3 c0 hfl c1), fun k' F1 G1 hk => ?_⟩
      obtain ⟨ek, eF, eG⟩ := hk
      rw [ek]
      refine thr 1 (by decide) (fun tc a => ?_) F1 G1 eF eG
      unfold coM at a
      rw [e4] at a
      rcases a with ⟨a, -⟩ | ⟨-, -, a, -⟩ | ⟨-, -, a, -⟩ | ⟨-, -, a, -⟩
      · exact a
      · exact absurd c1 a
      · exact absurd c1 a
      · exact absurd c1 a
    · by_cases c2 : (0 ≤ p1 ∧ p1 < 4) ∧ (0 ≤ p2 ∧ p2 ≤ 600) ∧ (0 ≤ p3 ∧ p3 ≤ 600)
      · have hg := rg10 sa c1 c2.1.1 c2.1.2
        have hin := op.2.1 p1.toNat (by omega)
        have hq4 : p1.toNat < 4 := by omega
        have hsz := hc4 p1 c2.1.1 (by omega)
        have hrm := rm_ring hKs hq4
        by_cases c3 : F (k + 3 + 3 * p1.toNat) 2 = 24
        · refine ⟨_, l_corner_UOE F G p1 p2 p3 (t_Dk_corner_3 F G k hn9 hkk.symm p1 p2 p3 c0 hfl c1 c2.1 c2.2 c3), fun k' F1 G1 hk => ?_⟩
          obtain ⟨ek, eF, eG⟩ := hk
          rw [ek]
          refine thr 3 (by decide) (fun tc a => ?_) F1 G1 eF eG
          unfold coM at a
          rw [e4, hA.2.2.2.1, hg.1] at a
          rcases a with ⟨-, a | a⟩ | ⟨-, -, -, a⟩ | ⟨a, -⟩ | ⟨-, -, -, -, a⟩
          · omega
          · exact absurd a c1
          · exact (a ⟨⟨c2.1.1, by omega⟩, c2.2⟩).elim
          · exact a
          · exact absurd c3 a
        · refine ⟨_, l_corner_ok F G p1 p2 p3 _ (c_Dk_corner F G k hn9 hkk.symm p1 p2 p3 c0 hfl c1 c2.1 c2.2 (by omega)), fun k' F1 G1 hk => ?_⟩
          obtain ⟨ek, w, Gm, ⟨w1, w2, w3⟩, w4⟩ := hk
          generalize hRR : k + 3 + 3 * p1.toNat = R at w1 w2 w3 hg hin hrm c3
          have hKs' := hKs
          unfold isSh at hKs'
          have hm : 0 ≤ F R 2 ∧ F R 2 < 24 := by omega
          have f1 : ∀ b, F1 244 b = F 244 b := fun b => by rw [w2, fU_n (by omega)]
          have gq : ∀ a, 223 ≤ a → a ≠ 264 → G1 a = G a := fun a y1 y2 => by rw [w4, gU_k _ _ _ y2, w3, gU_k _ _ _ (by omega), gU_k _ _ _ (by omega)]
          refine ⟨_, c_Mo_corner F1 G1 p1 p2 p3 q1 q2 q3 (by rw [f1]; exact ho') (by rw [gq 245 (by decide) (by decide)]; exact hO.2.1) (by rw [gq 246 (by decide) (by decide)]; exact hc4), fun z F2 G2 h2 => ?_⟩
          obtain ⟨tc, a, b⟩ := h2
          have et : tc = 0 := by
            unfold coM at a
            rw [f1, gq 245 (by decide) (by decide), gq 246 (by decide) (by decide), e4, hA.2.2.2.1, hg.1] at a
            rcases a with ⟨-, a | a⟩ | ⟨-, -, -, a⟩ | ⟨-, -, -, -, a⟩ | ⟨a, -⟩
            · omega
            · exact absurd a c1
            · exact (a ⟨⟨c2.1.1, by omega⟩, c2.2⟩).elim
            · exact absurd a c3
            · exact a
          rcases b with ⟨b1, -⟩ | ⟨-, b1, b2, b3⟩
          · exact absurd et b1
          · rw [gq 246 (by decide) (by decide), hg.1] at b2 b3
            obtain ⟨⟨x1, x2, x3⟩, ⟨x4, x5⟩, ⟨x6, x7⟩, x8, x9, x10⟩ := push_rd (by omega) w2 w3 w4 b1 b3
            rw [ek]
            refine ⟨by decide, x2, fun _ => by rw [x10, w1, b2], iv_push h c0 hkk.symm (show k < R ∧ R + 2 < k + 22 by omega) c2.1 hm x3 x7 x8 x9 (fun hcn => ⟨⟨?_, fun q hq => ?_, fun q hq => ?_, ?_, ?_, fun y => ?_, ?_⟩, ⟨?_, hcn, fun y q hq => ?_, fun y => ?_⟩, fun y => ?_⟩)⟩
            · rw [x3 k 3 (by omega) (by omega), x3 k 4 (by omega) (by omega), x3 k 5 (by omega) (by omega), x3 k 6 (by omega) (by omega)]
              exact op.1
            · by_cases c : q = p1.toNat
              · rw [c, hRR]
                exact rIn_push hin (by omega) c2.2.1 c2.2.2 x1 x5 x4
              · exact rIn_same (op.2.1 q hq) (x3 _ _ (by omega) (by omega)) (x9 _ (by omega) (by omega) (by omega) (by omega) (by omega) (by omega)) (x9 _ (by omega) (by omega) (by omega) (by omega) (by omega) (by omega))
            · by_cases c : q = p1.toNat
              · rw [c, hRR, x1]
                omega
              · rw [x3 _ _ (by omega) (by omega)]
                exact op.2.2.1 q hq
            · exact rIn_same op.2.2.2.1 (x3 _ _ (by omega) (by omega)) (x9 _ (by omega) (by omega) (by omega) (by omega) (by omega) (by omega)) (x9 _ (by omega) (by omega) (by omega) (by omega) (by omega) (by omega))
            · exact rIn_same op.2.2.2.2.1 (x3 _ _ (by omega) (by omega)) (x9 _ (by omega) (by omega) (by omega) (by omega) (by omega) (by omega)) (x9 _ (by omega) (by omega) (by omega) (by omega) (by omega) (by omega))
            · rw [x3 k 4 (by omega) (by omega)] at y
              exact absurd y c1
            · rw [x3 (k + 21) 0 (by omega) (by omega), x3 (k + 21) 1 (by omega) (by omega)]
              exact op.2.2.2.2.2.2
            · unfold tld
              rw [x9 245 (by omega) (by omega) (by omega) (by omega) (by omega) (by omega), x3 k 3 (by omega) (by omega), x3 k 4 (by omega) (by omega), x3 k 5 (by omega) (by omega), x3 k 6 (by omega) (by omega)]
              exact sa.1
            · obtain ⟨s1, s2⟩ := sa.2.2.1 c1 q hq
              by_cases c : q = p1.toNat
              · have cq : (q : Int) = p1 := by omega
                rw [c, hRR, ← c, cq, show 4 * (10 : Int) + p1 = 40 + p1 by omega, x8.1, x1]
                refine ⟨rfl, fun i i0 i1 => ?_⟩
                rw [show 96 * (10 : Int) + 24 * p1 + i = 960 + 24 * p1 + i by omega]
                exact pt_push (B := 960 + 24 * p1) hg.2 x5 x4 x7 x6 i i0 i1
              · have hb := hO.1 (q : Int) (by omega) (by omega)
                rw [x8.2 _ (by omega), x3 _ _ (by omega) (by omega), x9 (k + 3 + 3 * q + 1) (by omega) (by omega) (by omega) (by omega) (by omega) (by omega), x9 (k + 3 + 3 * q + 2) (by omega) (by omega) (by omega) (by omega) (by omega) (by omega)]
                refine ⟨s1, fun i i0 i1 => ?_⟩
                rw [(x7 (96 * 10 + 24 * (q : Int) + i) (by omega)).1, (x7 (96 * 10 + 24 * (q : Int) + i) (by omega)).2]
                exact s2 i i0 i1
            · rw [x3 k 4 (by omega) (by omega)] at y
              exact absurd y c1
            · rw [x3 k 4 (by omega) (by omega)] at y
              exact absurd y c1
      · refine ⟨_, l_corner_IAE F G p1 p2 p3 (t_Dk_corner_2 F G k hn9 hkk.symm p1 p2 p3 q1 q2 q3 c0 hfl c1 c2), fun k' F1 G1 hk => ?_⟩
        obtain ⟨ek, eF, eG⟩ := hk
        rw [ek]
        refine thr 2 (by decide) (fun tc a => ?_) F1 G1 eF eG
        unfold coM at a
        rw [e4, hA.2.2.2.1] at a
        rcases a with ⟨-, a | a⟩ | ⟨a, -⟩ | ⟨-, -, -, a, -⟩ | ⟨-, -, -, a, -⟩
        · omega
        · exact absurd a c1
        · exact a
        · exact (c2 ⟨⟨a.1.1, by omega⟩, a.2⟩).elim
        · exact (c2 ⟨⟨a.1.1, by omega⟩, a.2⟩).elim
  · have c0' : F 0 10 = 0 := by have := hA.2.2.1; omega
    refine ⟨_, l_corner_ISE F G p1 p2 p3 (t_Dk_corner_0 F G p1 p2 p3 c0'), fun k F1 G1 hk => ?_⟩
    obtain ⟨ek, eF, eG⟩ := hk
    rw [ek]
    refine thr 1 (by decide) (fun tc a => ?_) F1 G1 eF eG
    unfold coM at a
    rw [hA.2.2.2.1] at a
    rcases a with ⟨a, -⟩ | ⟨-, a, -⟩ | ⟨-, a, -⟩ | ⟨-, a, -⟩
    · exact a
    · omega
    · omega
    · omega
theorem o_rail {F : Nat → Nat → Int} {G : Nat → Int → Int} (h : Inv F G) (p1 p2 p3 : Int) (q1 : -2147483648 ≤ p1 ∧ p1 < 2147483648) (q2 : -2147483648 ≤ p2 ∧ p2 < 2147483648) (q3 : -2147483648 ≤ p3 ∧ p3 < 2147483648) : oq_rail Inv F G p1 p2 p3 := by
  obtain ⟨hA, hF, hL, hP, hQ, hT, hS, hO⟩ := id h
  have hn := hA.1
  have ho' : F 244 2 = 0 ∨ F 244 2 = 1 := by rw [hA.2.2.2.1]; exact hA.2.2.1
  have thr1 : (F 244 2 = 0 ∨ ¬ G 245 41 = 1) → ∀ F1 G1, F1 = F → G1 = G → ∃ post2, cI y_Mo_rail b_Mo_rail 4 (some .int) 1 24 F1 G1 (fun ad => [.ref (ad 244), .int (iI p1), .int (iI p2), .int (iI p3)]) post2 ∧ ∀ z F2 G2, post2 z F2 G2 → (0 ≤ (1 : Int) ∧ (1 : Int) ≤ 3) ∧ F2 244 0 = 1 ∧ ((1 : Int) = 0 → G2 264 0 = (iI z).toInt) ∧ Inv F2 G2 := fun hn F1 G1 eF eG => by
    rw [eF, eG]
    refine ⟨_, n_Mo_rail F G p1 p2 p3 ho' hO.2.1 hn, fun z F2 G2 h2 => ?_⟩
    obtain ⟨b1, b2⟩ := h2
    rw [b1, b2]
    exact ⟨by decide, fU_hit, fun y => absurd y (by decide), iv_t h 1⟩
  by_cases c0 : F 0 10 = 1
  · have n9 := hA.2.2.2.2.1 c0
    have hn9 : 0 ≤ F 0 8 ∧ F 0 8 < 10 := by omega
    have hKs := isSh_n hn9
    obtain ⟨op, sa, h23⟩ := hO.2.2 c0
    generalize hkk : 2 + 22 * (F 0 8).toNat = k at op sa hKs h23
    have e4 := e41 sa
    have hfl := op.1.2.1
    by_cases c1 : F k 4 = 1
    · have hra := op_rail hKs op
      obtain ⟨⟨l1, l2⟩, l3, l4⟩ := sa.2.2.2 c1
      have hl : ∀ r : Int, 0 ≤ r → r < 2 → (0 ≤ F (k + 15 + 3 * r.toNat) 2 ∧ F (k + 15 + 3 * r.toNat) 2 ≤ 16) ∧ rIn F G (k + 15 + 3 * r.toNat) ∧ G 246 (40 + r) = F (k + 15 + 3 * r.toNat) 2 ∧ ∀ i : Int, 0 ≤ i → i < F (k + 15 + 3 * r.toNat) 2 → G 247 (960 + 24 * r + i) = G (k + 15 + 3 * r.toNat + 1) i ∧ G 248 (960 + 24 * r + i) = G (k + 15 + 3 * r.toNat + 2) i := fun r r0 r1 => by
        rcases (show r = 0 ∨ r = 1 by omega) with e | e <;> subst e
        · rw [show k + 15 + 3 * (0 : Int).toNat = k + 15 by omega]
          refine ⟨hra.1, op.2.2.2.1, l1, fun i a b => ?_⟩
          have y := l2 i a b
          rw [show 96 * (10 : Int) + i = 960 + 24 * 0 + i by omega] at y
          exact y
        · rw [show k + 15 + 3 * (1 : Int).toNat = k + 18 by omega]
          refine ⟨hra.2, op.2.2.2.2.1, l3, fun i a b => ?_⟩
          have y := l4 i a b
          rw [show 96 * (10 : Int) + 24 + i = 960 + 24 * 1 + i by omega] at y
          exact y
      have hc4 : ∀ r : Int, 0 ≤ r → r ≤ 1 → 0 ≤ G 246 (40 + r) ∧ G 246 (40 + r) ≤ 16 := fun r a b => by
        obtain ⟨y1, -, y2, -⟩ := hl r a (by omega)
        rw [y2]
        exact y1
      have thr : ∀ v : Int, (v = 2 ∨ v = 3) → (∀ tc, raM F G p1 p2 p3 tc → tc = v) → ∀ F1 G1, F1 = F → G1 = G → ∃ post2, cI y_Mo_rail b_Mo_rail 4 (some .int) 1 24 F1 G1 (fun ad => [.ref (ad 244), .int (iI p1), .int (iI p2), .int (iI p3)]) post2 ∧ ∀ z F2 G2, post2 z F2 G2 → (0 ≤ v ∧ v ≤ 3) ∧ F2 244 0 = v ∧ (v = 0 → G2 264 0 = (iI z).toInt) ∧ Inv F2 G2 := fun v hv ht F1 G1 eF eG => by
        rw [eF, eG]
        refine ⟨_, c_Mo_rail F G p1 p2 p3 q1 q2 q3 ho' hO.2.1 hc4, fun z F2 G2 h2 => ?_⟩
        obtain ⟨tc, a, b⟩ := h2
        have et := ht tc a
        rcases b with ⟨-, b1, b2, -⟩ | ⟨b1, -⟩
        · rw [b1, b2, et]
          exact ⟨by omega, fU_hit, fun y => by omega, iv_t h v⟩
        · omega
      by_cases c2 : (0 ≤ p1 ∧ p1 < 2) ∧ (0 ≤ p2 ∧ p2 ≤ 600) ∧ (0 ≤ p3 ∧ p3 ≤ 600)
      · obtain ⟨hsz, hin, hg⟩ := hl p1 c2.1.1 c2.1.2
        have hq2 : p1.toNat < 2 := by omega
        have hrm := rm_rail hKs hq2
        by_cases c3 : F (k + 15 + 3 * p1.toNat) 2 = 16
        · refine ⟨_, l_rail_UOE F G p1 p2 p3 (t_Dk_rail_3 F G k hn9 hkk.symm p1 p2 p3 c0 hfl c1 c2.1 c2.2 c3), fun k' F1 G1 hk => ?_⟩
          obtain ⟨ek, eF, eG⟩ := hk
          rw [ek]
          refine thr 3 (by decide) (fun tc a => ?_) F1 G1 eF eG
          unfold raM at a
          rw [e4, hA.2.2.2.1, hg.1] at a
          rcases a with ⟨-, a | a⟩ | ⟨-, -, -, a⟩ | ⟨a, -⟩ | ⟨-, -, -, -, a⟩
          · omega
          · exact absurd c1 a
          · exact (a ⟨⟨c2.1.1, by omega⟩, c2.2⟩).elim
          · exact a
          · exact absurd c3 a
        · refine ⟨_, l_rail_ok F G p1 p2 p3 _ (c_Dk_rail F G k hn9 hkk.symm p1 p2 p3 c0 hfl c1 c2.1 c2.2 (by omega)), fun k' F1 G1 hk => ?_⟩
          obtain ⟨ek, w, Gm, ⟨w1, w2, w3⟩, w4⟩ := hk
          generalize hRR : k + 15 + 3 * p1.toNat = R at w1 w2 w3 hsz hg hin hrm c3
          have hKs' := hKs
          unfold isSh at hKs'
          have hm : 0 ≤ F R 2 ∧ F R 2 < 24 := by omega
          have hm6 : F R 2 < 16 := by omega
          have f1 : ∀ b, F1 244 b = F 244 b := fun b => by rw [w2, fU_n (by omega)]
          have gq : ∀ a, 223 ≤ a → a ≠ 264 → G1 a = G a := fun a y1 y2 => by rw [w4, gU_k _ _ _ y2, w3, gU_k _ _ _ (by omega), gU_k _ _ _ (by omega)]
          refine ⟨_, c_Mo_rail F1 G1 p1 p2 p3 q1 q2 q3 (by rw [f1]; exact ho') (by rw [gq 245 (by decide) (by decide)]; exact hO.2.1) (by rw [gq 246 (by decide) (by decide)]; exact hc4), fun z F2 G2 h2 => ?_⟩
          obtain ⟨tc, a, b⟩ := h2
          have et : tc = 0 := by
            unfold raM at a
            rw [f1, gq 245 (by decide) (by decide), gq 246 (by decide) (by decide), e4, hA.2.2.2.1, hg.1] at a
            rcases a with ⟨-, a | a⟩ | ⟨-, -, -, a⟩ | ⟨-, -, -, -, a⟩ | ⟨a, -⟩
            · omega
            · exact absurd c1 a
            · exact (a ⟨⟨c2.1.1, by omega⟩, c2.2⟩).elim
            · exact absurd a c3
            · exact a
          rcases b with ⟨b1, -⟩ | ⟨-, b1, b2, b3⟩
          · exact absurd et b1
          · rw [gq 246 (by decide) (by decide), hg.1] at b2 b3
            obtain ⟨⟨x1, x2, x3⟩, ⟨x4, x5⟩, ⟨x6, x7⟩, x8, x9, x10⟩ := push_rd (by omega) w2 w3 w4 b1 b3
            rw [ek]
            refine ⟨by decide, x2, fun _ => by rw [x10, w1, b2], iv_push h c0 hkk.symm (show k < R ∧ R + 2 < k + 22 by omega) ⟨c2.1.1, by omega⟩ hm x3 x7 x8 x9 (fun hcn => ⟨⟨?_, fun q hq => ?_, fun q hq => ?_, ?_, ?_, fun y => ?_, ?_⟩, ⟨?_, hcn, fun y => ?_, fun y => ?_⟩, fun y => ?_⟩)⟩
            · rw [x3 k 3 (by omega) (by omega), x3 k 4 (by omega) (by omega), x3 k 5 (by omega) (by omega), x3 k 6 (by omega) (by omega)]
              exact op.1
            · exact rIn_same (op.2.1 q hq) (x3 _ _ (by omega) (by omega)) (x9 _ (by omega) (by omega) (by omega) (by omega) (by omega) (by omega)) (x9 _ (by omega) (by omega) (by omega) (by omega) (by omega) (by omega))
            · rw [x3 _ _ (by omega) (by omega)]
              exact op.2.2.1 q hq
            · rcases (show (p1 = 0 ∧ R = k + 15) ∨ (p1 = 1 ∧ R = k + 18) by omega) with ⟨e, f⟩ | ⟨e, f⟩
              · subst f
                exact rIn_push hin (by rw [hrm]; omega) c2.2.1 c2.2.2 x1 x5 x4
              · exact rIn_same op.2.2.2.1 (x3 _ _ (by omega) (by omega)) (x9 _ (by omega) (by omega) (by omega) (by omega) (by omega) (by omega)) (x9 _ (by omega) (by omega) (by omega) (by omega) (by omega) (by omega))
            · rcases (show (p1 = 0 ∧ R = k + 15) ∨ (p1 = 1 ∧ R = k + 18) by omega) with ⟨e, f⟩ | ⟨e, f⟩
              · exact rIn_same op.2.2.2.2.1 (x3 _ _ (by omega) (by omega)) (x9 _ (by omega) (by omega) (by omega) (by omega) (by omega) (by omega)) (x9 _ (by omega) (by omega) (by omega) (by omega) (by omega) (by omega))
              · subst f
                exact rIn_push hin (by rw [hrm]; omega) c2.2.1 c2.2.2 x1 x5 x4
            · have y4 := op.2.2.2.2.2.1 c1
              rw [x3 (k + 3) 2 (by omega) (by omega), x3 (k + 6) 2 (by omega) (by omega), x3 (k + 9) 2 (by omega) (by omega), x3 (k + 12) 2 (by omega) (by omega)]
              exact y4
            · rw [x3 (k + 21) 0 (by omega) (by omega), x3 (k + 21) 1 (by omega) (by omega)]
              exact op.2.2.2.2.2.2
            · unfold tld
              rw [x9 245 (by omega) (by omega) (by omega) (by omega) (by omega) (by omega), x3 k 3 (by omega) (by omega), x3 k 4 (by omega) (by omega), x3 k 5 (by omega) (by omega), x3 k 6 (by omega) (by omega)]
              exact sa.1
            · rw [x3 k 4 (by omega) (by omega)] at y
              exact absurd c1 y
            · rcases (show (p1 = 0 ∧ R = k + 15) ∨ (p1 = 1 ∧ R = k + 18) by omega) with ⟨e, f⟩ | ⟨e, f⟩ <;> subst e <;> subst f
              · refine ⟨⟨x8.1.trans x1.symm, fun i i0 i1 => ?_⟩, ?_, fun i i0 i1 => ?_⟩
                · rw [show 96 * (10 : Int) + i = 960 + 24 * 0 + i by omega]
                  exact pt_push (B := 960 + 24 * 0) hg.2 x5 x4 x7 x6 i i0 (by rw [x1] at i1; exact i1)
                · rw [x8.2 _ (by decide), x3 (k + 18) 2 (by omega) (by omega)]
                  exact l3
                · rw [x3 (k + 18) 2 (by omega) (by omega)] at i1
                  rw [(x7 (96 * 10 + 24 + i) (by omega)).1, (x7 (96 * 10 + 24 + i) (by omega)).2, x9 (k + 18 + 1) (by omega) (by omega) (by omega) (by omega) (by omega) (by omega), x9 (k + 18 + 2) (by omega) (by omega) (by omega) (by omega) (by omega) (by omega)]
                  exact l4 i i0 i1
              · refine ⟨⟨?_, fun i i0 i1 => ?_⟩, x8.1.trans x1.symm, fun i i0 i1 => ?_⟩
                · rw [x8.2 _ (by decide), x3 (k + 15) 2 (by omega) (by omega)]
                  exact l1
                · rw [x3 (k + 15) 2 (by omega) (by omega)] at i1
                  rw [(x7 (96 * 10 + i) (by omega)).1, (x7 (96 * 10 + i) (by omega)).2, x9 (k + 15 + 1) (by omega) (by omega) (by omega) (by omega) (by omega) (by omega), x9 (k + 15 + 2) (by omega) (by omega) (by omega) (by omega) (by omega) (by omega)]
                  exact l2 i i0 i1
                · rw [show 96 * (10 : Int) + 24 + i = 960 + 24 * 1 + i by omega]
                  exact pt_push (B := 960 + 24 * 1) hg.2 x5 x4 x7 x6 i i0 (by rw [x1] at i1; exact i1)
            · have y2 := h23 c1
              rw [x8.2 42 (by omega), x8.2 43 (by omega)]
              exact y2
      · refine ⟨_, l_rail_IAE F G p1 p2 p3 (t_Dk_rail_2 F G k hn9 hkk.symm p1 p2 p3 q1 q2 q3 c0 hfl c1 c2), fun k' F1 G1 hk => ?_⟩
        obtain ⟨ek, eF, eG⟩ := hk
        rw [ek]
        refine thr 2 (by decide) (fun tc a => ?_) F1 G1 eF eG
        unfold raM at a
        rw [e4, hA.2.2.2.1] at a
        rcases a with ⟨-, a | a⟩ | ⟨a, -⟩ | ⟨-, -, -, a, -⟩ | ⟨-, -, -, a, -⟩
        · omega
        · exact absurd c1 a
        · exact a
        · exact (c2 ⟨⟨a.1.1, by omega⟩, a.2⟩).elim
        · exact (c2 ⟨⟨a.1.1, by omega⟩, a.2⟩).elim
    · refine ⟨_, l_rail_ISE F G p1 p2 p3 (t_Dk_rail_1 F G k hn9 hkk.symm p1 p2 p3 c0 hfl c1), fun k' F1 G1 hk => ?_⟩
      obtain ⟨ek, eF, eG⟩ := hk
      rw [ek]
      exact thr1 (Or.inr (by rw [e4]; exact c1)) F1 G1 eF eG
  · have c0' : F 0 10 = 0 := by have := hA.2.2.1; omega
    refine ⟨_, l_rail_ISE F G p1 p2 p3 (t_Dk_rail_0 F G p1 p2 p3 c0'), fun k F1 G1 hk => ?_⟩
    obtain ⟨ek, eF, eG⟩ := hk
    rw [ek]
    exact thr1 (Or.inl (by rw [hA.2.2.2.1]; exact c0')) F1 G1 eF eG
