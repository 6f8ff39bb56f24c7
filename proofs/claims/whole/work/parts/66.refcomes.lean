/-! the reference takes the events of a shape's runs -/
theorem runF_2f (has : Int → Int → Prop) (col : Int) : ∀ (E : List Ev) (p : PS × Bool), p.2 = false → (E.foldl (stE has col) p).2 = false
  | [], _, h => h
  | e :: E, p, _ => by
    show (E.foldl (stE has col) (stE has col p e)).2 = false
    exact runF_2f has col E _ rfl
theorem runF_2 {has : Int → Int → Prop} {col : Int} {E : List Ev} {s : PS} (h : ¬ E = []) : (runF has col E s).2 = false := by
  cases E with
  | nil => exact absurd rfl h
  | cons e E => exact runF_2f has col E _ rfl
theorem nf_rngA : ∀ (E : List Ev) (n : Int), n ≤ E.foldl (fun n e => n + b2 e.2.2) n ∧ E.foldl (fun n e => n + b2 e.2.2) n ≤ n + (E.length : Int)
  | [], n => by
    show n ≤ n ∧ n ≤ n + 0
    omega
  | e :: E, n => by
    have h := nf_rngA E (n + b2 e.2.2)
    have hb := b2_rng e.2.2
    have hl : ((e :: E).length : Int) = (E.length : Int) + 1 := by simp
    show n ≤ E.foldl (fun n e => n + b2 e.2.2) (n + b2 e.2.2) ∧ E.foldl (fun n e => n + b2 e.2.2) (n + b2 e.2.2) ≤ n + ((e :: E).length : Int)
    omega
theorem nf_rng (E : List Ev) : 0 ≤ nf E ∧ nf E ≤ (E.length : Int) := by
  have h := nf_rngA E 0
  unfold nf
  omega
theorem mvS_len {kd u v : Int} {s : PS} (h : inR s.1 s.2.1) (h2 : inR u v) : (mvS kd u v s).2.2.2.length ≤ s.2.2.2.length + 9 := by
  have := nst_rng h h2
  show (s.2.2.2 ++ mvL s.1 s.2.1 u v kd (nst s.1 s.2.1 u v) (nst s.1 s.2.1 u v).toNat).length ≤ _
  rw [List.length_append, mvL_len]
  omega
theorem lpS_len {u v : Int} {s : PS} (h : inR s.1 s.2.1) (h2 : inR u v) : (lpS u v s).2.2.2.length ≤ s.2.2.2.length + 10 := by
  unfold lpS
  split
  · have a : (mvS 1 u v (s.1, s.2.1, s.2.2.1, s.2.2.2 ++ [(0, 0, 2)])).2.2.2.length ≤ (s.2.2.2 ++ [((0 : Int), (0 : Int), (2 : Int))]).length + 9 := mvS_len (s := (s.1, s.2.1, s.2.2.1, s.2.2.2 ++ [(0, 0, 2)])) h h2
    have b : (s.2.2.2 ++ [((0 : Int), (0 : Int), (2 : Int))]).length = s.2.2.2.length + 1 := by simp
    omega
  · have a := mvS_len (kd := 1) h h2
    omega
theorem chS_len {col : Int} {s : PS} : (chS col s).2.2.2.length ≤ s.2.2.2.length + 1 := by
  show (if ¬ s.2.2.1 = -1 ∧ ¬ s.2.2.1 = col then s.2.2.2 ++ [((0 : Int), (0 : Int), (3 : Int))] else s.2.2.2).length ≤ _
  split
  · simp
  · omega
theorem tkS_len {has : Int → Int → Prop} {col u v : Int} {f g : Bool} {s : PS} (h : inR s.1 s.2.1) (h2 : inR u v) (hl : s.2.2.2.length ≤ 4011) : (tkS has col u v f g s).2.2.2.length ≤ 4011 := by
  by_cases c : 4000 < s.2.2.2.length
  · rw [tkS_over c]
    exact hl
  · by_cases c1 : f = false
    · rw [tkS_mv c c1]
      have := mvS_len (kd := 0) h h2
      omega
    · have c1' : f = true := by
        cases f
        · exact absurd rfl c1
        · rfl
      by_cases c2 : g = true
      · rw [tkS_en c c1' c2]
        have a := lpS_len (s := chS col s) h h2
        have b := chS_len (col := col) (s := s)
        omega
      · have c2' : g = false := by
          cases g
          · rfl
          · exact absurd rfl c2
        by_cases c3 : stays has s.1 s.2.1 u v
        · rw [tkS_st c c1' c2' c3]
          have := mvS_len (kd := 0) h h2
          omega
        · rw [tkS_lp c c1' c2' c3]
          have := lpS_len h h2
          omega
theorem mdR_up {F F1 : Nat → Nat → Int} {G G1 : Nat → Int → Int} {s : PS} (h : mdR F G s) (h20 : F1 244 20 = F 244 20) (h24 : F1 244 24 = F 244 24) (h25 : F1 244 25 = F 244 25) (h29 : F1 244 29 = F 244 29) (hG : ∀ a, 258 ≤ a → a ≤ 260 → G1 a = G a) : mdR F1 G1 s := by
  obtain ⟨h1, h2, h3, h4, h5⟩ := h
  exact ⟨h24.trans h1, h25.trans h2, h29.trans h3, recR_cong h4 h20 (hG 258 (by decide) (by decide)) (hG 259 (by decide) (by decide)) (hG 260 (by decide) (by decide)), h5⟩
theorem md_chn {F : Nat → Nat → Int} {G : Nat → Int → Int} {X : PS} {col : Int} (h : mdR F G X) (hc : X.2.2.1 = -1 ∨ X.2.2.1 = col) (hr : 0 ≤ col ∧ col ≤ 7) : mdR (fU F 244 29 col) G (chS col X) := by
  have e : chS col X = (X.1, X.2.1, col, X.2.2.2) := by
    unfold chS
    rw [if_neg (by omega)]
  rw [e]
  obtain ⟨h1, h2, h3, h4, h5, h6⟩ := h
  exact ⟨by rw [fU_ja (by decide)]; exact h1, by rw [fU_ja (by decide)]; exact h2, fU_hit, recR_cong h4 (fU_ja (by decide)) rfl rfl rfl, h5, show -1 ≤ col ∧ col ≤ 7 by omega⟩
theorem md_chy {F : Nat → Nat → Int} {G : Nat → Int → Int} {X : PS} {col u v : Int} (h : mdR F G X) (hu : u = F 244 24) (hv : v = F 244 25) (h1 : ¬ X.2.2.1 = -1) (h2 : ¬ X.2.2.1 = col) (hr : 0 ≤ col ∧ col ≤ 7) : mdR (fU (stF F u v) 244 29 col) (stG F G u v 3) (chS col X) := by
  have e : chS col X = (X.1, X.2.1, col, X.2.2.2 ++ [(0, 0, 3)]) := by
    unfold chS
    rw [if_pos ⟨h1, h2⟩]
  rw [e]
  subst hu hv
  obtain ⟨g1, g2, g3, g4, g5, g6⟩ := h
  exact ⟨by rw [fU_ja (by decide), stF_24]; exact g1, by rw [fU_ja (by decide), stF_25]; exact g2, fU_hit, recR_cong (recR_add (F1 := stF F (F 244 24) (F 244 25)) (G1 := stG F G (F 244 24) (F 244 25) 3) (x := 0) (y := 0) (z := 3) g4 (rcOk_mk (by decide) (by decide) (by decide)) (stF_20 _ _ _) (by unfold stG; rw [Int.sub_self, Int.sub_self])) (fU_ja (by decide)) rfl rfl rfl, g5, show -1 ≤ col ∧ col ≤ 7 by omega⟩
/-- what the reference must hold before it tells a shape's runs -/
def mtB (F : Nat → Nat → Int) (G : Nat → Int → Int) (sn : Int) : Prop := (0 ≤ sn ∧ sn ≤ 9) ∧ (0 ≤ F 244 12 ∧ F 244 12 ≤ 100) ∧ mE G (F 244 12) ∧ (F 244 26 = 0 ∨ F 244 26 = 1) ∧ (0 ≤ G 245 (4 * sn) ∧ G 245 (4 * sn) ≤ 7)
def mtF (F F1 : Nat → Nat → Int) : Prop := ∀ a b, ¬ (a = 244 ∧ (b = 27 ∨ b = 28 ∨ (F 244 26 = 1 ∧ (b = 20 ∨ b = 24 ∨ b = 25 ∨ b = 29)))) → F1 a b = F a b
def mtG (F : Nat → Nat → Int) (G G1 : Nat → Int → Int) : Prop := ∀ a, a ≠ 257 → ¬ (F 244 26 = 1 ∧ 258 ≤ a ∧ a ≤ 260) → G1 a = G a
noncomputable def mtX (F : Nat → Nat → Int) (G : Nat → Int → Int) (sn : Int) (S : PS) (E : List Ev) : PS × Bool := runF (hasM G (F 244 12)) (G 245 (4 * sn)) E S
/-- the reference has taken the events E -/
def mtR (F : Nat → Nat → Int) (G : Nat → Int → Int) (sn : Int) (S : PS) (F1 : Nat → Nat → Int) (G1 : Nat → Int → Int) (E : List Ev) : Prop :=
  F1 244 27 = nf E ∧ F1 244 28 = (E.length : Int) ∧ (E = [] ∨ 1 ≤ nf E) ∧ (F 244 26 = 1 → mdR F1 G1 (mtX F G sn S E).1 ∧ (mtX F G sn S E).1.2.2.2.length ≤ 4011) ∧ mtF F F1 ∧ mtG F G G1
theorem mt_snoc1 {E : List Ev} {x y : Int} {fst : Bool} (h : E = [] ∨ 1 ≤ nf E) (hf : E = [] → fst = true) : E ++ [(x, y, fst)] = [] ∨ 1 ≤ nf (E ++ [(x, y, fst)]) := by
  right
  rw [nf_snoc]
  have hb := b2_rng fst
  rcases h with h | h
  · have e := nf_rng E
    rw [hf h]
    show 1 ≤ nf E + 1
    omega
  · show 1 ≤ nf E + b2 fst
    omega
theorem mt_idle {F0 F F2 : Nat → Nat → Int} {G0 G : Nat → Int → Int} {sn x y : Int} {S : PS} {E : List Ev} {fst : Bool} (hR : mtR F0 G0 sn S F G E) (hs : F0 244 26 = 0) (hf : E = [] → fst = true) (h27 : F2 244 27 = F 244 27 + b2 fst) (h28 : F2 244 28 = F 244 28 + 1) (hF : ∀ a b, ¬ (a = 244 ∧ (b = 27 ∨ b = 28)) → F2 a b = F a b) : mtR F0 G0 sn S F2 G (E ++ [(x, y, fst)]) := by
  obtain ⟨g1, g2, g3, g4, g5, g6⟩ := hR
  exact ⟨by rw [h27, nf_snoc, g1], by rw [h28, len_snoc, g2], mt_snoc1 g3 hf, fun z => by omega, fun a b q => (hF a b (by omega)).trans (g5 a b q), g6⟩
theorem mt_fin {F0 F F2 : Nat → Nat → Int} {G0 G G2 : Nat → Int → Int} {sn x y : Int} {S : PS} {E : List Ev} {fst : Bool} (hR : mtR F0 G0 sn S F G E) (hs : F0 244 26 = 1) (hU : inR x y) (hf : E = [] → fst = true) (h27 : F2 244 27 = F 244 27 + b2 fst) (h28 : F2 244 28 = F 244 28 + 1) (hm : mdR F2 G2 (tkS (hasM G0 (F0 244 12)) (G0 245 (4 * sn)) x y fst (mtX F0 G0 sn S E).2 (mtX F0 G0 sn S E).1)) (hF : ∀ a b, ¬ (a = 244 ∧ (b = 20 ∨ b = 24 ∨ b = 25 ∨ b = 27 ∨ b = 28 ∨ b = 29)) → F2 a b = F a b) (hG : mG G G2) : mtR F0 G0 sn S F2 G2 (E ++ [(x, y, fst)]) := by
  obtain ⟨g1, g2, g3, g4, g5, g6⟩ := hR
  obtain ⟨k1, k2⟩ := g4 hs
  refine ⟨by rw [h27, nf_snoc, g1], by rw [h28, len_snoc, g2], mt_snoc1 g3 hf, fun _ => ?_, fun a b q => (hF a b (by omega)).trans (g5 a b q), fun a q1 q2 => (hG a (by omega)).trans (g6 a q1 q2)⟩
  have e : mtX F0 G0 sn S (E ++ [(x, y, fst)]) = stE (hasM G0 (F0 244 12)) (G0 245 (4 * sn)) (mtX F0 G0 sn S E) (x, y, fst) := runF_snoc _ _ _ _ _
  rw [e]
  exact ⟨hm, tkS_len k1.2.2.2.2.1 hU k2⟩
theorem d_Mo_comes_0 : decode b_Mo_comes 0 = .ok (.aload_n 0, 1) := by decide +kernel
theorem d_Mo_comes_1 : decode b_Mo_comes 1 = .ok (.dup, 1) := by decide +kernel
theorem d_Mo_comes_2 : decode b_Mo_comes 2 = .ok (.getfield 97, 3) := by decide +kernel
theorem d_Mo_comes_5 : decode b_Mo_comes 5 = .ok (.iconst 1, 1) := by decide +kernel
theorem d_Mo_comes_6 : decode b_Mo_comes 6 = .ok (.iadd, 1) := by decide +kernel
theorem d_Mo_comes_7 : decode b_Mo_comes 7 = .ok (.putfield 97, 3) := by decide +kernel
theorem d_Mo_comes_10 : decode b_Mo_comes 10 = .ok (.iload 4, 2) := by decide +kernel
theorem d_Mo_comes_12 : decode b_Mo_comes 12 = .ok (.ifCond .eq 13, 3) := by decide +kernel
theorem d_Mo_comes_15 : decode b_Mo_comes 15 = .ok (.aload_n 0, 1) := by decide +kernel
theorem d_Mo_comes_16 : decode b_Mo_comes 16 = .ok (.dup, 1) := by decide +kernel
theorem d_Mo_comes_17 : decode b_Mo_comes 17 = .ok (.getfield 94, 3) := by decide +kernel
theorem d_Mo_comes_20 : decode b_Mo_comes 20 = .ok (.iconst 1, 1) := by decide +kernel
theorem d_Mo_comes_21 : decode b_Mo_comes 21 = .ok (.iadd, 1) := by decide +kernel
theorem d_Mo_comes_22 : decode b_Mo_comes 22 = .ok (.putfield 94, 3) := by decide +kernel
theorem d_Mo_comes_25 : decode b_Mo_comes 25 = .ok (.aload_n 0, 1) := by decide +kernel
theorem d_Mo_comes_26 : decode b_Mo_comes 26 = .ok (.getfield 91, 3) := by decide +kernel
theorem d_Mo_comes_29 : decode b_Mo_comes 29 = .ok (.ifCond .eq 13, 3) := by decide +kernel
theorem d_Mo_comes_32 : decode b_Mo_comes 32 = .ok (.aload_n 0, 1) := by decide +kernel
theorem d_Mo_comes_33 : decode b_Mo_comes 33 = .ok (.getfield 73, 3) := by decide +kernel
theorem d_Mo_comes_36 : decode b_Mo_comes 36 = .ok (.sipush 4000, 3) := by decide +kernel
theorem d_Mo_comes_39 : decode b_Mo_comes 39 = .ok (.if_icmp .le 4, 3) := by decide +kernel
theorem d_Mo_comes_42 : decode b_Mo_comes 42 = .ok (.return_, 1) := by decide +kernel
theorem d_Mo_comes_43 : decode b_Mo_comes 43 = .ok (.iload 4, 2) := by decide +kernel
theorem d_Mo_comes_45 : decode b_Mo_comes 45 = .ok (.ifCond .ne 13, 3) := by decide +kernel
theorem d_Mo_comes_48 : decode b_Mo_comes 48 = .ok (.aload_n 0, 1) := by decide +kernel
theorem d_Mo_comes_49 : decode b_Mo_comes 49 = .ok (.iconst 0, 1) := by decide +kernel
theorem d_Mo_comes_50 : decode b_Mo_comes 50 = .ok (.iload_n 2, 1) := by decide +kernel
theorem d_Mo_comes_51 : decode b_Mo_comes 51 = .ok (.iload_n 3, 1) := by decide +kernel
theorem d_Mo_comes_52 : decode b_Mo_comes 52 = .ok (.invokevirtual 175, 3) := by decide +kernel
theorem d_Mo_comes_55 : decode b_Mo_comes 55 = .ok (.goto 92, 3) := by decide +kernel
theorem d_Mo_comes_58 : decode b_Mo_comes 58 = .ok (.aload_n 0, 1) := by decide +kernel
theorem d_Mo_comes_59 : decode b_Mo_comes 59 = .ok (.getfield 94, 3) := by decide +kernel
theorem d_Mo_comes_62 : decode b_Mo_comes 62 = .ok (.iconst 1, 1) := by decide +kernel
theorem d_Mo_comes_63 : decode b_Mo_comes 63 = .ok (.if_icmp .ne 59, 3) := by decide +kernel
theorem d_Mo_comes_66 : decode b_Mo_comes 66 = .ok (.aload_n 0, 1) := by decide +kernel
theorem d_Mo_comes_67 : decode b_Mo_comes 67 = .ok (.getfield 100, 3) := by decide +kernel
theorem d_Mo_comes_70 : decode b_Mo_comes 70 = .ok (.ifCond .lt 31, 3) := by decide +kernel
theorem d_Mo_comes_73 : decode b_Mo_comes 73 = .ok (.aload_n 0, 1) := by decide +kernel
theorem d_Mo_comes_74 : decode b_Mo_comes 74 = .ok (.getfield 100, 3) := by decide +kernel
theorem d_Mo_comes_77 : decode b_Mo_comes 77 = .ok (.aload_n 0, 1) := by decide +kernel
theorem d_Mo_comes_78 : decode b_Mo_comes 78 = .ok (.getfield 20, 3) := by decide +kernel
theorem d_Mo_comes_81 : decode b_Mo_comes 81 = .ok (.iconst 4, 1) := by decide +kernel
theorem d_Mo_comes_82 : decode b_Mo_comes 82 = .ok (.iload_n 1, 1) := by decide +kernel
theorem d_Mo_comes_83 : decode b_Mo_comes 83 = .ok (.imul, 1) := by decide +kernel
theorem d_Mo_comes_84 : decode b_Mo_comes 84 = .ok (.iaload, 1) := by decide +kernel
theorem d_Mo_comes_85 : decode b_Mo_comes 85 = .ok (.if_icmp .eq 16, 3) := by decide +kernel
theorem d_Mo_comes_88 : decode b_Mo_comes 88 = .ok (.aload_n 0, 1) := by decide +kernel
theorem d_Mo_comes_89 : decode b_Mo_comes 89 = .ok (.iconst 3, 1) := by decide +kernel
theorem d_Mo_comes_90 : decode b_Mo_comes 90 = .ok (.aload_n 0, 1) := by decide +kernel
theorem d_Mo_comes_91 : decode b_Mo_comes 91 = .ok (.getfield 85, 3) := by decide +kernel
theorem d_Mo_comes_94 : decode b_Mo_comes 94 = .ok (.aload_n 0, 1) := by decide +kernel
theorem d_Mo_comes_95 : decode b_Mo_comes 95 = .ok (.getfield 88, 3) := by decide +kernel
theorem d_Mo_comes_98 : decode b_Mo_comes 98 = .ok (.invokevirtual 171, 3) := by decide +kernel
theorem d_Mo_comes_101 : decode b_Mo_comes 101 = .ok (.aload_n 0, 1) := by decide +kernel
theorem d_Mo_comes_102 : decode b_Mo_comes 102 = .ok (.aload_n 0, 1) := by decide +kernel
theorem d_Mo_comes_103 : decode b_Mo_comes 103 = .ok (.getfield 20, 3) := by decide +kernel
theorem d_Mo_comes_106 : decode b_Mo_comes 106 = .ok (.iconst 4, 1) := by decide +kernel
theorem d_Mo_comes_107 : decode b_Mo_comes 107 = .ok (.iload_n 1, 1) := by decide +kernel
theorem d_Mo_comes_108 : decode b_Mo_comes 108 = .ok (.imul, 1) := by decide +kernel
theorem d_Mo_comes_109 : decode b_Mo_comes 109 = .ok (.iaload, 1) := by decide +kernel
theorem d_Mo_comes_110 : decode b_Mo_comes 110 = .ok (.putfield 100, 3) := by decide +kernel
theorem d_Mo_comes_113 : decode b_Mo_comes 113 = .ok (.aload_n 0, 1) := by decide +kernel
theorem d_Mo_comes_114 : decode b_Mo_comes 114 = .ok (.iload_n 2, 1) := by decide +kernel
theorem d_Mo_comes_115 : decode b_Mo_comes 115 = .ok (.iload_n 3, 1) := by decide +kernel
theorem d_Mo_comes_116 : decode b_Mo_comes 116 = .ok (.invokevirtual 181, 3) := by decide +kernel
theorem d_Mo_comes_119 : decode b_Mo_comes 119 = .ok (.goto 28, 3) := by decide +kernel
theorem d_Mo_comes_122 : decode b_Mo_comes 122 = .ok (.aload_n 0, 1) := by decide +kernel
theorem d_Mo_comes_123 : decode b_Mo_comes 123 = .ok (.iload_n 2, 1) := by decide +kernel
theorem d_Mo_comes_124 : decode b_Mo_comes 124 = .ok (.iload_n 3, 1) := by decide +kernel
theorem d_Mo_comes_125 : decode b_Mo_comes 125 = .ok (.invokevirtual 185, 3) := by decide +kernel
theorem d_Mo_comes_128 : decode b_Mo_comes 128 = .ok (.ifCond .eq 13, 3) := by decide +kernel
theorem d_Mo_comes_131 : decode b_Mo_comes 131 = .ok (.aload_n 0, 1) := by decide +kernel
theorem d_Mo_comes_132 : decode b_Mo_comes 132 = .ok (.iconst 0, 1) := by decide +kernel
theorem d_Mo_comes_133 : decode b_Mo_comes 133 = .ok (.iload_n 2, 1) := by decide +kernel
theorem d_Mo_comes_134 : decode b_Mo_comes 134 = .ok (.iload_n 3, 1) := by decide +kernel
theorem d_Mo_comes_135 : decode b_Mo_comes 135 = .ok (.invokevirtual 175, 3) := by decide +kernel
theorem d_Mo_comes_138 : decode b_Mo_comes 138 = .ok (.goto 9, 3) := by decide +kernel
theorem d_Mo_comes_141 : decode b_Mo_comes 141 = .ok (.aload_n 0, 1) := by decide +kernel
theorem d_Mo_comes_142 : decode b_Mo_comes 142 = .ok (.iload_n 2, 1) := by decide +kernel
theorem d_Mo_comes_143 : decode b_Mo_comes 143 = .ok (.iload_n 3, 1) := by decide +kernel
theorem d_Mo_comes_144 : decode b_Mo_comes 144 = .ok (.invokevirtual 181, 3) := by decide +kernel
theorem d_Mo_comes_147 : decode b_Mo_comes 147 = .ok (.return_, 1) := by decide +kernel
set_option maxHeartbeats 1000000 in
set_option maxRecDepth 100000 in
theorem c_Mo_comes (F : Nat → Nat → Int) (G : Nat → Int → Int) (F0 : Nat → Nat → Int) (G0 : Nat → Int → Int) (sn x y : Int) (fst : Bool) (S : PS) (E : List Ev) (hB : mtB F0 G0 sn) (hR : mtR F0 G0 sn S F G E) (hU : inR x y) (hf : E = [] → fst = true) (hl : (E.length : Int) ≤ 1000000000) : cV y_Mo_comes b_Mo_comes 5 none 4 95 F G (fun ad => [.ref (ad 244), .int (iI sn), .int (iI x), .int (iI y), .int (iI (b2 fst))]) (fun F' G' => mtR F0 G0 sn S F' G' (E ++ [(x, y, fst)])) := by
  obtain ⟨h27, h28, hne, hst, hmf, hmg⟩ := id hR
  have hnf := nf_rng E
  have hsn := hB.1
  have e26 := hmf 244 26 (by omega)
  have hbn := b2_rng fst
  have hB4 := hB.2.2.2.1
  have hB5 := hB.2.2.2.2
  intro s0 a0 D t ad
  refine g_startV (by decide +kernel) (Nat.le_of_ble_eq_true rfl) (fun p l e R s m args below meth c A ok => ?_)
  show gW p l e R s m args below meth c _ D A 5 (gZ0 s) 0 0 ad 265 (mem ad t F G) 0 [(0, .ref (ad 244)), (1, .int (iI sn)), (2, .int (iI x)), (3, .int (iI y)), (4, .int (iI (b2 fst)))] []
  refine g_aload_n ok d_Mo_comes_0 rfl 0 rfl ?_
  refine g_dup ok d_Mo_comes_1 rfl ?_
  refine gI_Mo_places ok _ rfl k_1017 d_Mo_comes_2 ?_
  refine g_iconst ok d_Mo_comes_5 ?_
  refine g_iadd ok d_Mo_comes_6 ?_
  refine pI_Mo_places ok _ rfl k_1017 d_Mo_comes_7 ?_
  refine g_iload ok d_Mo_comes_10 4 rfl ?_
  refine g_if_eq ok 25 d_Mo_comes_12 (by decide) (by omega) (fun h1 => ?_) (fun h1 => ?_)
  · have hb : b2 fst = 0 := h1
    have hff := b2_f hb
    refine g_aload_n ok d_Mo_comes_25 rfl 0 rfl ?_
    refine gI_Mo_stitching ok _ rfl k_1015 d_Mo_comes_26 ?_
    refine g_top (y := F 244 26) (by show (fU F 244 28 ((F 244 28) + 1)) 244 26 = _; rw [fU_ja (show (26 : Nat) ≠ 28 by decide)]) ?_
    refine g_if_eq ok 42 d_Mo_comes_29 (by decide) (by omega) (fun h2 => ?_) (fun h2 => ?_)
    · exact g_vret ok d_Mo_comes_42 ⟨_, _, rfl, mt_idle hR (by omega) hf (by rw [fU_ja (by decide)]; omega) (by rw [fU_hit]) (fun a b z => by unfold fU; rw [if_neg (by omega)])⟩
    · have hs1 : F0 244 26 = 1 := by omega
      obtain ⟨hmd, hlen⟩ := hst hs1
      have hD : mdR (fU F 244 28 ((F 244 28) + 1)) G (mtX F0 G0 sn S E).1 := mdR_up hmd (by first | rw [fU_ja (by decide), fU_ja (by decide)] | rw [fU_ja (by decide)]) (by first | rw [fU_ja (by decide), fU_ja (by decide)] | rw [fU_ja (by decide)]) (by first | rw [fU_ja (by decide), fU_ja (by decide)] | rw [fU_ja (by decide)]) (by first | rw [fU_ja (by decide), fU_ja (by decide)] | rw [fU_ja (by decide)]) (fun _ _ _ => rfl)
      have eD := mdR_eq hD
      obtain ⟨hd1, hd2, hd3, hrec, hXi, hth⟩ := id hD
      have hl20 := hrec.1
      have e20 : (fU F 244 28 ((F 244 28) + 1)) 244 20 = F 244 20 := (by first | rw [fU_ja (by decide), fU_ja (by decide)] | rw [fU_ja (by decide)])
      have e12 : (fU F 244 28 ((F 244 28) + 1)) 244 12 = F0 244 12 := (by first | rw [fU_ja (by decide), fU_ja (by decide)] | rw [fU_ja (by decide)] : (fU F 244 28 ((F 244 28) + 1)) 244 12 = F 244 12).trans (hmf 244 12 (by omega))
      have e24 : F 244 24 = (fU F 244 28 ((F 244 28) + 1)) 244 24 := (by first | rw [fU_ja (by decide), fU_ja (by decide)] | rw [fU_ja (by decide)] : (fU F 244 28 ((F 244 28) + 1)) 244 24 = F 244 24).symm
      have e25 : F 244 25 = (fU F 244 28 ((F 244 28) + 1)) 244 25 := (by first | rw [fU_ja (by decide), fU_ja (by decide)] | rw [fU_ja (by decide)] : (fU F 244 28 ((F 244 28) + 1)) 244 25 = F 244 25).symm
      have e29 : (fU F 244 28 ((F 244 28) + 1)) 244 29 = F 244 29 := (by first | rw [fU_ja (by decide), fU_ja (by decide)] | rw [fU_ja (by decide)])
      have hmG : mG G0 G := fun a z => hmg a (by omega) (by omega)
      refine g_aload_n ok d_Mo_comes_32 rfl 0 rfl ?_
      refine gI_Mo_records ok _ rfl k_1009 d_Mo_comes_33 ?_
      refine g_top (y := F 244 20) (by show (fU F 244 28 ((F 244 28) + 1)) 244 20 = _; rw [fU_ja (show (20 : Nat) ≠ 28 by decide)]) ?_
      refine g_sipush ok (by decide) d_Mo_comes_36 ?_
      refine g_icmp_le ok 43 d_Mo_comes_39 (by decide) (by omega) (by omega) (fun h3 => ?_) (fun h3 => ?_)
      · have hn4 : ¬ 4000 < (mtX F0 G0 sn S E).1.2.2.2.length := by omega
        refine g_iload ok d_Mo_comes_43 4 rfl ?_
        refine g_if_ne ok 58 d_Mo_comes_45 (by decide) (by omega) (fun h4 => ?_) (fun h4 => ?_)
        · exact absurd h4 (by omega)
        · refine g_aload_n ok d_Mo_comes_48 rfl 0 rfl ?_
          refine g_iconst ok d_Mo_comes_49 ?_
          refine g_iload_n ok d_Mo_comes_50 rfl 2 rfl ?_
          refine g_iload_n ok d_Mo_comes_51 rfl 3 rfl ?_
          have eM := mdR_eq hD
          refine g_callVV (As := [.int (iI 0), .int (iI x), .int (iI y)]) (st := []) ok _ (c_Mo_move (fU F 244 28 ((F 244 28) + 1)) G _ _ _ _ (eM ▸ hD) hU (by decide) (by omega) s0 a0 D t ad) k_1213 k_11 k_1210 cl_Mo (m_Mo (ad := ad) (t := t) (F := (fU F 244 28 ((F 244 28) + 1))) (G := G) rfl).1 (m_Mo rfl).2 k_1212 s_Mo_move q_Mo_move (by decide) (Nat.le_of_ble_eq_true rfl) (by decide) d_Mo_comes_52 (fun ce1 hc5 => ?_)
          obtain ⟨F2, G2, rfl, hm2, hf2, hg2⟩ := hc5
          rw [← eM] at hm2
          refine g_goto ok 147 d_Mo_comes_55 (by decide) ?_
          have htk : tkS (hasM G0 (F0 244 12)) (G0 245 (4 * sn)) x y fst (mtX F0 G0 sn S E).2 (mtX F0 G0 sn S E).1 = mvS 0 x y (mtX F0 G0 sn S E).1 := tkS_mv hn4 hff
          exact g_vret ok d_Mo_comes_147 ⟨_, _, rfl, mt_fin hR hs1 hU hf ((hf2 244 27 (by decide)).trans (by rw [fU_ja (by decide)]; omega)) ((hf2 244 28 (by decide)).trans (by rw [fU_hit])) (by rw [htk]; exact hm2) (fun a b z => (hf2 a b (by omega)).trans (by unfold fU; rw [if_neg (by omega)])) hg2⟩
      · have htk : tkS (hasM G0 (F0 244 12)) (G0 245 (4 * sn)) x y fst (mtX F0 G0 sn S E).2 (mtX F0 G0 sn S E).1 = (mtX F0 G0 sn S E).1 := tkS_over (by omega)
        exact g_vret ok d_Mo_comes_42 ⟨_, _, rfl, mt_fin hR hs1 hU hf (by rw [fU_ja (by decide)]; omega) (by rw [fU_hit]) (by rw [htk]; exact hD) (fun a b z => by unfold fU; rw [if_neg (by omega)]) (fun _ _ => rfl)⟩
  · have hft := b2_t h1
    have hb : b2 fst = 1 := by have := b2_rng fst; omega
    refine g_aload_n ok d_Mo_comes_15 rfl 0 rfl ?_
    refine g_dup ok d_Mo_comes_16 rfl ?_
    refine gI_Mo_runs ok _ rfl k_1016 d_Mo_comes_17 ?_
    refine g_top (y := F 244 27) (by show (fU F 244 28 ((F 244 28) + 1)) 244 27 = _; rw [fU_ja (show (27 : Nat) ≠ 28 by decide)]) ?_
    refine g_iconst ok d_Mo_comes_20 ?_
    refine g_iadd ok d_Mo_comes_21 ?_
    refine pI_Mo_runs ok _ rfl k_1016 d_Mo_comes_22 ?_
    refine g_aload_n ok d_Mo_comes_25 rfl 0 rfl ?_
    refine gI_Mo_stitching ok _ rfl k_1015 d_Mo_comes_26 ?_
    refine g_top (y := F 244 26) (by show (fU (fU F 244 28 ((F 244 28) + 1)) 244 27 ((F 244 27) + 1)) 244 26 = _; rw [fU_ja (show (26 : Nat) ≠ 27 by decide), fU_ja (show (26 : Nat) ≠ 28 by decide)]) ?_
    refine g_if_eq ok 42 d_Mo_comes_29 (by decide) (by omega) (fun h6 => ?_) (fun h6 => ?_)
    · exact g_vret ok d_Mo_comes_42 ⟨_, _, rfl, mt_idle hR (by omega) hf (by rw [fU_hit]; omega) (by rw [fU_ja (by decide), fU_hit]) (fun a b z => by unfold fU; rw [if_neg (by omega), if_neg (by omega)])⟩
    · have hs1 : F0 244 26 = 1 := by omega
      obtain ⟨hmd, hlen⟩ := hst hs1
      have hD : mdR (fU (fU F 244 28 ((F 244 28) + 1)) 244 27 ((F 244 27) + 1)) G (mtX F0 G0 sn S E).1 := mdR_up hmd (by first | rw [fU_ja (by decide), fU_ja (by decide)] | rw [fU_ja (by decide)]) (by first | rw [fU_ja (by decide), fU_ja (by decide)] | rw [fU_ja (by decide)]) (by first | rw [fU_ja (by decide), fU_ja (by decide)] | rw [fU_ja (by decide)]) (by first | rw [fU_ja (by decide), fU_ja (by decide)] | rw [fU_ja (by decide)]) (fun _ _ _ => rfl)
      have eD := mdR_eq hD
      obtain ⟨hd1, hd2, hd3, hrec, hXi, hth⟩ := id hD
      have hl20 := hrec.1
      have e20 : (fU (fU F 244 28 ((F 244 28) + 1)) 244 27 ((F 244 27) + 1)) 244 20 = F 244 20 := (by first | rw [fU_ja (by decide), fU_ja (by decide)] | rw [fU_ja (by decide)])
      have e12 : (fU (fU F 244 28 ((F 244 28) + 1)) 244 27 ((F 244 27) + 1)) 244 12 = F0 244 12 := (by first | rw [fU_ja (by decide), fU_ja (by decide)] | rw [fU_ja (by decide)] : (fU (fU F 244 28 ((F 244 28) + 1)) 244 27 ((F 244 27) + 1)) 244 12 = F 244 12).trans (hmf 244 12 (by omega))
      have e24 : F 244 24 = (fU (fU F 244 28 ((F 244 28) + 1)) 244 27 ((F 244 27) + 1)) 244 24 := (by first | rw [fU_ja (by decide), fU_ja (by decide)] | rw [fU_ja (by decide)] : (fU (fU F 244 28 ((F 244 28) + 1)) 244 27 ((F 244 27) + 1)) 244 24 = F 244 24).symm
      have e25 : F 244 25 = (fU (fU F 244 28 ((F 244 28) + 1)) 244 27 ((F 244 27) + 1)) 244 25 := (by first | rw [fU_ja (by decide), fU_ja (by decide)] | rw [fU_ja (by decide)] : (fU (fU F 244 28 ((F 244 28) + 1)) 244 27 ((F 244 27) + 1)) 244 25 = F 244 25).symm
      have e29 : (fU (fU F 244 28 ((F 244 28) + 1)) 244 27 ((F 244 27) + 1)) 244 29 = F 244 29 := (by first | rw [fU_ja (by decide), fU_ja (by decide)] | rw [fU_ja (by decide)])
      have hmG : mG G0 G := fun a z => hmg a (by omega) (by omega)
      refine g_aload_n ok d_Mo_comes_32 rfl 0 rfl ?_
      refine gI_Mo_records ok _ rfl k_1009 d_Mo_comes_33 ?_
      refine g_top (y := F 244 20) (by show (fU (fU F 244 28 ((F 244 28) + 1)) 244 27 ((F 244 27) + 1)) 244 20 = _; rw [fU_ja (show (20 : Nat) ≠ 27 by decide), fU_ja (show (20 : Nat) ≠ 28 by decide)]) ?_
      refine g_sipush ok (by decide) d_Mo_comes_36 ?_
      refine g_icmp_le ok 43 d_Mo_comes_39 (by decide) (by omega) (by omega) (fun h7 => ?_) (fun h7 => ?_)
      · have hn4 : ¬ 4000 < (mtX F0 G0 sn S E).1.2.2.2.length := by omega
        refine g_iload ok d_Mo_comes_43 4 rfl ?_
        refine g_if_ne ok 58 d_Mo_comes_45 (by decide) (by omega) (fun h8 => ?_) (fun h8 => ?_)
        · refine g_aload_n ok d_Mo_comes_58 rfl 0 rfl ?_
          refine gI_Mo_runs ok _ rfl k_1016 d_Mo_comes_59 ?_
          refine g_top (y := (F 244 27) + 1) (by show (fU (fU F 244 28 ((F 244 28) + 1)) 244 27 ((F 244 27) + 1)) 244 27 = _; rw [fU_hit]) ?_
          refine g_iconst ok d_Mo_comes_62 ?_
          refine g_icmp_ne ok 122 d_Mo_comes_63 (by decide) (by omega) (by omega) (fun h9 => ?_) (fun h9 => ?_)
          · have hE0 : ¬ E = [] := fun z => absurd h27 (by rw [z]; show ¬ F 244 27 = 0; omega)
            have hent : (mtX F0 G0 sn S E).2 = false := runF_2 hE0
            refine g_aload_n ok d_Mo_comes_122 rfl 0 rfl ?_
            refine g_iload_n ok d_Mo_comes_123 rfl 2 rfl ?_
            refine g_iload_n ok d_Mo_comes_124 rfl 3 rfl ?_
            refine g_callIV (As := [.int (iI x), .int (iI y)]) (st := []) ok _ (c_Mo_stepsIn (fU (fU F 244 28 ((F 244 28) + 1)) 244 27 ((F 244 27) + 1)) G _ _ (by rw [hd1, hd2]; exact hXi) hU (by rw [e12]; exact hB.2.1) (by rw [e12]; exact mE_cong hmG hB.2.2.1) s0 a0 D t ad) k_1232 k_11 k_1229 cl_Mo (m_Mo (ad := ad) (t := t) (F := (fU (fU F 244 28 ((F 244 28) + 1)) 244 27 ((F 244 27) + 1))) (G := G) rfl).1 (m_Mo rfl).2 k_1231 s_Mo_stepsIn q_Mo_stepsIn (by decide) (Nat.le_of_ble_eq_true rfl) (by decide) d_Mo_comes_125 (fun zi ce1 hc10 => ?_)
            obtain ⟨F5, G5, rfl, hF5, hg5, hg57, hz01, hzs⟩ := hc10
            subst hF5
            rw [hasM_cong hmG, e12, hd1, hd2] at hzs
            have hD5 : mdR (fU (fU F 244 28 ((F 244 28) + 1)) 244 27 ((F 244 27) + 1)) G5 (mtX F0 G0 sn S E).1 := mdR_up hD rfl rfl rfl rfl (fun a h1 h2 => hg57 a (by omega))
            refine g_if_eq ok 141 d_Mo_comes_128 (by decide) (by omega) (fun h11 => ?_) (fun h11 => ?_)
            · refine g_aload_n ok d_Mo_comes_141 rfl 0 rfl ?_
              refine g_iload_n ok d_Mo_comes_142 rfl 2 rfl ?_
              refine g_iload_n ok d_Mo_comes_143 rfl 3 rfl ?_
              have eM := mdR_eq hD5
              refine g_callVV (As := [.int (iI x), .int (iI y)]) (st := []) ok _ (c_Mo_leap (fU (fU F 244 28 ((F 244 28) + 1)) 244 27 ((F 244 27) + 1)) G5 _ _ _ (eM ▸ hD5) hU (by omega) s0 a0 D t ad) k_1228 k_11 k_1225 cl_Mo (m_Mo (ad := ad) (t := t) (F := (fU (fU F 244 28 ((F 244 28) + 1)) 244 27 ((F 244 27) + 1))) (G := G5) rfl).1 (m_Mo rfl).2 k_1227 s_Mo_leap q_Mo_leap (by decide) (Nat.le_of_ble_eq_true rfl) (by decide) d_Mo_comes_144 (fun ce1 hc12 => ?_)
              obtain ⟨F2, G2, rfl, hm2, hf2, hg2⟩ := hc12
              rw [← eM] at hm2
              have htk : tkS (hasM G0 (F0 244 12)) (G0 245 (4 * sn)) x y fst (mtX F0 G0 sn S E).2 (mtX F0 G0 sn S E).1 = lpS x y (mtX F0 G0 sn S E).1 := tkS_lp hn4 hft hent (fun z => absurd (hzs.mpr z) (by omega))
              exact g_vret ok d_Mo_comes_147 ⟨_, _, rfl, mt_fin hR hs1 hU hf ((hf2 244 27 (by decide)).trans (by rw [fU_hit]; omega)) ((hf2 244 28 (by decide)).trans (by rw [fU_ja (by decide), fU_hit])) (by rw [htk]; exact hm2) (fun a b z => (hf2 a b (by omega)).trans (by unfold fU; rw [if_neg (by omega), if_neg (by omega)])) (mG_tr hg5 hg2)⟩
            · refine g_aload_n ok d_Mo_comes_131 rfl 0 rfl ?_
              refine g_iconst ok d_Mo_comes_132 ?_
              refine g_iload_n ok d_Mo_comes_133 rfl 2 rfl ?_
              refine g_iload_n ok d_Mo_comes_134 rfl 3 rfl ?_
              have eM := mdR_eq hD5
              refine g_callVV (As := [.int (iI 0), .int (iI x), .int (iI y)]) (st := []) ok _ (c_Mo_move (fU (fU F 244 28 ((F 244 28) + 1)) 244 27 ((F 244 27) + 1)) G5 _ _ _ _ (eM ▸ hD5) hU (by decide) (by omega) s0 a0 D t ad) k_1213 k_11 k_1210 cl_Mo (m_Mo (ad := ad) (t := t) (F := (fU (fU F 244 28 ((F 244 28) + 1)) 244 27 ((F 244 27) + 1))) (G := G5) rfl).1 (m_Mo rfl).2 k_1212 s_Mo_move q_Mo_move (by decide) (Nat.le_of_ble_eq_true rfl) (by decide) d_Mo_comes_135 (fun ce1 hc13 => ?_)
              obtain ⟨F2, G2, rfl, hm2, hf2, hg2⟩ := hc13
              rw [← eM] at hm2
              refine g_goto ok 147 d_Mo_comes_138 (by decide) ?_
              have htk : tkS (hasM G0 (F0 244 12)) (G0 245 (4 * sn)) x y fst (mtX F0 G0 sn S E).2 (mtX F0 G0 sn S E).1 = mvS 0 x y (mtX F0 G0 sn S E).1 := tkS_st hn4 hft hent (hzs.mp (by omega))
              exact g_vret ok d_Mo_comes_147 ⟨_, _, rfl, mt_fin hR hs1 hU hf ((hf2 244 27 (by decide)).trans (by rw [fU_hit]; omega)) ((hf2 244 28 (by decide)).trans (by rw [fU_ja (by decide), fU_hit])) (by rw [htk]; exact hm2) (fun a b z => (hf2 a b (by omega)).trans (by unfold fU; rw [if_neg (by omega), if_neg (by omega)])) (mG_tr hg5 hg2)⟩
          · have hE0 : E = [] := by rcases hne with z | z; exact z; omega
            have hent : (mtX F0 G0 sn S E).2 = true := by rw [hE0]; rfl
            refine g_aload_n ok d_Mo_comes_66 rfl 0 rfl ?_
            refine gI_Mo_lastColour ok _ rfl k_1018 d_Mo_comes_67 ?_
            refine g_top (y := F 244 29) (by show (fU (fU F 244 28 ((F 244 28) + 1)) 244 27 ((F 244 27) + 1)) 244 29 = _; rw [fU_ja (show (29 : Nat) ≠ 27 by decide), fU_ja (show (29 : Nat) ≠ 28 by decide)]) ?_
            refine g_if_lt ok 101 d_Mo_comes_70 (by decide) (by omega) (fun h14 => ?_) (fun h14 => ?_)
            · refine g_aload_n ok d_Mo_comes_101 rfl 0 rfl ?_
              refine g_aload_n ok d_Mo_comes_102 rfl 0 rfl ?_
              refine gI_Mo_told ok _ rfl k_992 d_Mo_comes_103 ?_
              refine g_iconst ok d_Mo_comes_106 ?_
              refine g_iload_n ok d_Mo_comes_107 rfl 1 rfl ?_
              refine g_imul ok d_Mo_comes_108 ?_
              refine h_iald ok _ a_245 (by omega) d_Mo_comes_109 ?_
              refine g_top (y := G0 245 (4 * sn)) (by show G 245 (4 * sn) = _; rw [hmG 245 (by decide)]) ?_
              refine pI_Mo_lastColour ok _ rfl k_1018 d_Mo_comes_110 ?_
              have hDc : mdR (fU (fU (fU F 244 28 ((F 244 28) + 1)) 244 27 ((F 244 27) + 1)) 244 29 (G0 245 (4 * sn))) G (chS (G0 245 (4 * sn)) (mtX F0 G0 sn S E).1) := md_chn hD (by omega) hB.2.2.2.2
              refine g_aload_n ok d_Mo_comes_113 rfl 0 rfl ?_
              refine g_iload_n ok d_Mo_comes_114 rfl 2 rfl ?_
              refine g_iload_n ok d_Mo_comes_115 rfl 3 rfl ?_
              have eM := mdR_eq hDc
              have hcl := chS_len (col := G0 245 (4 * sn)) (s := (mtX F0 G0 sn S E).1)
              refine g_callVV (As := [.int (iI x), .int (iI y)]) (st := []) ok _ (c_Mo_leap (fU (fU (fU F 244 28 ((F 244 28) + 1)) 244 27 ((F 244 27) + 1)) 244 29 (G0 245 (4 * sn))) G _ _ _ (eM ▸ hDc) hU (by omega) s0 a0 D t ad) k_1228 k_11 k_1225 cl_Mo (m_Mo (ad := ad) (t := t) (F := (fU (fU (fU F 244 28 ((F 244 28) + 1)) 244 27 ((F 244 27) + 1)) 244 29 (G0 245 (4 * sn)))) (G := G) rfl).1 (m_Mo rfl).2 k_1227 s_Mo_leap q_Mo_leap (by decide) (Nat.le_of_ble_eq_true rfl) (by decide) d_Mo_comes_116 (fun ce1 hc15 => ?_)
              obtain ⟨F2, G2, rfl, hm2, hf2, hg2⟩ := hc15
              rw [← eM] at hm2
              refine g_goto ok 147 d_Mo_comes_119 (by decide) ?_
              have htk : tkS (hasM G0 (F0 244 12)) (G0 245 (4 * sn)) x y fst (mtX F0 G0 sn S E).2 (mtX F0 G0 sn S E).1 = lpS x y (chS (G0 245 (4 * sn)) (mtX F0 G0 sn S E).1) := tkS_en hn4 hft hent
              exact g_vret ok d_Mo_comes_147 ⟨_, _, rfl, mt_fin hR hs1 hU hf ((hf2 244 27 (by decide)).trans (by rw [fU_ja (by decide), fU_hit]; omega)) ((hf2 244 28 (by decide)).trans (by rw [fU_ja (by decide), fU_ja (by decide), fU_hit])) (by rw [htk]; exact hm2) (fun a b z => (hf2 a b (by omega)).trans (by unfold fU; rw [if_neg (by omega), if_neg (by omega), if_neg (by omega)])) (mG_tr (fun _ _ => rfl) hg2)⟩
            · refine g_aload_n ok d_Mo_comes_73 rfl 0 rfl ?_
              refine gI_Mo_lastColour ok _ rfl k_1018 d_Mo_comes_74 ?_
              refine g_top (y := F 244 29) (by show (fU (fU F 244 28 ((F 244 28) + 1)) 244 27 ((F 244 27) + 1)) 244 29 = _; rw [fU_ja (show (29 : Nat) ≠ 27 by decide), fU_ja (show (29 : Nat) ≠ 28 by decide)]) ?_
              refine g_aload_n ok d_Mo_comes_77 rfl 0 rfl ?_
              refine gI_Mo_told ok _ rfl k_992 d_Mo_comes_78 ?_
              refine g_iconst ok d_Mo_comes_81 ?_
              refine g_iload_n ok d_Mo_comes_82 rfl 1 rfl ?_
              refine g_imul ok d_Mo_comes_83 ?_
              refine h_iald ok _ a_245 (by omega) d_Mo_comes_84 ?_
              refine g_top (y := G0 245 (4 * sn)) (by show G 245 (4 * sn) = _; rw [hmG 245 (by decide)]) ?_
              refine g_icmp_eq ok 101 d_Mo_comes_85 (by decide) (by omega) (by omega) (fun h16 => ?_) (fun h16 => ?_)
              · refine g_aload_n ok d_Mo_comes_101 rfl 0 rfl ?_
                refine g_aload_n ok d_Mo_comes_102 rfl 0 rfl ?_
                refine gI_Mo_told ok _ rfl k_992 d_Mo_comes_103 ?_
                refine g_iconst ok d_Mo_comes_106 ?_
                refine g_iload_n ok d_Mo_comes_107 rfl 1 rfl ?_
                refine g_imul ok d_Mo_comes_108 ?_
                refine h_iald ok _ a_245 (by omega) d_Mo_comes_109 ?_
                refine g_top (y := G0 245 (4 * sn)) (by show G 245 (4 * sn) = _; rw [hmG 245 (by decide)]) ?_
                refine pI_Mo_lastColour ok _ rfl k_1018 d_Mo_comes_110 ?_
                have hDc : mdR (fU (fU (fU F 244 28 ((F 244 28) + 1)) 244 27 ((F 244 27) + 1)) 244 29 (G0 245 (4 * sn))) G (chS (G0 245 (4 * sn)) (mtX F0 G0 sn S E).1) := md_chn hD (by omega) hB.2.2.2.2
                refine g_aload_n ok d_Mo_comes_113 rfl 0 rfl ?_
                refine g_iload_n ok d_Mo_comes_114 rfl 2 rfl ?_
                refine g_iload_n ok d_Mo_comes_115 rfl 3 rfl ?_
                have eM := mdR_eq hDc
                have hcl := chS_len (col := G0 245 (4 * sn)) (s := (mtX F0 G0 sn S E).1)
                refine g_callVV (As := [.int (iI x), .int (iI y)]) (st := []) ok _ (c_Mo_leap (fU (fU (fU F 244 28 ((F 244 28) + 1)) 244 27 ((F 244 27) + 1)) 244 29 (G0 245 (4 * sn))) G _ _ _ (eM ▸ hDc) hU (by omega) s0 a0 D t ad) k_1228 k_11 k_1225 cl_Mo (m_Mo (ad := ad) (t := t) (F := (fU (fU (fU F 244 28 ((F 244 28) + 1)) 244 27 ((F 244 27) + 1)) 244 29 (G0 245 (4 * sn)))) (G := G) rfl).1 (m_Mo rfl).2 k_1227 s_Mo_leap q_Mo_leap (by decide) (Nat.le_of_ble_eq_true rfl) (by decide) d_Mo_comes_116 (fun ce1 hc17 => ?_)
                obtain ⟨F2, G2, rfl, hm2, hf2, hg2⟩ := hc17
                rw [← eM] at hm2
                refine g_goto ok 147 d_Mo_comes_119 (by decide) ?_
                have htk : tkS (hasM G0 (F0 244 12)) (G0 245 (4 * sn)) x y fst (mtX F0 G0 sn S E).2 (mtX F0 G0 sn S E).1 = lpS x y (chS (G0 245 (4 * sn)) (mtX F0 G0 sn S E).1) := tkS_en hn4 hft hent
                exact g_vret ok d_Mo_comes_147 ⟨_, _, rfl, mt_fin hR hs1 hU hf ((hf2 244 27 (by decide)).trans (by rw [fU_ja (by decide), fU_hit]; omega)) ((hf2 244 28 (by decide)).trans (by rw [fU_ja (by decide), fU_ja (by decide), fU_hit])) (by rw [htk]; exact hm2) (fun a b z => (hf2 a b (by omega)).trans (by unfold fU; rw [if_neg (by omega), if_neg (by omega), if_neg (by omega)])) (mG_tr (fun _ _ => rfl) hg2)⟩
              · refine g_aload_n ok d_Mo_comes_88 rfl 0 rfl ?_
                refine g_iconst ok d_Mo_comes_89 ?_
                refine g_aload_n ok d_Mo_comes_90 rfl 0 rfl ?_
                refine gI_Mo_nx ok _ rfl k_1013 d_Mo_comes_91 ?_
                refine g_top (y := F 244 24) (by show (fU (fU F 244 28 ((F 244 28) + 1)) 244 27 ((F 244 27) + 1)) 244 24 = _; rw [fU_ja (show (24 : Nat) ≠ 27 by decide), fU_ja (show (24 : Nat) ≠ 28 by decide)]) ?_
                refine g_aload_n ok d_Mo_comes_94 rfl 0 rfl ?_
                refine gI_Mo_ny ok _ rfl k_1014 d_Mo_comes_95 ?_
                refine g_top (y := F 244 25) (by show (fU (fU F 244 28 ((F 244 28) + 1)) 244 27 ((F 244 27) + 1)) 244 25 = _; rw [fU_ja (show (25 : Nat) ≠ 27 by decide), fU_ja (show (25 : Nat) ≠ 28 by decide)]) ?_
                refine g_callVV (As := [.int (iI 3), .int (iI (F 244 24)), .int (iI (F 244 25))]) (st := []) ok _ (c_Mo_step (fU (fU F 244 28 ((F 244 28) + 1)) 244 27 ((F 244 27) + 1)) G _ _ _ (by rw [e20]; omega) s0 a0 D t ad) k_1224 k_11 k_1221 cl_Mo (m_Mo (ad := ad) (t := t) (F := (fU (fU F 244 28 ((F 244 28) + 1)) 244 27 ((F 244 27) + 1))) (G := G) rfl).1 (m_Mo rfl).2 k_1223 s_Mo_step q_Mo_step (by decide) (Nat.le_of_ble_eq_true rfl) (by decide) d_Mo_comes_98 (fun ce1 hc18 => ?_)
                obtain ⟨Fq, Gq, rfl, hFq, hGq⟩ := hc18
                rw [hFq, hGq]
                clear hFq hGq
                refine g_aload_n ok d_Mo_comes_101 rfl 0 rfl ?_
                refine g_aload_n ok d_Mo_comes_102 rfl 0 rfl ?_
                refine gI_Mo_told ok _ rfl k_992 d_Mo_comes_103 ?_
                refine g_iconst ok d_Mo_comes_106 ?_
                refine g_iload_n ok d_Mo_comes_107 rfl 1 rfl ?_
                refine g_imul ok d_Mo_comes_108 ?_
                refine h_iald ok _ a_245 (by omega) d_Mo_comes_109 ?_
                refine g_top (y := G0 245 (4 * sn)) (by show (stG (fU (fU F 244 28 ((F 244 28) + 1)) 244 27 ((F 244 27) + 1)) G (F 244 24) (F 244 25) 3) 245 (4 * sn) = _; rw [(stG_fr _ _ _ _ _ 245 (by decide)), hmG 245 (by decide)]) ?_
                refine pI_Mo_lastColour ok _ rfl k_1018 d_Mo_comes_110 ?_
                have hDc : mdR (fU (stF (fU (fU F 244 28 ((F 244 28) + 1)) 244 27 ((F 244 27) + 1)) (F 244 24) (F 244 25)) 244 29 (G0 245 (4 * sn))) (stG (fU (fU F 244 28 ((F 244 28) + 1)) 244 27 ((F 244 27) + 1)) G (F 244 24) (F 244 25) 3) (chS (G0 245 (4 * sn)) (mtX F0 G0 sn S E).1) := md_chy hD e24 e25 (by omega) (by omega) hB.2.2.2.2
                refine g_aload_n ok d_Mo_comes_113 rfl 0 rfl ?_
                refine g_iload_n ok d_Mo_comes_114 rfl 2 rfl ?_
                refine g_iload_n ok d_Mo_comes_115 rfl 3 rfl ?_
                have eM := mdR_eq hDc
                have hcl := chS_len (col := G0 245 (4 * sn)) (s := (mtX F0 G0 sn S E).1)
                refine g_callVV (As := [.int (iI x), .int (iI y)]) (st := []) ok _ (c_Mo_leap (fU (stF (fU (fU F 244 28 ((F 244 28) + 1)) 244 27 ((F 244 27) + 1)) (F 244 24) (F 244 25)) 244 29 (G0 245 (4 * sn))) (stG (fU (fU F 244 28 ((F 244 28) + 1)) 244 27 ((F 244 27) + 1)) G (F 244 24) (F 244 25) 3) _ _ _ (eM ▸ hDc) hU (by omega) s0 a0 D t ad) k_1228 k_11 k_1225 cl_Mo (m_Mo (ad := ad) (t := t) (F := (fU (stF (fU (fU F 244 28 ((F 244 28) + 1)) 244 27 ((F 244 27) + 1)) (F 244 24) (F 244 25)) 244 29 (G0 245 (4 * sn)))) (G := (stG (fU (fU F 244 28 ((F 244 28) + 1)) 244 27 ((F 244 27) + 1)) G (F 244 24) (F 244 25) 3)) rfl).1 (m_Mo rfl).2 k_1227 s_Mo_leap q_Mo_leap (by decide) (Nat.le_of_ble_eq_true rfl) (by decide) d_Mo_comes_116 (fun ce1 hc19 => ?_)
                obtain ⟨F2, G2, rfl, hm2, hf2, hg2⟩ := hc19
                rw [← eM] at hm2
                refine g_goto ok 147 d_Mo_comes_119 (by decide) ?_
                have htk : tkS (hasM G0 (F0 244 12)) (G0 245 (4 * sn)) x y fst (mtX F0 G0 sn S E).2 (mtX F0 G0 sn S E).1 = lpS x y (chS (G0 245 (4 * sn)) (mtX F0 G0 sn S E).1) := tkS_en hn4 hft hent
                exact g_vret ok d_Mo_comes_147 ⟨_, _, rfl, mt_fin hR hs1 hU hf ((hf2 244 27 (by decide)).trans (by rw [fU_ja (by decide), stF_fr _ _ _ _ _ (by decide), fU_hit]; omega)) ((hf2 244 28 (by decide)).trans (by rw [fU_ja (by decide), stF_fr _ _ _ _ _ (by decide), fU_ja (by decide), fU_hit])) (by rw [htk]; exact hm2) (fun a b z => (hf2 a b (by omega)).trans (by unfold stF fU; rw [if_neg (by omega), if_neg (by omega), if_neg (by omega), if_neg (by omega), if_neg (by omega), if_neg (by omega)])) (mG_tr (fun a z => stG_fr _ _ _ _ _ a (by omega)) hg2)⟩
        · exact absurd h8 (by omega)
      · have htk : tkS (hasM G0 (F0 244 12)) (G0 245 (4 * sn)) x y fst (mtX F0 G0 sn S E).2 (mtX F0 G0 sn S E).1 = (mtX F0 G0 sn S E).1 := tkS_over (by omega)
        exact g_vret ok d_Mo_comes_42 ⟨_, _, rfl, mt_fin hR hs1 hU hf (by rw [fU_hit]; omega) (by rw [fU_ja (by decide), fU_hit]) (by rw [htk]; exact hD) (fun a b z => by unfold fU; rw [if_neg (by omega), if_neg (by omega)]) (fun _ _ => rfl)⟩
