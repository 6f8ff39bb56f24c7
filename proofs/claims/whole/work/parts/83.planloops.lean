/-! the planner's loops -/
def shP (G : Nat → Int → Int) (k : Int) : Nat := 2 + 22 * (G 222 k).toNat
def mtC (F : Nat → Nat → Int) (k j : Nat) : Prop := F k 7 ≤ F j 9 ∧ F j 7 ≤ F k 9 ∧ F k 8 ≤ F j 10 ∧ F j 8 ≤ F k 10
def bxC (F : Nat → Nat → Int) (k : Nat) : Prop := (0 ≤ F k 7 ∧ F k 7 ≤ 600) ∧ (0 ≤ F k 8 ∧ F k 8 ≤ 600) ∧ (0 ≤ F k 9 ∧ F k 9 ≤ 600) ∧ (0 ≤ F k 10 ∧ F k 10 ≤ 600)
/-- the sequence names n shapes that are whole -/
def sqOk (F : Nat → Nat → Int) (G : Nat → Int → Int) (n : Int) : Prop := ∀ k : Int, 0 ≤ k → k < n → (0 ≤ G 222 k ∧ G 222 k < 10) ∧ bxC F (shP G k) ∧ (0 ≤ F (shP G k) 3 ∧ F (shP G k) 3 ≤ 7)
theorem shP_is {G : Nat → Int → Int} {k : Int} (h : 0 ≤ G 222 k ∧ G 222 k < 10) : isSh (shP G k) := by
  unfold isSh shP
  omega
def ahI (F : Nat → Nat → Int) (G : Nat → Int → Int) (k m A : Int) : Prop := (0 ≤ A ∧ A < 2 ^ m.toNat) ∧ ∀ j : Nat, bt A j ↔ ((j : Int) < m ∧ mtC F (shP G k) (shP G (j : Int)))
def gaI (F : Nat → Nat → Int) (G G1 : Nat → Int → Int) (n : Int) : Prop := (∀ a, a ≠ 241 → a ≠ 242 → G1 a = G a) ∧ ∀ k : Int, 0 ≤ k → k < n → G1 242 k = F (shP G k) 3 ∧ ahI F G k k (G1 241 k)
theorem ah_0 {F : Nat → Nat → Int} {G : Nat → Int → Int} {k : Int} : ahI F G k 0 0 := ⟨by decide, fun j => ⟨fun z => absurd z (bt_0 j), fun z => by omega⟩⟩
theorem ah_lt {A : Int} {m j : Nat} (h : 0 ≤ A ∧ A < 2 ^ m) (hj : m ≤ j) : ¬ bt A j := by
  have hw := pw m
  unfold bt
  rw [Nat.testBit_lt_two_pow (Nat.lt_of_lt_of_le (show A.toNat < 2 ^ m by omega) (Nat.pow_le_pow_right (by decide) hj))]
  decide
theorem ah_no {F : Nat → Nat → Int} {G : Nat → Int → Int} {k m A : Int} (hm : 0 ≤ m) (h : ahI F G k m A) (hn : ¬ mtC F (shP G k) (shP G m)) : ahI F G k (m + 1) A := by
  obtain ⟨h1, h2⟩ := h
  have e : (2 : Int) ^ (m + 1).toNat = 2 ^ m.toNat * 2 := by
    rw [show (m + 1).toNat = m.toNat + 1 by omega, Int.pow_succ]
  refine ⟨by omega, fun j => (h2 j).trans ⟨fun z => ⟨by omega, z.2⟩, fun z => ⟨?_, z.2⟩⟩⟩
  rcases Int.lt_or_eq_of_le (show (j : Int) ≤ m by omega) with y | y
  · exact y
  · rw [y] at z
    exact absurd z.2 hn
theorem ah_yes {F : Nat → Nat → Int} {G : Nat → Int → Int} {k m A : Int} (hm : 0 ≤ m ∧ m < 10) (h : ahI F G k m A) (hy : mtC F (shP G k) (shP G m)) : ahI F G k (m + 1) (A + 1 * 2 ^ m.toNat) := by
  obtain ⟨h1, h2⟩ := h
  have e : (2 : Int) ^ (m + 1).toNat = 2 ^ m.toNat * 2 := by
    rw [show (m + 1).toNat = m.toNat + 1 by omega, Int.pow_succ]
  have hle := pw_le (k := m.toNat) (by omega)
  have hp := pw_pos m.toNat
  have u := bt_up (z := A) (k := m.toNat) (by omega) (by omega) (ah_lt h1 (Nat.le_refl _))
  rw [Int.one_mul]
  refine ⟨by omega, fun j => (u.2.2 j).trans ?_⟩
  rw [h2 j]
  constructor
  · rintro (z | z)
    · exact ⟨by omega, z.2⟩
    · subst z
      rw [show ((m.toNat : Nat) : Int) = m by omega]
      exact ⟨by omega, hy⟩
  · rintro ⟨z1, z2⟩
    by_cases y : j = m.toNat
    · exact Or.inr y
    · exact Or.inl ⟨by omega, z2⟩
theorem d_Pl_gather_0 : decode b_Pl_gather 0 = .ok (.iconst 0, 1) := by decide +kernel
theorem d_Pl_gather_1 : decode b_Pl_gather 1 = .ok (.istore_n 3, 1) := by decide +kernel
theorem d_Pl_gather_2 : decode b_Pl_gather 2 = .ok (.iload_n 3, 1) := by decide +kernel
theorem d_Pl_gather_3 : decode b_Pl_gather 3 = .ok (.aload_n 0, 1) := by decide +kernel
theorem d_Pl_gather_4 : decode b_Pl_gather 4 = .ok (.getfield 33, 3) := by decide +kernel
theorem d_Pl_gather_7 : decode b_Pl_gather 7 = .ok (.if_icmp .ge 76, 3) := by decide +kernel
theorem d_Pl_gather_10 : decode b_Pl_gather 10 = .ok (.aload_n 1, 1) := by decide +kernel
theorem d_Pl_gather_11 : decode b_Pl_gather 11 = .ok (.aload_n 2, 1) := by decide +kernel
theorem d_Pl_gather_12 : decode b_Pl_gather 12 = .ok (.iload_n 3, 1) := by decide +kernel
theorem d_Pl_gather_13 : decode b_Pl_gather 13 = .ok (.iaload, 1) := by decide +kernel
theorem d_Pl_gather_14 : decode b_Pl_gather 14 = .ok (.aaload, 1) := by decide +kernel
theorem d_Pl_gather_15 : decode b_Pl_gather 15 = .ok (.astore 4, 2) := by decide +kernel
theorem d_Pl_gather_17 : decode b_Pl_gather 17 = .ok (.aload_n 0, 1) := by decide +kernel
theorem d_Pl_gather_18 : decode b_Pl_gather 18 = .ok (.getfield 21, 3) := by decide +kernel
theorem d_Pl_gather_21 : decode b_Pl_gather 21 = .ok (.iload_n 3, 1) := by decide +kernel
theorem d_Pl_gather_22 : decode b_Pl_gather 22 = .ok (.aload 4, 2) := by decide +kernel
theorem d_Pl_gather_24 : decode b_Pl_gather 24 = .ok (.getfield 48, 3) := by decide +kernel
theorem d_Pl_gather_27 : decode b_Pl_gather 27 = .ok (.iastore, 1) := by decide +kernel
theorem d_Pl_gather_28 : decode b_Pl_gather 28 = .ok (.aload_n 0, 1) := by decide +kernel
theorem d_Pl_gather_29 : decode b_Pl_gather 29 = .ok (.getfield 18, 3) := by decide +kernel
theorem d_Pl_gather_32 : decode b_Pl_gather 32 = .ok (.iload_n 3, 1) := by decide +kernel
theorem d_Pl_gather_33 : decode b_Pl_gather 33 = .ok (.iconst 0, 1) := by decide +kernel
theorem d_Pl_gather_34 : decode b_Pl_gather 34 = .ok (.iastore, 1) := by decide +kernel
theorem d_Pl_gather_35 : decode b_Pl_gather 35 = .ok (.iconst 0, 1) := by decide +kernel
theorem d_Pl_gather_36 : decode b_Pl_gather 36 = .ok (.istore 5, 2) := by decide +kernel
theorem d_Pl_gather_38 : decode b_Pl_gather 38 = .ok (.iload 5, 2) := by decide +kernel
theorem d_Pl_gather_40 : decode b_Pl_gather 40 = .ok (.iload_n 3, 1) := by decide +kernel
theorem d_Pl_gather_41 : decode b_Pl_gather 41 = .ok (.if_icmp .ge 36, 3) := by decide +kernel
theorem d_Pl_gather_44 : decode b_Pl_gather 44 = .ok (.aload 4, 2) := by decide +kernel
theorem d_Pl_gather_46 : decode b_Pl_gather 46 = .ok (.aload_n 1, 1) := by decide +kernel
theorem d_Pl_gather_47 : decode b_Pl_gather 47 = .ok (.aload_n 2, 1) := by decide +kernel
theorem d_Pl_gather_48 : decode b_Pl_gather 48 = .ok (.iload 5, 2) := by decide +kernel
theorem d_Pl_gather_50 : decode b_Pl_gather 50 = .ok (.iaload, 1) := by decide +kernel
theorem d_Pl_gather_51 : decode b_Pl_gather 51 = .ok (.aaload, 1) := by decide +kernel
theorem d_Pl_gather_52 : decode b_Pl_gather 52 = .ok (.invokevirtual 53, 3) := by decide +kernel
theorem d_Pl_gather_55 : decode b_Pl_gather 55 = .ok (.ifCond .eq 16, 3) := by decide +kernel
theorem d_Pl_gather_58 : decode b_Pl_gather 58 = .ok (.aload_n 0, 1) := by decide +kernel
theorem d_Pl_gather_59 : decode b_Pl_gather 59 = .ok (.getfield 18, 3) := by decide +kernel
theorem d_Pl_gather_62 : decode b_Pl_gather 62 = .ok (.iload_n 3, 1) := by decide +kernel
theorem d_Pl_gather_63 : decode b_Pl_gather 63 = .ok (.dup2, 1) := by decide +kernel
theorem d_Pl_gather_64 : decode b_Pl_gather 64 = .ok (.iaload, 1) := by decide +kernel
theorem d_Pl_gather_65 : decode b_Pl_gather 65 = .ok (.iconst 1, 1) := by decide +kernel
theorem d_Pl_gather_66 : decode b_Pl_gather 66 = .ok (.iload 5, 2) := by decide +kernel
theorem d_Pl_gather_68 : decode b_Pl_gather 68 = .ok (.ishl, 1) := by decide +kernel
theorem d_Pl_gather_69 : decode b_Pl_gather 69 = .ok (.ior, 1) := by decide +kernel
theorem d_Pl_gather_70 : decode b_Pl_gather 70 = .ok (.iastore, 1) := by decide +kernel
theorem d_Pl_gather_71 : decode b_Pl_gather 71 = .ok (.iinc 5 1, 3) := by decide +kernel
theorem d_Pl_gather_74 : decode b_Pl_gather 74 = .ok (.goto (-36), 3) := by decide +kernel
theorem d_Pl_gather_77 : decode b_Pl_gather 77 = .ok (.iinc 3 1, 3) := by decide +kernel
theorem d_Pl_gather_80 : decode b_Pl_gather 80 = .ok (.goto (-78), 3) := by decide +kernel
theorem d_Pl_gather_83 : decode b_Pl_gather 83 = .ok (.return_, 1) := by decide +kernel
set_option maxHeartbeats 1000000 in
set_option maxRecDepth 100000 in
theorem c_Pl_gather (F : Nat → Nat → Int) (G : Nat → Int → Int) (hn : 0 ≤ F 238 5 ∧ F 238 5 ≤ 10) (hs : sqOk F G (F 238 5)) : cV y_Pl_gather b_Pl_gather 6 none 1 21 F G (fun ad => [.ref (ad 238), .ref (ad 1), .ref (ad 222)]) (fun F' G' => F' = F ∧ gaI F G G' (F 238 5)) := by
  intro s0 a0 D t ad
  refine g_startV (by decide +kernel) (Nat.le_of_ble_eq_true rfl) (fun p l e R s m args below meth c A ok => ?_)
  show gW p l e R s m args below meth c _ D A 6 (gZ0 s) 0 0 ad 265 (mem ad t F G) 0 [(0, .ref (ad 238)), (1, .ref (ad 1)), (2, .ref (ad 222))] []
  refine g_iconst ok d_Pl_gather_0 ?_
  refine g_istore_n (lv' := [(3, .int (iI 0)), (0, .ref (ad 238)), (1, .ref (ad 1)), (2, .ref (ad 222))]) ok d_Pl_gather_1 rfl (by decide) rfl ?_
  have L_i : ∀ (n_i : Nat) (i : Int) (G1 : Nat → Int → Int), (0 ≤ i ∧ i ≤ F 238 5) → (gaI F G G1 i) → (F 238 5 + 1 - i) < (n_i : Int) → gW p l e R s m args below meth c (MQ below (gQv D A ad 265 (fun ce' => ∃ F' G', ce' = mem ad t F' G' ∧ (fun F' G' => F' = F ∧ gaI F G G' (F 238 5)) F' G')) args s 0 0 A) D A 6 (gZ) 0 0 ad 265 (mem ad t F G1) 2 [(0, .ref (ad 238)), (1, .ref (ad 1)), (2, .ref (ad 222)), (3, .int (iI i))] [] := by
    intro n_i
    induction n_i with
    | zero =>
      intro i G1 hi hg1 hm_i
      exact absurd hm_i (by omega)
    | succ n_i ih_i =>
      intro i G1 hi hg1 hm_i
      refine g_iload_n ok d_Pl_gather_2 rfl 3 rfl ?_
      refine g_aload_n ok d_Pl_gather_3 rfl 0 rfl ?_
      refine gI_Pl_total ok _ rfl k_303 d_Pl_gather_4 ?_
      refine g_icmp_ge ok 83 d_Pl_gather_7 (by decide) (by omega) (by omega) (fun h1 => ?_) (fun h1 => ?_)
      · exact g_vret ok d_Pl_gather_83 ⟨_, _, rfl, rfl, by rw [show i = F 238 5 by omega] at hg1; exact hg1⟩
      · have hs0 := hs i hi.1 (by omega)
        refine g_aload_n ok d_Pl_gather_10 rfl 1 rfl ?_
        refine g_aload_n ok d_Pl_gather_11 rfl 2 rfl ?_
        refine g_iload_n ok d_Pl_gather_12 rfl 3 rfl ?_
        refine h_iald ok _ a_222 (by omega) d_Pl_gather_13 ?_
        refine g_top (y := G 222 i) (by show G1 222 i = _; rw [hg1.1 222 (by decide) (by decide)]) ?_
        refine h_shapes ok (by omega) d_Pl_gather_14 ?_
        refine g_astore (lv' := [(4, .ref (ad (2 + 22 * (G 222 i).toNat))), (0, .ref (ad 238)), (1, .ref (ad 1)), (2, .ref (ad 222)), (3, .int (iI i))]) ok d_Pl_gather_15 (by decide) rfl ?_
        refine g_aload_n ok d_Pl_gather_17 rfl 1 rfl ?_
        refine gI_Pl_colours ok _ rfl k_301 d_Pl_gather_18 ?_
        refine g_iload_n ok d_Pl_gather_21 rfl 4 rfl ?_
        refine g_aload ok d_Pl_gather_22 0 rfl ?_
        refine gN_Sh_colour ok _ (shP_is hs0.1) k_95 d_Pl_gather_24 ?_
        refine h_iast ok _ a_242 (by omega) d_Pl_gather_27 ?_
        refine g_aload_n ok d_Pl_gather_28 rfl 1 rfl ?_
        refine gI_Pl_ahead ok _ rfl k_300 d_Pl_gather_29 ?_
        refine g_iload_n ok d_Pl_gather_32 rfl 4 rfl ?_
        refine g_iconst ok d_Pl_gather_33 ?_
        refine h_iast ok _ a_241 (by omega) d_Pl_gather_34 ?_
        refine g_iconst ok d_Pl_gather_35 ?_
        refine g_istore (lv' := [(5, .int (iI 0)), (4, .ref (ad (2 + 22 * (G 222 i).toNat))), (0, .ref (ad 238)), (1, .ref (ad 1)), (2, .ref (ad 222)), (3, .int (iI i))]) ok d_Pl_gather_36 (by decide) rfl ?_
        have L_j : ∀ (n_j : Nat) (j : Int) (G2 : Nat → Int → Int), (0 ≤ j ∧ j ≤ i) → ((∀ a, a ≠ 241 → a ≠ 242 → G2 a = G a) ∧ ∀ k : Int, 0 ≤ k → k < i → G2 242 k = F (shP G k) 3 ∧ ahI F G k k (G2 241 k)) → (G2 242 i = F (shP G i) 3) → (ahI F G i j (G2 241 i)) → (i + 1 - j) < (n_j : Int) → gW p l e R s m args below meth c (MQ below (gQv D A ad 265 (fun ce' => ∃ F' G', ce' = mem ad t F' G' ∧ (fun F' G' => F' = F ∧ gaI F G G' (F 238 5)) F' G')) args s 0 0 A) D A 6 (gZ) 0 0 ad 265 (mem ad t F G2) 38 [(0, .ref (ad 238)), (1, .ref (ad 1)), (2, .ref (ad 222)), (3, .int (iI i)), (4, .ref (ad (2 + 22 * (G 222 i).toNat))), (5, .int (iI j))] [] := by
          intro n_j
          induction n_j with
          | zero =>
            intro j G2 hj hg2 hc2 hA2 hm_j
            exact absurd hm_j (by omega)
          | succ n_j ih_j =>
            intro j G2 hj hg2 hc2 hA2 hm_j
            refine g_iload ok d_Pl_gather_38 5 rfl ?_
            refine g_iload_n ok d_Pl_gather_40 rfl 3 rfl ?_
            refine g_icmp_ge ok 77 d_Pl_gather_41 (by decide) (by omega) (by omega) (fun h2 => ?_) (fun h2 => ?_)
            · refine g_iinc (lv' := [(3, .int (iI (i + 1))), (0, .ref (ad 238)), (1, .ref (ad 1)), (2, .ref (ad 222)), (4, .ref (ad (2 + 22 * (G 222 i).toNat))), (5, .int (iI j))]) ok d_Pl_gather_77 3 rfl (by decide) rfl ?_
              refine g_goto ok 2 d_Pl_gather_80 (by decide) ?_
              refine g_lv [1, 2, 3, 0] rfl ?_
              exact ih_i (i + 1) G2 (by omega) (⟨hg2.1, fun k q1 q2 => by by_cases y : k = i; subst y; rw [show j = k by omega] at hA2; exact ⟨hc2, hA2⟩; exact hg2.2 k q1 (by omega)⟩) (by omega)
            · have hsj := hs j hj.1 (by omega)
              refine g_aload ok d_Pl_gather_44 4 rfl ?_
              refine g_aload_n ok d_Pl_gather_46 rfl 1 rfl ?_
              refine g_aload_n ok d_Pl_gather_47 rfl 2 rfl ?_
              refine g_iload ok d_Pl_gather_48 5 rfl ?_
              refine h_iald ok _ a_222 (by omega) d_Pl_gather_50 ?_
              refine g_top (y := G 222 j) (by show G2 222 j = _; rw [hg2.1 222 (by decide) (by decide)]) ?_
              refine h_shapes ok (by omega) d_Pl_gather_51 ?_
              refine g_callPVN (As := [.ref (ad (2 + 22 * (G 222 j).toNat))]) (st := []) ok _ (c_Sh_meets F G2 _ _ (shP_is hs0.1) (shP_is hsj.1) hs0.2.1 hsj.2.1 s0 a0 D t ad) k_588 k_2 k_585 cl_Sh (m_Sh (ad := ad) (t := t) (F := F) (G := G2) (shP_is hs0.1)).1 (m_Sh (shP_is hs0.1)).2 k_587 s_Sh_meets q_Sh_meets (by decide) (Nat.le_of_ble_eq_true rfl) (by decide) d_Pl_gather_52 (fun z3 hc3 => ?_)
              have hmt : z3 = 0 ∨ z3 = 1 := by rw [hc3]; split <;> omega
              refine g_if_eq ok 71 d_Pl_gather_55 (by decide) (by omega) (fun h4 => ?_) (fun h4 => ?_)
              · have hno : ¬ mtC F (shP G i) (shP G j) := fun q => by have y : z3 = 1 := hc3.trans (if_pos q); omega
                refine g_iinc (lv' := [(5, .int (iI (j + 1))), (0, .ref (ad 238)), (1, .ref (ad 1)), (2, .ref (ad 222)), (3, .int (iI i)), (4, .ref (ad (2 + 22 * (G 222 i).toNat)))]) ok d_Pl_gather_71 5 rfl (by decide) rfl ?_
                refine g_goto ok 38 d_Pl_gather_74 (by decide) ?_
                refine g_lv [1, 2, 3, 4, 5, 0] rfl ?_
                exact ih_j (j + 1) G2 (by omega) (hg2) (hc2) (ah_no hj.1 hA2 hno) (by omega)
              · have hyes : mtC F (shP G i) (shP G j) := by by_cases q : mtC F (shP G i) (shP G j); exact q; have y : z3 = 0 := hc3.trans (if_neg q); omega
                refine g_aload_n ok d_Pl_gather_58 rfl 0 rfl ?_
                refine gI_Pl_ahead ok _ rfl k_300 d_Pl_gather_59 ?_
                refine g_iload_n ok d_Pl_gather_62 rfl 3 rfl ?_
                refine g_dup2 ok d_Pl_gather_63 rfl rfl ?_
                refine h_iald ok _ a_241 (by omega) d_Pl_gather_64 ?_
                refine g_iconst ok d_Pl_gather_65 ?_
                refine g_iload ok d_Pl_gather_66 5 rfl ?_
                refine g_ishl (z := 1 * 2 ^ j.toNat) ok (iI_shl j.toNat (by omega) (by decide) (by have := pw_le (k := j.toNat) (by omega); omega) (by omega)) d_Pl_gather_68 ?_
                refine g_ior (z := G2 241 i + 1 * 2 ^ j.toNat) ok (iI_orC j.toNat (by decide) hA2.1) d_Pl_gather_69 ?_
                refine h_iast ok _ a_241 (by omega) d_Pl_gather_70 ?_
                refine g_iinc (lv' := [(5, .int (iI (j + 1))), (0, .ref (ad 238)), (1, .ref (ad 1)), (2, .ref (ad 222)), (3, .int (iI i)), (4, .ref (ad (2 + 22 * (G 222 i).toNat)))]) ok d_Pl_gather_71 5 rfl (by decide) rfl ?_
                refine g_goto ok 38 d_Pl_gather_74 (by decide) ?_
                refine g_lv [1, 2, 3, 4, 5, 0] rfl ?_
                exact ih_j (j + 1) (gU G2 241 i (G2 241 i + 1 * 2 ^ j.toNat)) (by omega) (⟨fun a q1 q2 => by rw [gU_k _ _ _ q1]; exact hg2.1 a q1 q2, fun k q1 q2 => by rw [gU_a (by decide), gU_i (by omega)]; exact hg2.2 k q1 q2⟩) (by rw [gU_a (by decide)]; exact hc2) (by rw [gU_hit]; exact ah_yes (by omega) hA2 hyes) (by omega)
        refine g_z ?_
        refine g_lv [2, 3, 4, 5, 1, 0] rfl ?_
        exact L_j ((i + 1 - 0 : Int).toNat + 1) 0 (gU (gU G1 242 i (F (2 + 22 * (G 222 i).toNat) 3)) 241 i 0) (by omega) (⟨fun a q1 q2 => by rw [gU_k _ _ _ q1, gU_k _ _ _ q2]; exact hg1.1 a q1 q2, fun k q1 q2 => by rw [gU_a (by decide), gU_i (by omega), gU_i (by omega), gU_a (by decide)]; exact hg1.2 k q1 q2⟩) (by rw [gU_a (by decide), gU_hit]; rfl) (by rw [gU_hit]; exact ah_0) (by omega)
  refine g_z ?_
  refine g_lv [1, 2, 3, 0] rfl ?_
  exact L_i ((F 238 5 + 1 - 0 : Int).toNat + 1) 0 G (by omega) (⟨fun _ _ _ => rfl, fun k q1 q2 => by omega⟩) (by omega)
theorem dpS_cong {n : Nat} {pr : Nat → Nat → Prop} {col : Nat → Int} {few fri few' fri' : Int → Int} {S : Int} (h : ∀ T : Int, S ≤ T → few' T = few T ∧ fri' T = fri T) (hd : dpS n pr col few fri S) : dpS n pr col few' fri' S := by
  have e0 := h S (Int.le_refl _)
  have ev : ∀ k : Nat, vC few' fri' (S + 2 ^ k) (col k) = vC few fri (S + 2 ^ k) (col k) := fun k => by
    have hp := pw_pos k
    have e := h (S + 2 ^ k) (by omega)
    unfold vC
    rw [e.1, e.2]
  unfold dpS at hd ⊢
  simp only [ev]
  rw [e0.1, e0.2]
  exact hd
theorem wgI_cong {ok : Nat → Prop} {v v' : Nat → Int} {col : Nat → Int} {m : Nat} {fw fr : Int} (h : ∀ k, v' k = v k) (hw : wgI ok v col m fw fr) : wgI ok v' col m fw fr := by
  have e : v' = v := funext h
  rw [e]
  exact hw
theorem dp_top {n : Nat} {pr : Nat → Nat → Prop} {col : Nat → Int} {few fri : Int → Int} (h1 : few (2 ^ n - 1) = 0) (h2 : fri (2 ^ n - 1) = 255) : dpS n pr col few fri (2 ^ n - 1) := by
  refine ⟨by omega, by omega, fun _ => ⟨h1, fun c hc => ?_⟩, fun z => absurd rfl z⟩
  rw [h2]
  exact bt_all (n := 8) hc
theorem d_Pl_weighSets_0 : decode b_Pl_weighSets 0 = .ok (.iconst 1, 1) := by decide +kernel
theorem d_Pl_weighSets_1 : decode b_Pl_weighSets 1 = .ok (.aload_n 0, 1) := by decide +kernel
theorem d_Pl_weighSets_2 : decode b_Pl_weighSets 2 = .ok (.getfield 33, 3) := by decide +kernel
theorem d_Pl_weighSets_5 : decode b_Pl_weighSets 5 = .ok (.ishl, 1) := by decide +kernel
theorem d_Pl_weighSets_6 : decode b_Pl_weighSets 6 = .ok (.iconst 1, 1) := by decide +kernel
theorem d_Pl_weighSets_7 : decode b_Pl_weighSets 7 = .ok (.isub, 1) := by decide +kernel
theorem d_Pl_weighSets_8 : decode b_Pl_weighSets 8 = .ok (.istore_n 1, 1) := by decide +kernel
theorem d_Pl_weighSets_9 : decode b_Pl_weighSets 9 = .ok (.aload_n 0, 1) := by decide +kernel
theorem d_Pl_weighSets_10 : decode b_Pl_weighSets 10 = .ok (.getfield 9, 3) := by decide +kernel
theorem d_Pl_weighSets_13 : decode b_Pl_weighSets 13 = .ok (.iload_n 1, 1) := by decide +kernel
theorem d_Pl_weighSets_14 : decode b_Pl_weighSets 14 = .ok (.iconst 0, 1) := by decide +kernel
theorem d_Pl_weighSets_15 : decode b_Pl_weighSets 15 = .ok (.iastore, 1) := by decide +kernel
theorem d_Pl_weighSets_16 : decode b_Pl_weighSets 16 = .ok (.aload_n 0, 1) := by decide +kernel
theorem d_Pl_weighSets_17 : decode b_Pl_weighSets 17 = .ok (.getfield 15, 3) := by decide +kernel
theorem d_Pl_weighSets_20 : decode b_Pl_weighSets 20 = .ok (.iload_n 1, 1) := by decide +kernel
theorem d_Pl_weighSets_21 : decode b_Pl_weighSets 21 = .ok (.sipush 255, 3) := by decide +kernel
theorem d_Pl_weighSets_24 : decode b_Pl_weighSets 24 = .ok (.iastore, 1) := by decide +kernel
theorem d_Pl_weighSets_25 : decode b_Pl_weighSets 25 = .ok (.iload_n 1, 1) := by decide +kernel
theorem d_Pl_weighSets_26 : decode b_Pl_weighSets 26 = .ok (.iconst 1, 1) := by decide +kernel
theorem d_Pl_weighSets_27 : decode b_Pl_weighSets 27 = .ok (.isub, 1) := by decide +kernel
theorem d_Pl_weighSets_28 : decode b_Pl_weighSets 28 = .ok (.istore_n 2, 1) := by decide +kernel
theorem d_Pl_weighSets_29 : decode b_Pl_weighSets 29 = .ok (.iload_n 2, 1) := by decide +kernel
theorem d_Pl_weighSets_30 : decode b_Pl_weighSets 30 = .ok (.ifCond .lt 68, 3) := by decide +kernel
theorem d_Pl_weighSets_33 : decode b_Pl_weighSets 33 = .ok (.aload_n 0, 1) := by decide +kernel
theorem d_Pl_weighSets_34 : decode b_Pl_weighSets 34 = .ok (.getfield 9, 3) := by decide +kernel
theorem d_Pl_weighSets_37 : decode b_Pl_weighSets 37 = .ok (.iload_n 2, 1) := by decide +kernel
theorem d_Pl_weighSets_38 : decode b_Pl_weighSets 38 = .ok (.bipush 10, 2) := by decide +kernel
theorem d_Pl_weighSets_40 : decode b_Pl_weighSets 40 = .ok (.iastore, 1) := by decide +kernel
theorem d_Pl_weighSets_41 : decode b_Pl_weighSets 41 = .ok (.iconst 0, 1) := by decide +kernel
theorem d_Pl_weighSets_42 : decode b_Pl_weighSets 42 = .ok (.istore_n 3, 1) := by decide +kernel
theorem d_Pl_weighSets_43 : decode b_Pl_weighSets 43 = .ok (.iload_n 3, 1) := by decide +kernel
theorem d_Pl_weighSets_44 : decode b_Pl_weighSets 44 = .ok (.aload_n 0, 1) := by decide +kernel
theorem d_Pl_weighSets_45 : decode b_Pl_weighSets 45 = .ok (.getfield 33, 3) := by decide +kernel
theorem d_Pl_weighSets_48 : decode b_Pl_weighSets 48 = .ok (.if_icmp .ge 44, 3) := by decide +kernel
theorem d_Pl_weighSets_51 : decode b_Pl_weighSets 51 = .ok (.aload_n 0, 1) := by decide +kernel
theorem d_Pl_weighSets_52 : decode b_Pl_weighSets 52 = .ok (.iload_n 2, 1) := by decide +kernel
theorem d_Pl_weighSets_53 : decode b_Pl_weighSets 53 = .ok (.iload_n 3, 1) := by decide +kernel
theorem d_Pl_weighSets_54 : decode b_Pl_weighSets 54 = .ok (.invokevirtual 57, 3) := by decide +kernel
theorem d_Pl_weighSets_57 : decode b_Pl_weighSets 57 = .ok (.ifCond .eq 29, 3) := by decide +kernel
theorem d_Pl_weighSets_60 : decode b_Pl_weighSets 60 = .ok (.aload_n 0, 1) := by decide +kernel
theorem d_Pl_weighSets_61 : decode b_Pl_weighSets 61 = .ok (.iload_n 2, 1) := by decide +kernel
theorem d_Pl_weighSets_62 : decode b_Pl_weighSets 62 = .ok (.aload_n 0, 1) := by decide +kernel
theorem d_Pl_weighSets_63 : decode b_Pl_weighSets 63 = .ok (.getfield 21, 3) := by decide +kernel
theorem d_Pl_weighSets_66 : decode b_Pl_weighSets 66 = .ok (.iload_n 3, 1) := by decide +kernel
theorem d_Pl_weighSets_67 : decode b_Pl_weighSets 67 = .ok (.iaload, 1) := by decide +kernel
theorem d_Pl_weighSets_68 : decode b_Pl_weighSets 68 = .ok (.aload_n 0, 1) := by decide +kernel
theorem d_Pl_weighSets_69 : decode b_Pl_weighSets 69 = .ok (.iload_n 2, 1) := by decide +kernel
theorem d_Pl_weighSets_70 : decode b_Pl_weighSets 70 = .ok (.iconst 1, 1) := by decide +kernel
theorem d_Pl_weighSets_71 : decode b_Pl_weighSets 71 = .ok (.iload_n 3, 1) := by decide +kernel
theorem d_Pl_weighSets_72 : decode b_Pl_weighSets 72 = .ok (.ishl, 1) := by decide +kernel
theorem d_Pl_weighSets_73 : decode b_Pl_weighSets 73 = .ok (.ior, 1) := by decide +kernel
theorem d_Pl_weighSets_74 : decode b_Pl_weighSets 74 = .ok (.aload_n 0, 1) := by decide +kernel
theorem d_Pl_weighSets_75 : decode b_Pl_weighSets 75 = .ok (.getfield 21, 3) := by decide +kernel
theorem d_Pl_weighSets_78 : decode b_Pl_weighSets 78 = .ok (.iload_n 3, 1) := by decide +kernel
theorem d_Pl_weighSets_79 : decode b_Pl_weighSets 79 = .ok (.iaload, 1) := by decide +kernel
theorem d_Pl_weighSets_80 : decode b_Pl_weighSets 80 = .ok (.invokevirtual 61, 3) := by decide +kernel
theorem d_Pl_weighSets_83 : decode b_Pl_weighSets 83 = .ok (.invokevirtual 64, 3) := by decide +kernel
theorem d_Pl_weighSets_86 : decode b_Pl_weighSets 86 = .ok (.iinc 3 1, 3) := by decide +kernel
theorem d_Pl_weighSets_89 : decode b_Pl_weighSets 89 = .ok (.goto (-46), 3) := by decide +kernel
theorem d_Pl_weighSets_92 : decode b_Pl_weighSets 92 = .ok (.iinc 2 (-1), 3) := by decide +kernel
theorem d_Pl_weighSets_95 : decode b_Pl_weighSets 95 = .ok (.goto (-66), 3) := by decide +kernel
theorem d_Pl_weighSets_98 : decode b_Pl_weighSets 98 = .ok (.return_, 1) := by decide +kernel
set_option maxHeartbeats 1000000 in
set_option maxRecDepth 100000 in
theorem c_Pl_weighSets (F : Nat → Nat → Int) (G : Nat → Int → Int) (hn : 0 ≤ F 238 5 ∧ F 238 5 ≤ 10) (ha : ahOk G (F 238 5)) (hr0 : ∀ T : Int, 0 ≤ T → T < 1024 → 0 ≤ G 240 T ∧ G 240 T < 256) : cV y_Pl_weighSets b_Pl_weighSets 4 none 1 23 F G (fun ad => [.ref (ad 238)]) (fun F' G' => F' = F ∧ (∀ a, a ≠ 239 → a ≠ 240 → G' a = G a) ∧ (∀ T : Int, 0 ≤ T → T ≤ 2 ^ (F 238 5).toNat - 1 → dpS (F 238 5).toNat (prC G) (clC G) (G' 239) (G' 240) T) ∧ (∀ T : Int, 0 ≤ T → T < 1024 → 0 ≤ G' 240 T ∧ G' 240 T < 256)) := by
  have hpp := pw_pos (F 238 5).toNat
  have hple := pw_le (k := (F 238 5).toNat) (by omega)
  have hn10 : (F 238 5).toNat ≤ 10 := by omega
  have hcol : ∀ k, k < (F 238 5).toNat → 0 ≤ clC G k ∧ clC G k < 8 := fun k hk => by have y := (ha (k : Int) (by omega) (by omega)).2.2; exact y
  intro s0 a0 D t ad
  refine g_startV (by decide +kernel) (Nat.le_of_ble_eq_true rfl) (fun p l e R s m args below meth c A ok => ?_)
  show gW p l e R s m args below meth c _ D A 4 (gZ0 s) 0 0 ad 265 (mem ad t F G) 0 [(0, .ref (ad 238))] []
  refine g_iconst ok d_Pl_weighSets_0 ?_
  refine g_aload_n ok d_Pl_weighSets_1 rfl 0 rfl ?_
  refine gI_Pl_total ok _ rfl k_303 d_Pl_weighSets_2 ?_
  refine g_ishl (z := 1 * 2 ^ (F 238 5).toNat) ok (iI_shl (F 238 5).toNat (by omega) (by decide) (by omega) (by omega)) d_Pl_weighSets_5 ?_
  refine g_iconst ok d_Pl_weighSets_6 ?_
  refine g_isub ok d_Pl_weighSets_7 ?_
  refine g_istore_n (lv' := [(1, .int (iI ((1 * 2 ^ (F 238 5).toNat) - 1))), (0, .ref (ad 238))]) ok d_Pl_weighSets_8 rfl (by decide) rfl ?_
  refine g_aload_n ok d_Pl_weighSets_9 rfl 1 rfl ?_
  refine gI_Pl_fewest ok _ rfl k_298 d_Pl_weighSets_10 ?_
  refine g_iload_n ok d_Pl_weighSets_13 rfl 0 rfl ?_
  refine g_iconst ok d_Pl_weighSets_14 ?_
  refine h_iast ok _ a_239 (by omega) d_Pl_weighSets_15 ?_
  refine g_aload_n ok d_Pl_weighSets_16 rfl 1 rfl ?_
  refine gI_Pl_friendly ok _ rfl k_299 d_Pl_weighSets_17 ?_
  refine g_iload_n ok d_Pl_weighSets_20 rfl 0 rfl ?_
  refine g_sipush ok (by decide) d_Pl_weighSets_21 ?_
  refine h_iast ok _ a_240 (by omega) d_Pl_weighSets_24 ?_
  refine g_iload_n ok d_Pl_weighSets_25 rfl 0 rfl ?_
  refine g_iconst ok d_Pl_weighSets_26 ?_
  refine g_isub ok d_Pl_weighSets_27 ?_
  refine g_istore_n (lv' := [(2, .int (iI (((1 * 2 ^ (F 238 5).toNat) - 1) - 1))), (1, .int (iI ((1 * 2 ^ (F 238 5).toNat) - 1))), (0, .ref (ad 238))]) ok d_Pl_weighSets_28 rfl (by decide) rfl ?_
  have L_d : ∀ (n_d : Nat) (dn : Int) (G1 : Nat → Int → Int), (-1 ≤ dn ∧ dn ≤ 1 * 2 ^ (F 238 5).toNat - 1 - 1) → (∀ a, a ≠ 239 → a ≠ 240 → G1 a = G a) → (∀ T : Int, dn < T → T ≤ 1 * 2 ^ (F 238 5).toNat - 1 → dpS (F 238 5).toNat (prC G) (clC G) (G1 239) (G1 240) T) → (∀ T : Int, 0 ≤ T → T < 1024 → 0 ≤ G1 240 T ∧ G1 240 T < 256) → (dn + 2) < (n_d : Int) → gW p l e R s m args below meth c (MQ below (gQv D A ad 265 (fun ce' => ∃ F' G', ce' = mem ad t F' G' ∧ (fun F' G' => F' = F ∧ (∀ a, a ≠ 239 → a ≠ 240 → G' a = G a) ∧ (∀ T : Int, 0 ≤ T → T ≤ 2 ^ (F 238 5).toNat - 1 → dpS (F 238 5).toNat (prC G) (clC G) (G' 239) (G' 240) T) ∧ (∀ T : Int, 0 ≤ T → T < 1024 → 0 ≤ G' 240 T ∧ G' 240 T < 256)) F' G')) args s 0 0 A) D A 4 (gZ) 0 0 ad 265 (mem ad t F G1) 29 [(0, .ref (ad 238)), (1, .int (iI (1 * 2 ^ (F 238 5).toNat - 1))), (2, .int (iI dn))] [] := by
    intro n_d
    induction n_d with
    | zero =>
      intro dn G1 hd hg1 hT1 hr1 hm_d
      exact absurd hm_d (by omega)
    | succ n_d ih_d =>
      intro dn G1 hd hg1 hT1 hr1 hm_d
      refine g_iload_n ok d_Pl_weighSets_29 rfl 2 rfl ?_
      refine g_if_lt ok 98 d_Pl_weighSets_30 (by decide) (by omega) (fun h1 => ?_) (fun h1 => ?_)
      · exact g_vret ok d_Pl_weighSets_98 ⟨_, _, rfl, rfl, hg1, fun T z1 z2 => hT1 T (by omega) (by omega), hr1⟩
      · have hdr : 0 ≤ dn ∧ dn ≤ 2 ^ (F 238 5).toNat - 1 := by omega
        refine g_aload_n ok d_Pl_weighSets_33 rfl 0 rfl ?_
        refine gI_Pl_fewest ok _ rfl k_298 d_Pl_weighSets_34 ?_
        refine g_iload_n ok d_Pl_weighSets_37 rfl 2 rfl ?_
        refine g_bipush ok (by decide) d_Pl_weighSets_38 ?_
        refine h_iast ok _ a_239 (by omega) d_Pl_weighSets_40 ?_
        refine g_iconst ok d_Pl_weighSets_41 ?_
        refine g_istore_n (lv' := [(3, .int (iI 0)), (0, .ref (ad 238)), (1, .int (iI (1 * 2 ^ (F 238 5).toNat - 1))), (2, .int (iI dn))]) ok d_Pl_weighSets_42 rfl (by decide) rfl ?_
        have L_q : ∀ (n_q : Nat) (q : Int) (G2 : Nat → Int → Int), (0 ≤ q ∧ q ≤ F 238 5) → (∀ a, a ≠ 239 → a ≠ 240 → G2 a = G a) → (∀ T : Int, dn < T → T ≤ 1 * 2 ^ (F 238 5).toNat - 1 → dpS (F 238 5).toNat (prC G) (clC G) (G2 239) (G2 240) T) → (∀ T : Int, 0 ≤ T → T < 1024 → 0 ≤ G2 240 T ∧ G2 240 T < 256) → (wgI (may (prC G) dn) (fun k => vC (G2 239) (G2 240) (dn + 2 ^ k) (clC G k)) (clC G) q.toNat (G2 239 dn) (G2 240 dn)) → (F 238 5 + 1 - q) < (n_q : Int) → gW p l e R s m args below meth c (MQ below (gQv D A ad 265 (fun ce' => ∃ F' G', ce' = mem ad t F' G' ∧ (fun F' G' => F' = F ∧ (∀ a, a ≠ 239 → a ≠ 240 → G' a = G a) ∧ (∀ T : Int, 0 ≤ T → T ≤ 2 ^ (F 238 5).toNat - 1 → dpS (F 238 5).toNat (prC G) (clC G) (G' 239) (G' 240) T) ∧ (∀ T : Int, 0 ≤ T → T < 1024 → 0 ≤ G' 240 T ∧ G' 240 T < 256)) F' G')) args s 0 0 A) D A 4 (gZ) 0 0 ad 265 (mem ad t F G2) 43 [(0, .ref (ad 238)), (1, .int (iI (1 * 2 ^ (F 238 5).toNat - 1))), (2, .int (iI dn)), (3, .int (iI q))] [] := by
          intro n_q
          induction n_q with
          | zero =>
            intro q G2 hq hg2 hT2 hr2 hW2 hm_q
            exact absurd hm_q (by omega)
          | succ n_q ih_q =>
            intro q G2 hq hg2 hT2 hr2 hW2 hm_q
            refine g_iload_n ok d_Pl_weighSets_43 rfl 3 rfl ?_
            refine g_aload_n ok d_Pl_weighSets_44 rfl 0 rfl ?_
            refine gI_Pl_total ok _ rfl k_303 d_Pl_weighSets_45 ?_
            refine g_icmp_ge ok 92 d_Pl_weighSets_48 (by decide) (by omega) (by omega) (fun h2 => ?_) (fun h2 => ?_)
            · refine g_iinc (lv' := [(2, .int (iI (dn + (-1)))), (0, .ref (ad 238)), (1, .int (iI (1 * 2 ^ (F 238 5).toNat - 1))), (3, .int (iI q))]) ok d_Pl_weighSets_92 2 rfl (by decide) rfl ?_
              refine g_goto ok 29 d_Pl_weighSets_95 (by decide) ?_
              refine g_lv [1, 2, 0] rfl ?_
              exact ih_d (dn + (-1)) G2 (by omega) (hg2) (fun T z1 z2 => by by_cases y : T = dn; subst y; exact dp_mk hn10 hdr (by omega) hcol (fun U u1 u2 => hT2 U u1 (by omega)) (by rw [show q.toNat = (F 238 5).toNat by omega] at hW2; exact hW2); exact hT2 T (by omega) z2) (hr2) (by omega)
            · have haq := ha q hq.1 (by omega)
              have hqq : ((q.toNat : Nat) : Int) = q := by omega
              refine g_aload_n ok d_Pl_weighSets_51 rfl 0 rfl ?_
              refine g_iload_n ok d_Pl_weighSets_52 rfl 2 rfl ?_
              refine g_iload_n ok d_Pl_weighSets_53 rfl 3 rfl ?_
              refine g_callPV (As := [.int (iI dn), .int (iI q)]) (st := []) ok _ (c_Pl_mayFollow F G2 _ _ (by omega) (by omega) (by rw [hg2 241 (by decide) (by decide), hg2 242 (by decide) (by decide)]; exact haq) s0 a0 D t ad) k_596 k_10 k_593 cl_Pl (m_Pl (ad := ad) (t := t) (F := F) (G := G2) rfl).1 (m_Pl rfl).2 k_595 s_Pl_mayFollow q_Pl_mayFollow (by decide) (Nat.le_of_ble_eq_true rfl) (by decide) d_Pl_weighSets_54 (fun z3 hc3 => ?_)
              have hmz := hc3.1
              have hmy : z3 = 1 ↔ may (prC G) dn q.toNat := by have y := hc3.2; unfold may prC at y ⊢; rw [hg2 241 (by decide) (by decide)] at y; exact y
              refine g_if_eq ok 86 d_Pl_weighSets_57 (by decide) (by omega) (fun h4 => ?_) (fun h4 => ?_)
              · have hmay : ¬ may (prC G) dn q.toNat := fun y => absurd (hmy.mpr y) (by omega)
                refine g_iinc (lv' := [(3, .int (iI (q + 1))), (0, .ref (ad 238)), (1, .int (iI (1 * 2 ^ (F 238 5).toNat - 1))), (2, .int (iI dn))]) ok d_Pl_weighSets_86 3 rfl (by decide) rfl ?_
                refine g_goto ok 43 d_Pl_weighSets_89 (by decide) ?_
                refine g_lv [1, 2, 3, 0] rfl ?_
                exact ih_q (q + 1) G2 (by omega) (hg2) (hT2) (hr2) (by rw [show (q + 1).toNat = q.toNat + 1 by omega]; exact wg_no hW2 (fun y => absurd y hmay)) (by omega)
              · have hmay := hmy.mp (by omega)
                refine g_aload_n ok d_Pl_weighSets_60 rfl 0 rfl ?_
                refine g_iload_n ok d_Pl_weighSets_61 rfl 2 rfl ?_
                refine g_aload_n ok d_Pl_weighSets_62 rfl 0 rfl ?_
                refine gI_Pl_colours ok _ rfl k_301 d_Pl_weighSets_63 ?_
                refine g_iload_n ok d_Pl_weighSets_66 rfl 3 rfl ?_
                refine h_iald ok _ a_242 (by omega) d_Pl_weighSets_67 ?_
                refine g_top (y := G 242 q) (by show G2 242 q = _; rw [hg2 242 (by decide) (by decide)]) ?_
                refine g_aload_n ok d_Pl_weighSets_68 rfl 0 rfl ?_
                refine g_iload_n ok d_Pl_weighSets_69 rfl 2 rfl ?_
                refine g_iconst ok d_Pl_weighSets_70 ?_
                refine g_iload_n ok d_Pl_weighSets_71 rfl 3 rfl ?_
                refine g_ishl (z := 1 * 2 ^ q.toNat) ok (iI_shl q.toNat (by omega) (by decide) (by have := pw_le (k := q.toNat) (by omega); omega) (by omega)) d_Pl_weighSets_72 ?_
                refine g_ior (z := dn + 2 ^ q.toNat) ok (by rw [Int.one_mul]; exact (bt_up (by omega) (by omega) hmay.1).1) d_Pl_weighSets_73 ?_
                refine g_aload_n ok d_Pl_weighSets_74 rfl 0 rfl ?_
                refine gI_Pl_colours ok _ rfl k_301 d_Pl_weighSets_75 ?_
                refine g_iload_n ok d_Pl_weighSets_78 rfl 3 rfl ?_
                refine h_iald ok _ a_242 (by omega) d_Pl_weighSets_79 ?_
                refine g_top (y := G 242 q) (by show G2 242 q = _; rw [hg2 242 (by decide) (by decide)]) ?_
                have hin2 := bt_in hn10 hdr (by omega) hmay.1
                have hppq := pw_pos q.toNat
                have hdT := hT2 (dn + 2 ^ q.toNat) (by omega) (by omega)
                refine g_callPV (As := [.int (iI (dn + 2 ^ q.toNat)), .int (iI (G 242 q))]) (st := [.int (iI (G 242 q)), .int (iI dn), .ref (ad 238)]) ok _ (c_Pl_changesAfter F G2 _ _ (by omega) (by omega) hdT.1 s0 a0 D t ad) k_600 k_10 k_597 cl_Pl (m_Pl (ad := ad) (t := t) (F := F) (G := G2) rfl).1 (m_Pl rfl).2 k_599 s_Pl_changesAfter q_Pl_changesAfter (by decide) (Nat.le_of_ble_eq_true rfl) (by decide) d_Pl_weighSets_80 (fun z5 hc5 => ?_)
                subst hc5
                have hvr : 0 ≤ vC (G2 239) (G2 240) (dn + 2 ^ q.toNat) (G 242 q) ∧ vC (G2 239) (G2 240) (dn + 2 ^ q.toNat) (G 242 q) ≤ F 238 5 - pop dn (F 238 5).toNat - 1 := by have y := dp_v hn10 hdr hcol (k := q.toNat) (by omega) hmay hdT; unfold clC at y; rw [hqq] at y; have y2 : (((F 238 5).toNat : Nat) : Int) = F 238 5 := (by omega); rw [y2] at y; exact y
                have hpr := pop_rng dn (F 238 5).toNat
                have hw2 := hW2.1
                have hw3 := hW2.2.1
                refine g_callVV (As := [.int (iI dn), .int (iI (G 242 q)), .int (iI (vC (G2 239) (G2 240) (dn + 2 ^ q.toNat) (G 242 q)))]) (st := []) ok _ (c_Pl_weigh F G2 _ _ _ (by omega) (by omega) hw3 (by omega) (by omega) s0 a0 D t ad) k_604 k_10 k_601 cl_Pl (m_Pl (ad := ad) (t := t) (F := F) (G := G2) rfl).1 (m_Pl rfl).2 k_603 s_Pl_weigh q_Pl_weigh (by decide) (Nat.le_of_ble_eq_true rfl) (by decide) d_Pl_weighSets_83 (fun ce1 hc6 => ?_)
                obtain ⟨F3, G3, rfl, hF3, hx1, hx2, hx3⟩ := hc6
                rw [hF3]
                have hup : ∀ T : Int, dn < T → G3 239 T = G2 239 T ∧ G3 240 T = G2 240 T := fun T z => hx2 T (by omega)
                have hT3 : ∀ T : Int, dn < T → T ≤ 1 * 2 ^ (F 238 5).toNat - 1 → dpS (F 238 5).toNat (prC G) (clC G) (G3 239) (G3 240) T := fun T z1 z2 => dpS_cong (fun U z => hup U (by omega)) (hT2 T z1 z2)
                have hg3 : ∀ a, a ≠ 239 → a ≠ 240 → G3 a = G a := fun a z1 z2 => (hx1 a z1 z2).trans (hg2 a z1 z2)
                have hve : ∀ k : Nat, vC (G3 239) (G3 240) (dn + 2 ^ k) (clC G k) = vC (G2 239) (G2 240) (dn + 2 ^ k) (clC G k) := fun k => by have hp := pw_pos k; have y := hup (dn + 2 ^ k) (by omega); unfold vC; rw [y.1, y.2]
                have hcq : clC G q.toNat = G 242 q := by unfold clC; rw [hqq]
                have hW3 : wgI (may (prC G) dn) (fun k => vC (G3 239) (G3 240) (dn + 2 ^ k) (clC G k)) (clC G) (q + 1).toNat (G3 239 dn) (G3 240 dn) := by
                  rw [show (q + 1).toNat = q.toNat + 1 by omega]
                  refine wgI_cong (v := (fun k => vC (G2 239) (G2 240) (dn + 2 ^ k) (clC G k))) hve ?_
                  have hvq : (fun k => vC (G2 239) (G2 240) (dn + 2 ^ k) (clC G k)) q.toNat = vC (G2 239) (G2 240) (dn + 2 ^ q.toNat) (G 242 q) := by show vC (G2 239) (G2 240) (dn + 2 ^ q.toNat) (clC G q.toNat) = _; rw [hcq]
                  rcases hx3 with ⟨y1, y2, y3⟩ | ⟨y1, y2, y3, y4⟩ | ⟨y1, y2, y3, y4⟩
                  · rw [y2, y3]
                    exact wg_no hW2 (fun _ => by rw [hcq]; exact y1)
                  · rw [y2]
                    exact wg_eq hW2 hmay (by rw [hcq]; exact y1) (by rw [hcq]; omega) y3 (cm := (G 242 q).toNat) (by rw [hcq]; omega) y4
                  · rw [y2, ← hvq]
                    exact wg_lt hW2 hmay (by rw [hcq]; exact y1) (by rw [hcq]; omega) y3 (cm := (G 242 q).toNat) (by rw [hcq]; omega) y4
                have hr3 : ∀ T : Int, 0 ≤ T → T < 1024 → 0 ≤ G3 240 T ∧ G3 240 T < 256 := fun T z1 z2 => by by_cases y : T = dn; subst y; exact hW3.2.1; rw [(hx2 T y).2]; exact hr2 T z1 z2
                refine g_iinc (lv' := [(3, .int (iI (q + 1))), (0, .ref (ad 238)), (1, .int (iI (1 * 2 ^ (F 238 5).toNat - 1))), (2, .int (iI dn))]) ok d_Pl_weighSets_86 3 rfl (by decide) rfl ?_
                refine g_goto ok 43 d_Pl_weighSets_89 (by decide) ?_
                refine g_lv [1, 2, 3, 0] rfl ?_
                exact ih_q (q + 1) G3 (by omega) (hg3) (hT3) (hr3) (hW3) (by omega)
        refine g_z ?_
        refine g_lv [1, 2, 3, 0] rfl ?_
        exact L_q ((F 238 5 + 1 - 0 : Int).toNat + 1) 0 (gU G1 239 dn 10) (by omega) (fun a z1 z2 => by rw [gU_k _ _ _ z1]; exact hg1 a z1 z2) (fun T z1 z2 => dpS_cong (fun U z => ⟨gU_i (by omega), gU_a (by decide)⟩) (hT1 T z1 z2)) (fun T z1 z2 => by rw [gU_a (by decide)]; exact hr1 T z1 z2) (by rw [gU_hit, gU_a (by decide)]; exact wg_0 (hr1 dn (by omega) (by omega))) (by omega)
  refine g_z ?_
  refine g_lv [2, 1, 0] rfl ?_
  exact L_d (((((1 * 2 ^ (F 238 5).toNat) - 1) - 1) + 2 : Int).toNat + 1) (((1 * 2 ^ (F 238 5).toNat) - 1) - 1) (gU (gU G 239 ((1 * 2 ^ (F 238 5).toNat) - 1) 0) 240 ((1 * 2 ^ (F 238 5).toNat) - 1) 255) (by omega) (fun a z1 z2 => by rw [gU_k _ _ _ z2, gU_k _ _ _ z1]) (fun T z1 z2 => by rw [show T = 2 ^ (F 238 5).toNat - 1 by omega]; exact dp_top (by rw [gU_a (by decide), Int.one_mul, gU_hit]) (by rw [Int.one_mul, gU_hit])) (fun T z1 z2 => by by_cases y : T = 1 * 2 ^ (F 238 5).toNat - 1; rw [y, gU_hit]; decide; rw [gU_i y, gU_a (by decide)]; exact hr0 T z1 z2) (by omega)
