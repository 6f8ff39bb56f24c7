theorem mul_rng {a b : Int} (ha : -600 ≤ a ∧ a ≤ 600) (hb : -600 ≤ b ∧ b ≤ 600) : -360000 ≤ a * b ∧ a * b ≤ 360000 := by
  have h1 : 0 ≤ (600 - a) * (600 - b) := Int.mul_nonneg (by omega) (by omega)
  have h2 : 0 ≤ (600 + a) * (600 + b) := Int.mul_nonneg (by omega) (by omega)
  have h3 : 0 ≤ (600 - a) * (600 + b) := Int.mul_nonneg (by omega) (by omega)
  have h4 : 0 ≤ (600 + a) * (600 - b) := Int.mul_nonneg (by omega) (by omega)
  have e1 : (600 - a) * (600 - b) = 360000 - 600 * b - 600 * a + a * b := by rw [Int.sub_mul, Int.mul_sub, Int.mul_sub]; omega
  have e2 : (600 + a) * (600 + b) = 360000 + 600 * b + 600 * a + a * b := by rw [Int.add_mul, Int.mul_add, Int.mul_add]; omega
  have e3 : (600 - a) * (600 + b) = 360000 + 600 * b - 600 * a - a * b := by rw [Int.sub_mul, Int.mul_add, Int.mul_add]; omega
  have e4 : (600 + a) * (600 - b) = 360000 - 600 * b + 600 * a - a * b := by rw [Int.add_mul, Int.mul_sub, Int.mul_sub]; omega
  omega
/-- how corner j turns, seen from corner 0 by corner i -/
def rTurn (xs ys : Int → Int) (i j : Int) : Int := (xs i - xs 0) * (ys j - ys 0) - (ys i - ys 0) * (xs j - xs 0)
/-- the corners of the ring at k are places -/
def rIn (F : Nat → Nat → Int) (G : Nat → Int → Int) (k : Nat) : Prop := (0 ≤ F k 2 ∧ F k 2 ≤ rRoom ((k - 2) % 22)) ∧ ∀ i : Int, 0 ≤ i → i < F k 2 → (0 ≤ G (k + 1) i ∧ G (k + 1) i ≤ 600) ∧ (0 ≤ G (k + 2) i ∧ G (k + 2) i ≤ 600)
theorem rRoom_le (j : Nat) : rRoom j ≤ 32 := by
  unfold rRoom
  split
  · decide
  · split <;> decide
theorem d_Rg_isFlat_0 : decode b_Rg_isFlat 0 = .ok (.iconst 1, 1) := by decide +kernel
theorem d_Rg_isFlat_1 : decode b_Rg_isFlat 1 = .ok (.istore_n 1, 1) := by decide +kernel
theorem d_Rg_isFlat_2 : decode b_Rg_isFlat 2 = .ok (.iload_n 1, 1) := by decide +kernel
theorem d_Rg_isFlat_3 : decode b_Rg_isFlat 3 = .ok (.aload_n 0, 1) := by decide +kernel
theorem d_Rg_isFlat_4 : decode b_Rg_isFlat 4 = .ok (.getfield 16, 3) := by decide +kernel
theorem d_Rg_isFlat_7 : decode b_Rg_isFlat 7 = .ok (.if_icmp .ge 89, 3) := by decide +kernel
theorem d_Rg_isFlat_10 : decode b_Rg_isFlat 10 = .ok (.iload_n 1, 1) := by decide +kernel
theorem d_Rg_isFlat_11 : decode b_Rg_isFlat 11 = .ok (.iconst 1, 1) := by decide +kernel
theorem d_Rg_isFlat_12 : decode b_Rg_isFlat 12 = .ok (.iadd, 1) := by decide +kernel
theorem d_Rg_isFlat_13 : decode b_Rg_isFlat 13 = .ok (.istore_n 2, 1) := by decide +kernel
theorem d_Rg_isFlat_14 : decode b_Rg_isFlat 14 = .ok (.iload_n 2, 1) := by decide +kernel
theorem d_Rg_isFlat_15 : decode b_Rg_isFlat 15 = .ok (.aload_n 0, 1) := by decide +kernel
theorem d_Rg_isFlat_16 : decode b_Rg_isFlat 16 = .ok (.getfield 16, 3) := by decide +kernel
theorem d_Rg_isFlat_19 : decode b_Rg_isFlat 19 = .ok (.if_icmp .ge 71, 3) := by decide +kernel
theorem d_Rg_isFlat_22 : decode b_Rg_isFlat 22 = .ok (.aload_n 0, 1) := by decide +kernel
theorem d_Rg_isFlat_23 : decode b_Rg_isFlat 23 = .ok (.getfield 7, 3) := by decide +kernel
theorem d_Rg_isFlat_26 : decode b_Rg_isFlat 26 = .ok (.iload_n 1, 1) := by decide +kernel
theorem d_Rg_isFlat_27 : decode b_Rg_isFlat 27 = .ok (.iaload, 1) := by decide +kernel
theorem d_Rg_isFlat_28 : decode b_Rg_isFlat 28 = .ok (.aload_n 0, 1) := by decide +kernel
theorem d_Rg_isFlat_29 : decode b_Rg_isFlat 29 = .ok (.getfield 7, 3) := by decide +kernel
theorem d_Rg_isFlat_32 : decode b_Rg_isFlat 32 = .ok (.iconst 0, 1) := by decide +kernel
theorem d_Rg_isFlat_33 : decode b_Rg_isFlat 33 = .ok (.iaload, 1) := by decide +kernel
theorem d_Rg_isFlat_34 : decode b_Rg_isFlat 34 = .ok (.isub, 1) := by decide +kernel
theorem d_Rg_isFlat_35 : decode b_Rg_isFlat 35 = .ok (.aload_n 0, 1) := by decide +kernel
theorem d_Rg_isFlat_36 : decode b_Rg_isFlat 36 = .ok (.getfield 13, 3) := by decide +kernel
theorem d_Rg_isFlat_39 : decode b_Rg_isFlat 39 = .ok (.iload_n 2, 1) := by decide +kernel
theorem d_Rg_isFlat_40 : decode b_Rg_isFlat 40 = .ok (.iaload, 1) := by decide +kernel
theorem d_Rg_isFlat_41 : decode b_Rg_isFlat 41 = .ok (.aload_n 0, 1) := by decide +kernel
theorem d_Rg_isFlat_42 : decode b_Rg_isFlat 42 = .ok (.getfield 13, 3) := by decide +kernel
theorem d_Rg_isFlat_45 : decode b_Rg_isFlat 45 = .ok (.iconst 0, 1) := by decide +kernel
theorem d_Rg_isFlat_46 : decode b_Rg_isFlat 46 = .ok (.iaload, 1) := by decide +kernel
theorem d_Rg_isFlat_47 : decode b_Rg_isFlat 47 = .ok (.isub, 1) := by decide +kernel
theorem d_Rg_isFlat_48 : decode b_Rg_isFlat 48 = .ok (.imul, 1) := by decide +kernel
theorem d_Rg_isFlat_49 : decode b_Rg_isFlat 49 = .ok (.aload_n 0, 1) := by decide +kernel
theorem d_Rg_isFlat_50 : decode b_Rg_isFlat 50 = .ok (.getfield 13, 3) := by decide +kernel
theorem d_Rg_isFlat_53 : decode b_Rg_isFlat 53 = .ok (.iload_n 1, 1) := by decide +kernel
theorem d_Rg_isFlat_54 : decode b_Rg_isFlat 54 = .ok (.iaload, 1) := by decide +kernel
theorem d_Rg_isFlat_55 : decode b_Rg_isFlat 55 = .ok (.aload_n 0, 1) := by decide +kernel
theorem d_Rg_isFlat_56 : decode b_Rg_isFlat 56 = .ok (.getfield 13, 3) := by decide +kernel
theorem d_Rg_isFlat_59 : decode b_Rg_isFlat 59 = .ok (.iconst 0, 1) := by decide +kernel
theorem d_Rg_isFlat_60 : decode b_Rg_isFlat 60 = .ok (.iaload, 1) := by decide +kernel
theorem d_Rg_isFlat_61 : decode b_Rg_isFlat 61 = .ok (.isub, 1) := by decide +kernel
theorem d_Rg_isFlat_62 : decode b_Rg_isFlat 62 = .ok (.aload_n 0, 1) := by decide +kernel
theorem d_Rg_isFlat_63 : decode b_Rg_isFlat 63 = .ok (.getfield 7, 3) := by decide +kernel
theorem d_Rg_isFlat_66 : decode b_Rg_isFlat 66 = .ok (.iload_n 2, 1) := by decide +kernel
theorem d_Rg_isFlat_67 : decode b_Rg_isFlat 67 = .ok (.iaload, 1) := by decide +kernel
theorem d_Rg_isFlat_68 : decode b_Rg_isFlat 68 = .ok (.aload_n 0, 1) := by decide +kernel
theorem d_Rg_isFlat_69 : decode b_Rg_isFlat 69 = .ok (.getfield 7, 3) := by decide +kernel
theorem d_Rg_isFlat_72 : decode b_Rg_isFlat 72 = .ok (.iconst 0, 1) := by decide +kernel
theorem d_Rg_isFlat_73 : decode b_Rg_isFlat 73 = .ok (.iaload, 1) := by decide +kernel
theorem d_Rg_isFlat_74 : decode b_Rg_isFlat 74 = .ok (.isub, 1) := by decide +kernel
theorem d_Rg_isFlat_75 : decode b_Rg_isFlat 75 = .ok (.imul, 1) := by decide +kernel
theorem d_Rg_isFlat_76 : decode b_Rg_isFlat 76 = .ok (.isub, 1) := by decide +kernel
theorem d_Rg_isFlat_77 : decode b_Rg_isFlat 77 = .ok (.istore_n 3, 1) := by decide +kernel
theorem d_Rg_isFlat_78 : decode b_Rg_isFlat 78 = .ok (.iload_n 3, 1) := by decide +kernel
theorem d_Rg_isFlat_79 : decode b_Rg_isFlat 79 = .ok (.ifCond .eq 5, 3) := by decide +kernel
theorem d_Rg_isFlat_82 : decode b_Rg_isFlat 82 = .ok (.iconst 0, 1) := by decide +kernel
theorem d_Rg_isFlat_83 : decode b_Rg_isFlat 83 = .ok (.ireturn, 1) := by decide +kernel
theorem d_Rg_isFlat_84 : decode b_Rg_isFlat 84 = .ok (.iinc 2 1, 3) := by decide +kernel
theorem d_Rg_isFlat_87 : decode b_Rg_isFlat 87 = .ok (.goto (-73), 3) := by decide +kernel
theorem d_Rg_isFlat_90 : decode b_Rg_isFlat 90 = .ok (.iinc 1 1, 3) := by decide +kernel
theorem d_Rg_isFlat_93 : decode b_Rg_isFlat 93 = .ok (.goto (-91), 3) := by decide +kernel
theorem d_Rg_isFlat_96 : decode b_Rg_isFlat 96 = .ok (.iconst 1, 1) := by decide +kernel
theorem d_Rg_isFlat_97 : decode b_Rg_isFlat 97 = .ok (.ireturn, 1) := by decide +kernel
set_option maxHeartbeats 4000000 in
set_option maxRecDepth 100000 in
theorem c_Rg_isFlat (F : Nat → Nat → Int) (G : Nat → Int → Int) (k : Nat) (hK : isRg k) (hR : rIn F G k) : cP y_Rg_isFlat b_Rg_isFlat 4 (some .boolean) 0 0 F G (fun ad => [.ref (ad k)]) (fun r => (r = 0 ∨ r = 1) ∧ (r = 1 ↔ ∀ a b : Int, 1 ≤ a → a < b → b < F k 2 → rTurn (G (k + 1)) (G (k + 2)) a b = 0)) := by
  have a1 : isA (k + 1) (rRoom ((k - 2) % 22)) := a_rg hK (Or.inl rfl) rfl
  have a2 : isA (k + 2) (rRoom ((k - 2) % 22)) := a_rg hK (Or.inr rfl) rfl
  have hr32 := rRoom_le ((k - 2) % 22)
  obtain ⟨hs, hX⟩ := hR
  intro s0 a0 D t ad
  refine g_startP (by decide +kernel) (Nat.le_of_ble_eq_true rfl) (fun p l e R s m args below meth c A ok => ?_)
  show gW p l e R s m args below meth c _ D A 4 (gZ0 s) 0 0 ad 265 (mem ad t F G) 0 [(0, .ref (ad k))] []
  refine g_iconst ok d_Rg_isFlat_0 ?_
  refine g_istore_n (lv' := [(1, .int (iI 1)), (0, .ref (ad k))]) ok d_Rg_isFlat_1 rfl (by decide) rfl ?_
  have L_o : ∀ (n_o : Nat) (i : Int), (1 ≤ i ∧ i ≤ F k 2 + 1) → (∀ a b : Int, 1 ≤ a → a < i → a < b → b < F k 2 → rTurn (G (k + 1)) (G (k + 2)) a b = 0) → (F k 2 + 1 - i) < (n_o : Int) → gW p l e R s m args below meth c (MQ below (gQp (fun r => (r = 0 ∨ r = 1) ∧ (r = 1 ↔ ∀ a b : Int, 1 ≤ a → a < b → b < F k 2 → rTurn (G (k + 1)) (G (k + 2)) a b = 0))) args s 0 0 (fun _ => False)) D A 4 (gZ0 s) 0 0 ad 265 (mem ad t F G) 2 [(0, .ref (ad k)), (1, .int (iI i))] [] := by
    intro n_o
    induction n_o with
    | zero =>
      intro i hi ho hm_o
      exact absurd hm_o (by omega)
    | succ n_o ih_o =>
      intro i hi ho hm_o
      refine g_iload_n ok d_Rg_isFlat_2 rfl 1 rfl ?_
      refine g_aload_n ok d_Rg_isFlat_3 rfl 0 rfl ?_
      refine gI_Rg_size ok _ hK k_54 d_Rg_isFlat_4 ?_
      refine g_icmp_ge ok 96 d_Rg_isFlat_7 (by decide) (by omega) (by omega) (fun h1 => ?_) (fun h1 => ?_)
      · refine g_iconst ok d_Rg_isFlat_96 ?_
        exact g_zpret ok d_Rg_isFlat_97 (Or.inr rfl) ⟨Or.inr rfl, ⟨fun _ a b q1 q2 q3 => ho a b q1 (by omega) q2 q3, fun _ => rfl⟩⟩
      · refine g_iload_n ok d_Rg_isFlat_10 rfl 1 rfl ?_
        refine g_iconst ok d_Rg_isFlat_11 ?_
        refine g_iadd ok d_Rg_isFlat_12 ?_
        refine g_istore_n (lv' := [(2, .int (iI (i + 1))), (0, .ref (ad k)), (1, .int (iI i))]) ok d_Rg_isFlat_13 rfl (by decide) rfl ?_
        have L_n : ∀ (n_n : Nat) (j : Int), (i < j ∧ j ≤ F k 2) → (∀ b : Int, i < b → b < j → rTurn (G (k + 1)) (G (k + 2)) i b = 0) → (F k 2 + 1 - j) < (n_n : Int) → gW p l e R s m args below meth c (MQ below (gQp (fun r => (r = 0 ∨ r = 1) ∧ (r = 1 ↔ ∀ a b : Int, 1 ≤ a → a < b → b < F k 2 → rTurn (G (k + 1)) (G (k + 2)) a b = 0))) args s 0 0 (fun _ => False)) D A 4 (gZ0 s) 0 0 ad 265 (mem ad t F G) 14 [(0, .ref (ad k)), (1, .int (iI i)), (2, .int (iI j))] [] := by
          intro n_n
          induction n_n with
          | zero =>
            intro j hj hj2 hm_n
            exact absurd hm_n (by omega)
          | succ n_n ih_n =>
            intro j hj hj2 hm_n
            refine g_iload_n ok d_Rg_isFlat_14 rfl 2 rfl ?_
            refine g_aload_n ok d_Rg_isFlat_15 rfl 0 rfl ?_
            refine gI_Rg_size ok _ hK k_54 d_Rg_isFlat_16 ?_
            refine g_icmp_ge ok 90 d_Rg_isFlat_19 (by decide) (by omega) (by omega) (fun h2 => ?_) (fun h2 => ?_)
            · refine g_iinc (lv' := [(1, .int (iI (i + 1))), (0, .ref (ad k)), (2, .int (iI j))]) ok d_Rg_isFlat_90 1 rfl (by decide) rfl ?_
              refine g_goto ok 2 d_Rg_isFlat_93 (by decide) ?_
              refine g_lv [1, 0] rfl ?_
              exact ih_o (i + 1) (by omega) (fun a b q1 q2 q3 q4 => (Int.lt_or_eq_of_le (show a ≤ i by omega)).elim (fun q => ho a b q1 q q3 q4) (fun q => by subst q; exact hj2 b q3 (by omega))) (by omega)
            · have x0 := hX 0 (by omega) (by omega)
              have xi := hX i (by omega) (by omega)
              have xj := hX j (by omega) (by omega)
              have p1 := mul_rng (a := G (k + 1) i - G (k + 1) 0) (b := G (k + 2) j - G (k + 2) 0) (by omega) (by omega)
              have p2 := mul_rng (a := G (k + 2) i - G (k + 2) 0) (b := G (k + 1) j - G (k + 1) 0) (by omega) (by omega)
              refine g_aload_n ok d_Rg_isFlat_22 rfl 0 rfl ?_
              refine gI_Rg_xs ok _ hK k_44 d_Rg_isFlat_23 ?_
              refine g_iload_n ok d_Rg_isFlat_26 rfl 1 rfl ?_
              refine h_iald ok _ a1 (by omega) d_Rg_isFlat_27 ?_
              refine g_aload_n ok d_Rg_isFlat_28 rfl 0 rfl ?_
              refine gI_Rg_xs ok _ hK k_44 d_Rg_isFlat_29 ?_
              refine g_iconst ok d_Rg_isFlat_32 ?_
              refine h_iald ok _ a1 (by omega) d_Rg_isFlat_33 ?_
              refine g_isub ok d_Rg_isFlat_34 ?_
              refine g_aload_n ok d_Rg_isFlat_35 rfl 0 rfl ?_
              refine gI_Rg_ys ok _ hK k_49 d_Rg_isFlat_36 ?_
              refine g_iload_n ok d_Rg_isFlat_39 rfl 2 rfl ?_
              refine h_iald ok _ a2 (by omega) d_Rg_isFlat_40 ?_
              refine g_aload_n ok d_Rg_isFlat_41 rfl 0 rfl ?_
              refine gI_Rg_ys ok _ hK k_49 d_Rg_isFlat_42 ?_
              refine g_iconst ok d_Rg_isFlat_45 ?_
              refine h_iald ok _ a2 (by omega) d_Rg_isFlat_46 ?_
              refine g_isub ok d_Rg_isFlat_47 ?_
              refine g_imul ok d_Rg_isFlat_48 ?_
              refine g_aload_n ok d_Rg_isFlat_49 rfl 0 rfl ?_
              refine gI_Rg_ys ok _ hK k_49 d_Rg_isFlat_50 ?_
              refine g_iload_n ok d_Rg_isFlat_53 rfl 1 rfl ?_
              refine h_iald ok _ a2 (by omega) d_Rg_isFlat_54 ?_
              refine g_aload_n ok d_Rg_isFlat_55 rfl 0 rfl ?_
              refine gI_Rg_ys ok _ hK k_49 d_Rg_isFlat_56 ?_
              refine g_iconst ok d_Rg_isFlat_59 ?_
              refine h_iald ok _ a2 (by omega) d_Rg_isFlat_60 ?_
              refine g_isub ok d_Rg_isFlat_61 ?_
              refine g_aload_n ok d_Rg_isFlat_62 rfl 0 rfl ?_
              refine gI_Rg_xs ok _ hK k_44 d_Rg_isFlat_63 ?_
              refine g_iload_n ok d_Rg_isFlat_66 rfl 2 rfl ?_
              refine h_iald ok _ a1 (by omega) d_Rg_isFlat_67 ?_
              refine g_aload_n ok d_Rg_isFlat_68 rfl 0 rfl ?_
              refine gI_Rg_xs ok _ hK k_44 d_Rg_isFlat_69 ?_
              refine g_iconst ok d_Rg_isFlat_72 ?_
              refine h_iald ok _ a1 (by omega) d_Rg_isFlat_73 ?_
              refine g_isub ok d_Rg_isFlat_74 ?_
              refine g_imul ok d_Rg_isFlat_75 ?_
              refine g_isub ok d_Rg_isFlat_76 ?_
              refine g_istore_n (lv' := [(3, .int (iI ((((G (k + 1) i) - (G (k + 1) 0)) * ((G (k + 2) j) - (G (k + 2) 0))) - (((G (k + 2) i) - (G (k + 2) 0)) * ((G (k + 1) j) - (G (k + 1) 0)))))), (0, .ref (ad k)), (1, .int (iI i)), (2, .int (iI j))]) ok d_Rg_isFlat_77 rfl (by decide) rfl ?_
              refine g_iload_n ok d_Rg_isFlat_78 rfl 0 rfl ?_
              refine g_if_eq ok 84 d_Rg_isFlat_79 (by decide) (by omega) (fun h3 => ?_) (fun h3 => ?_)
              · refine g_iinc (lv' := [(2, .int (iI (j + 1))), (3, .int (iI ((((G (k + 1) i) - (G (k + 1) 0)) * ((G (k + 2) j) - (G (k + 2) 0))) - (((G (k + 2) i) - (G (k + 2) 0)) * ((G (k + 1) j) - (G (k + 1) 0)))))), (0, .ref (ad k)), (1, .int (iI i))]) ok d_Rg_isFlat_84 3 rfl (by decide) rfl ?_
                refine g_goto ok 14 d_Rg_isFlat_87 (by decide) ?_
                refine g_lv [2, 3, 0] rfl ?_
                exact ih_n (j + 1) (by omega) (fun b q1 q2 => (Int.lt_or_eq_of_le (show b ≤ j by omega)).elim (fun q => hj2 b q1 q) (fun q => by subst q; exact h3)) (by omega)
              · refine g_iconst ok d_Rg_isFlat_82 ?_
                exact g_zpret ok d_Rg_isFlat_83 (Or.inl rfl) ⟨Or.inl rfl, ⟨fun q => by omega, fun q => absurd (q i j hi.1 hj.1 (by omega)) h3⟩⟩
        refine g_lv [1, 2, 0] rfl ?_
        exact L_n ((F k 2 + 1 - (i + 1)).toNat + 1) (i + 1) (by omega) (fun b h1 h2 => by omega) (by omega)
  refine g_lv [1, 0] rfl ?_
  exact L_o ((F k 2 + 1 - 1).toNat + 1) 1 (by omega) (fun a b h1 h2 => by omega) (by omega)
