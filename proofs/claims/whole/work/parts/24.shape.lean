theorem rSide_rng {xs ys : Int → Int} {sz x y r : Int} (h : rSide xs ys sz x y r) : 0 ≤ r ∧ r ≤ 2 := by
  rcases h with h | ⟨-, h | h⟩ <;> omega
theorem rSide_1 {xs ys : Int → Int} {sz x y r : Int} (h : rSide xs ys sz x y r) (hr : r = 1) : oddN (rCr xs ys sz x y) sz.toNat := by
  rcases h with h | ⟨-, h | h⟩
  · omega
  · exact h.2
  · omega
theorem rSide_0 {xs ys : Int → Int} {sz x y r : Int} (h : rSide xs ys sz x y r) (hr : ¬ r = 1) (h2 : ¬ r = 2) : ¬ oddN (rCr xs ys sz x y) sz.toNat := by
  rcases h with h | ⟨-, h | h⟩
  · omega
  · omega
  · exact h.2
theorem rSide_2 {xs ys : Int → Int} {sz x y r : Int} (h : rSide xs ys sz x y r) (hr : r = 2) : ∃ i : Int, 0 ≤ i ∧ i < sz ∧ rOn xs ys sz x y i := by
  rcases h with h | ⟨-, h | h⟩
  · exact h.2
  · omega
  · omega
theorem rSide_n {xs ys : Int → Int} {sz x y r : Int} (h : rSide xs ys sz x y r) (hr : ¬ r = 2) : ¬ ∃ i : Int, 0 ≤ i ∧ i < sz ∧ rOn xs ys sz x y i := by
  rcases h with h | ⟨h, -⟩
  · omega
  · exact fun ⟨i, h1, h2, h3⟩ => h i h1 h2 h3
theorem odd_n1 {O C : Prop} {d : Int} (h : (d = 0 ∨ d = 1) ∧ (d = 1 ↔ O)) (hC : ¬ C) (hd : ¬ d = 0) : ((1 : Int) = 0 ∨ (1 : Int) = 1) ∧ ((1 : Int) = 1 ↔ ((O ∧ ¬ C) ∨ (¬ O ∧ C))) :=
  ⟨Or.inr rfl, fun _ => Or.inl ⟨h.2.mp (by omega), hC⟩, fun _ => rfl⟩
theorem odd_n0 {O C : Prop} {d : Int} (h : (d = 0 ∨ d = 1) ∧ (d = 1 ↔ O)) (hC : ¬ C) (hd : d = 0) : ((0 : Int) = 0 ∨ (0 : Int) = 1) ∧ ((0 : Int) = 1 ↔ ((O ∧ ¬ C) ∨ (¬ O ∧ C))) :=
  ⟨Or.inl rfl, fun q => absurd q (by decide), fun q => q.elim (fun q => absurd (h.2.mpr q.1) (by omega)) (fun q => absurd q.2 hC)⟩
-- rings of the shape at k
def sOn (F : Nat → Nat → Int) (G : Nat → Int → Int) (k : Nat) (x y q : Int) : Prop := ∃ i : Int, 0 ≤ i ∧ i < F (k + 3 + 3 * q.toNat) 2 ∧ rOn (G (k + 3 + 3 * q.toNat + 1)) (G (k + 3 + 3 * q.toNat + 2)) (F (k + 3 + 3 * q.toNat) 2) x y i
def sIn (F : Nat → Nat → Int) (G : Nat → Int → Int) (k : Nat) (x y q : Int) : Prop := oddN (rCr (G (k + 3 + 3 * q.toNat + 1)) (G (k + 3 + 3 * q.toNat + 2)) (F (k + 3 + 3 * q.toNat) 2) x y) (F (k + 3 + 3 * q.toNat) 2).toNat
def sBox (F : Nat → Nat → Int) (k : Nat) (x y : Int) : Prop := F k 7 ≤ x ∧ x ≤ F k 9 ∧ F k 8 ≤ y ∧ y ≤ F k 10
def sHas (F : Nat → Nat → Int) (G : Nat → Int → Int) (k : Nat) (x y : Int) : Prop := sBox F k x y ∧ ((∃ q : Int, 0 ≤ q ∧ q < 4 ∧ sOn F G k x y q) ∨ ((∀ q : Int, 0 ≤ q → q < 4 → ¬ sOn F G k x y q) ∧ oddN (sIn F G k x y) 4))
def sRg (F : Nat → Nat → Int) (G : Nat → Int → Int) (k : Nat) : Prop := ∀ q : Nat, q < 4 → rIn F G (k + 3 + 3 * q)
theorem rg_of {k : Nat} {q : Nat} (h : isSh k) (hq : q < 6) : isRg (k + 3 + 3 * q) := by
  unfold isSh at h
  unfold isRg
  have : (k - 2) / 22 < 10 := by omega
  have e : (k + 3 + 3 * q - 2) % 22 = 3 + 3 * q := by omega
  rw [e]
  omega
theorem d_Ty_clear_0 : decode b_Ty_clear 0 = .ok (.aload_n 0, 1) := by decide +kernel
theorem d_Ty_clear_1 : decode b_Ty_clear 1 = .ok (.iconst 0, 1) := by decide +kernel
theorem d_Ty_clear_2 : decode b_Ty_clear 2 = .ok (.putfield 7, 3) := by decide +kernel
theorem d_Ty_clear_5 : decode b_Ty_clear 5 = .ok (.aload_n 0, 1) := by decide +kernel
theorem d_Ty_clear_6 : decode b_Ty_clear 6 = .ok (.iconst 0, 1) := by decide +kernel
theorem d_Ty_clear_7 : decode b_Ty_clear 7 = .ok (.putfield 13, 3) := by decide +kernel
theorem d_Ty_clear_10 : decode b_Ty_clear 10 = .ok (.return_, 1) := by decide +kernel
set_option maxHeartbeats 4000000 in
set_option maxRecDepth 100000 in
theorem c_Ty_clear (F : Nat → Nat → Int) (G : Nat → Int → Int) (k : Nat) (hK : isTy k) : cV y_Ty_clear b_Ty_clear 1 none 0 0 F G (fun ad => [.ref (ad k)]) (fun F' G' => F' = fU (fU F k 0 0) k 1 0 ∧ G' = G) := by
  intro s0 a0 D t ad
  refine g_startV (by decide +kernel) (Nat.le_of_ble_eq_true rfl) (fun p l e R s m args below meth c A ok => ?_)
  show gW p l e R s m args below meth c _ D A 1 (gZ0 s) 0 0 ad 265 (mem ad t F G) 0 [(0, .ref (ad k))] []
  refine g_aload_n ok d_Ty_clear_0 rfl 0 rfl ?_
  refine g_iconst ok d_Ty_clear_1 ?_
  refine pI_Ty_runs ok _ hK k_74 d_Ty_clear_2 ?_
  refine g_aload_n ok d_Ty_clear_5 rfl 0 rfl ?_
  refine g_iconst ok d_Ty_clear_6 ?_
  refine pI_Ty_places ok _ hK k_76 d_Ty_clear_7 ?_
  exact g_vret ok d_Ty_clear_10 ⟨_, _, rfl, rfl, rfl⟩
theorem d_Ty_beginRun_0 : decode b_Ty_beginRun 0 = .ok (.aload_n 0, 1) := by decide +kernel
theorem d_Ty_beginRun_1 : decode b_Ty_beginRun 1 = .ok (.dup, 1) := by decide +kernel
theorem d_Ty_beginRun_2 : decode b_Ty_beginRun 2 = .ok (.getfield 7, 3) := by decide +kernel
theorem d_Ty_beginRun_5 : decode b_Ty_beginRun 5 = .ok (.iconst 1, 1) := by decide +kernel
theorem d_Ty_beginRun_6 : decode b_Ty_beginRun 6 = .ok (.iadd, 1) := by decide +kernel
theorem d_Ty_beginRun_7 : decode b_Ty_beginRun 7 = .ok (.putfield 7, 3) := by decide +kernel
theorem d_Ty_beginRun_10 : decode b_Ty_beginRun 10 = .ok (.return_, 1) := by decide +kernel
set_option maxHeartbeats 4000000 in
set_option maxRecDepth 100000 in
theorem c_Ty_beginRun (F : Nat → Nat → Int) (G : Nat → Int → Int) (k : Nat) (hK : isTy k) : cV y_Ty_beginRun b_Ty_beginRun 1 none 0 0 F G (fun ad => [.ref (ad k)]) (fun F' G' => F' = fU F k 0 (F k 0 + 1) ∧ G' = G) := by
  intro s0 a0 D t ad
  refine g_startV (by decide +kernel) (Nat.le_of_ble_eq_true rfl) (fun p l e R s m args below meth c A ok => ?_)
  show gW p l e R s m args below meth c _ D A 1 (gZ0 s) 0 0 ad 265 (mem ad t F G) 0 [(0, .ref (ad k))] []
  refine g_aload_n ok d_Ty_beginRun_0 rfl 0 rfl ?_
  refine g_dup ok d_Ty_beginRun_1 rfl ?_
  refine gI_Ty_runs ok _ hK k_74 d_Ty_beginRun_2 ?_
  refine g_iconst ok d_Ty_beginRun_5 ?_
  refine g_iadd ok d_Ty_beginRun_6 ?_
  refine pI_Ty_runs ok _ hK k_74 d_Ty_beginRun_7 ?_
  exact g_vret ok d_Ty_beginRun_10 ⟨_, _, rfl, rfl, rfl⟩
theorem d_Ty_take_0 : decode b_Ty_take 0 = .ok (.aload_n 0, 1) := by decide +kernel
theorem d_Ty_take_1 : decode b_Ty_take 1 = .ok (.dup, 1) := by decide +kernel
theorem d_Ty_take_2 : decode b_Ty_take 2 = .ok (.getfield 13, 3) := by decide +kernel
theorem d_Ty_take_5 : decode b_Ty_take 5 = .ok (.iconst 1, 1) := by decide +kernel
theorem d_Ty_take_6 : decode b_Ty_take 6 = .ok (.iadd, 1) := by decide +kernel
theorem d_Ty_take_7 : decode b_Ty_take 7 = .ok (.putfield 13, 3) := by decide +kernel
theorem d_Ty_take_10 : decode b_Ty_take 10 = .ok (.return_, 1) := by decide +kernel
set_option maxHeartbeats 4000000 in
set_option maxRecDepth 100000 in
theorem c_Ty_take (F : Nat → Nat → Int) (G : Nat → Int → Int) (k : Nat) (x y : Int) (hK : isTy k) : cV y_Ty_take b_Ty_take 3 none 0 0 F G (fun ad => [.ref (ad k), .int (iI x), .int (iI y)]) (fun F' G' => F' = fU F k 1 (F k 1 + 1) ∧ G' = G) := by
  intro s0 a0 D t ad
  refine g_startV (by decide +kernel) (Nat.le_of_ble_eq_true rfl) (fun p l e R s m args below meth c A ok => ?_)
  show gW p l e R s m args below meth c _ D A 3 (gZ0 s) 0 0 ad 265 (mem ad t F G) 0 [(0, .ref (ad k)), (1, .int (iI x)), (2, .int (iI y))] []
  refine g_aload_n ok d_Ty_take_0 rfl 0 rfl ?_
  refine g_dup ok d_Ty_take_1 rfl ?_
  refine gI_Ty_places ok _ hK k_76 d_Ty_take_2 ?_
  refine g_iconst ok d_Ty_take_5 ?_
  refine g_iadd ok d_Ty_take_6 ?_
  refine pI_Ty_places ok _ hK k_76 d_Ty_take_7 ?_
  exact g_vret ok d_Ty_take_10 ⟨_, _, rfl, rfl, rfl⟩
theorem d_Sh_meets_0 : decode b_Sh_meets 0 = .ok (.aload_n 0, 1) := by decide +kernel
theorem d_Sh_meets_1 : decode b_Sh_meets 1 = .ok (.getfield 67, 3) := by decide +kernel
theorem d_Sh_meets_4 : decode b_Sh_meets 4 = .ok (.aload_n 1, 1) := by decide +kernel
theorem d_Sh_meets_5 : decode b_Sh_meets 5 = .ok (.getfield 73, 3) := by decide +kernel
theorem d_Sh_meets_8 : decode b_Sh_meets 8 = .ok (.if_icmp .gt 40, 3) := by decide +kernel
theorem d_Sh_meets_11 : decode b_Sh_meets 11 = .ok (.aload_n 1, 1) := by decide +kernel
theorem d_Sh_meets_12 : decode b_Sh_meets 12 = .ok (.getfield 67, 3) := by decide +kernel
theorem d_Sh_meets_15 : decode b_Sh_meets 15 = .ok (.aload_n 0, 1) := by decide +kernel
theorem d_Sh_meets_16 : decode b_Sh_meets 16 = .ok (.getfield 73, 3) := by decide +kernel
theorem d_Sh_meets_19 : decode b_Sh_meets 19 = .ok (.if_icmp .gt 29, 3) := by decide +kernel
theorem d_Sh_meets_22 : decode b_Sh_meets 22 = .ok (.aload_n 0, 1) := by decide +kernel
theorem d_Sh_meets_23 : decode b_Sh_meets 23 = .ok (.getfield 70, 3) := by decide +kernel
theorem d_Sh_meets_26 : decode b_Sh_meets 26 = .ok (.aload_n 1, 1) := by decide +kernel
theorem d_Sh_meets_27 : decode b_Sh_meets 27 = .ok (.getfield 76, 3) := by decide +kernel
theorem d_Sh_meets_30 : decode b_Sh_meets 30 = .ok (.if_icmp .gt 18, 3) := by decide +kernel
theorem d_Sh_meets_33 : decode b_Sh_meets 33 = .ok (.aload_n 1, 1) := by decide +kernel
theorem d_Sh_meets_34 : decode b_Sh_meets 34 = .ok (.getfield 70, 3) := by decide +kernel
theorem d_Sh_meets_37 : decode b_Sh_meets 37 = .ok (.aload_n 0, 1) := by decide +kernel
theorem d_Sh_meets_38 : decode b_Sh_meets 38 = .ok (.getfield 76, 3) := by decide +kernel
theorem d_Sh_meets_41 : decode b_Sh_meets 41 = .ok (.if_icmp .gt 7, 3) := by decide +kernel
theorem d_Sh_meets_44 : decode b_Sh_meets 44 = .ok (.iconst 1, 1) := by decide +kernel
theorem d_Sh_meets_45 : decode b_Sh_meets 45 = .ok (.goto 4, 3) := by decide +kernel
theorem d_Sh_meets_48 : decode b_Sh_meets 48 = .ok (.iconst 0, 1) := by decide +kernel
theorem d_Sh_meets_49 : decode b_Sh_meets 49 = .ok (.ireturn, 1) := by decide +kernel
set_option maxHeartbeats 4000000 in
set_option maxRecDepth 100000 in
theorem c_Sh_meets (F : Nat → Nat → Int) (G : Nat → Int → Int) (k j : Nat) (hK : isSh k) (hJ : isSh j) (hk : (0 ≤ F k 7 ∧ F k 7 ≤ 600) ∧ (0 ≤ F k 8 ∧ F k 8 ≤ 600) ∧ (0 ≤ F k 9 ∧ F k 9 ≤ 600) ∧ (0 ≤ F k 10 ∧ F k 10 ≤ 600)) (hj : (0 ≤ F j 7 ∧ F j 7 ≤ 600) ∧ (0 ≤ F j 8 ∧ F j 8 ≤ 600) ∧ (0 ≤ F j 9 ∧ F j 9 ≤ 600) ∧ (0 ≤ F j 10 ∧ F j 10 ≤ 600)) : cP y_Sh_meets b_Sh_meets 2 (some .boolean) 0 0 F G (fun ad => [.ref (ad k), .ref (ad j)]) (fun r => r = if F k 7 ≤ F j 9 ∧ F j 7 ≤ F k 9 ∧ F k 8 ≤ F j 10 ∧ F j 8 ≤ F k 10 then 1 else 0) := by
  intro s0 a0 D t ad
  refine g_startP (by decide +kernel) (Nat.le_of_ble_eq_true rfl) (fun p l e R s m args below meth c A ok => ?_)
  show gW p l e R s m args below meth c _ D A 2 (gZ0 s) 0 0 ad 265 (mem ad t F G) 0 [(0, .ref (ad k)), (1, .ref (ad j))] []
  refine g_aload_n ok d_Sh_meets_0 rfl 0 rfl ?_
  refine gI_Sh_left ok _ hK k_110 d_Sh_meets_1 ?_
  refine g_aload_n ok d_Sh_meets_4 rfl 1 rfl ?_
  refine gI_Sh_right ok _ hJ k_118 d_Sh_meets_5 ?_
  refine g_icmp_gt ok 48 d_Sh_meets_8 (by decide) (by omega) (by omega) (fun h1 => ?_) (fun h1 => ?_)
  · refine g_iconst ok d_Sh_meets_48 ?_
    exact g_zpret ok d_Sh_meets_49 (by first | exact Or.inl rfl | exact Or.inr rfl | omega) (by split <;> omega)
  · refine g_aload_n ok d_Sh_meets_11 rfl 1 rfl ?_
    refine gI_Sh_left ok _ hJ k_110 d_Sh_meets_12 ?_
    refine g_aload_n ok d_Sh_meets_15 rfl 0 rfl ?_
    refine gI_Sh_right ok _ hK k_118 d_Sh_meets_16 ?_
    refine g_icmp_gt ok 48 d_Sh_meets_19 (by decide) (by omega) (by omega) (fun h2 => ?_) (fun h2 => ?_)
    · refine g_iconst ok d_Sh_meets_48 ?_
      exact g_zpret ok d_Sh_meets_49 (by first | exact Or.inl rfl | exact Or.inr rfl | omega) (by split <;> omega)
    · refine g_aload_n ok d_Sh_meets_22 rfl 0 rfl ?_
      refine gI_Sh_top ok _ hK k_114 d_Sh_meets_23 ?_
      refine g_aload_n ok d_Sh_meets_26 rfl 1 rfl ?_
      refine gI_Sh_bottom ok _ hJ k_122 d_Sh_meets_27 ?_
      refine g_icmp_gt ok 48 d_Sh_meets_30 (by decide) (by omega) (by omega) (fun h3 => ?_) (fun h3 => ?_)
      · refine g_iconst ok d_Sh_meets_48 ?_
        exact g_zpret ok d_Sh_meets_49 (by first | exact Or.inl rfl | exact Or.inr rfl | omega) (by split <;> omega)
      · refine g_aload_n ok d_Sh_meets_33 rfl 1 rfl ?_
        refine gI_Sh_top ok _ hJ k_114 d_Sh_meets_34 ?_
        refine g_aload_n ok d_Sh_meets_37 rfl 0 rfl ?_
        refine gI_Sh_bottom ok _ hK k_122 d_Sh_meets_38 ?_
        refine g_icmp_gt ok 48 d_Sh_meets_41 (by decide) (by omega) (by omega) (fun h4 => ?_) (fun h4 => ?_)
        · refine g_iconst ok d_Sh_meets_48 ?_
          exact g_zpret ok d_Sh_meets_49 (by first | exact Or.inl rfl | exact Or.inr rfl | omega) (by split <;> omega)
        · refine g_iconst ok d_Sh_meets_44 ?_
          refine g_goto ok 49 d_Sh_meets_45 (by decide) ?_
          exact g_zpret ok d_Sh_meets_49 (by first | exact Or.inl rfl | exact Or.inr rfl | omega) (by split <;> omega)
theorem d_Sh_has_0 : decode b_Sh_has 0 = .ok (.iload_n 1, 1) := by decide +kernel
theorem d_Sh_has_1 : decode b_Sh_has 1 = .ok (.aload_n 0, 1) := by decide +kernel
theorem d_Sh_has_2 : decode b_Sh_has 2 = .ok (.getfield 67, 3) := by decide +kernel
theorem d_Sh_has_5 : decode b_Sh_has 5 = .ok (.if_icmp .lt 27, 3) := by decide +kernel
theorem d_Sh_has_8 : decode b_Sh_has 8 = .ok (.iload_n 1, 1) := by decide +kernel
theorem d_Sh_has_9 : decode b_Sh_has 9 = .ok (.aload_n 0, 1) := by decide +kernel
theorem d_Sh_has_10 : decode b_Sh_has 10 = .ok (.getfield 73, 3) := by decide +kernel
theorem d_Sh_has_13 : decode b_Sh_has 13 = .ok (.if_icmp .gt 19, 3) := by decide +kernel
theorem d_Sh_has_16 : decode b_Sh_has 16 = .ok (.iload_n 2, 1) := by decide +kernel
theorem d_Sh_has_17 : decode b_Sh_has 17 = .ok (.aload_n 0, 1) := by decide +kernel
theorem d_Sh_has_18 : decode b_Sh_has 18 = .ok (.getfield 70, 3) := by decide +kernel
theorem d_Sh_has_21 : decode b_Sh_has 21 = .ok (.if_icmp .lt 11, 3) := by decide +kernel
theorem d_Sh_has_24 : decode b_Sh_has 24 = .ok (.iload_n 2, 1) := by decide +kernel
theorem d_Sh_has_25 : decode b_Sh_has 25 = .ok (.aload_n 0, 1) := by decide +kernel
theorem d_Sh_has_26 : decode b_Sh_has 26 = .ok (.getfield 76, 3) := by decide +kernel
theorem d_Sh_has_29 : decode b_Sh_has 29 = .ok (.if_icmp .le 5, 3) := by decide +kernel
theorem d_Sh_has_32 : decode b_Sh_has 32 = .ok (.iconst 0, 1) := by decide +kernel
theorem d_Sh_has_33 : decode b_Sh_has 33 = .ok (.ireturn, 1) := by decide +kernel
theorem d_Sh_has_34 : decode b_Sh_has 34 = .ok (.iconst 0, 1) := by decide +kernel
theorem d_Sh_has_35 : decode b_Sh_has 35 = .ok (.istore_n 3, 1) := by decide +kernel
theorem d_Sh_has_36 : decode b_Sh_has 36 = .ok (.iconst 0, 1) := by decide +kernel
theorem d_Sh_has_37 : decode b_Sh_has 37 = .ok (.istore 4, 2) := by decide +kernel
theorem d_Sh_has_39 : decode b_Sh_has 39 = .ok (.iload 4, 2) := by decide +kernel
theorem d_Sh_has_41 : decode b_Sh_has 41 = .ok (.iconst 4, 1) := by decide +kernel
theorem d_Sh_has_42 : decode b_Sh_has 42 = .ok (.if_icmp .ge 52, 3) := by decide +kernel
theorem d_Sh_has_45 : decode b_Sh_has 45 = .ok (.aload_n 0, 1) := by decide +kernel
theorem d_Sh_has_46 : decode b_Sh_has 46 = .ok (.getfield 11, 3) := by decide +kernel
theorem d_Sh_has_49 : decode b_Sh_has 49 = .ok (.iload 4, 2) := by decide +kernel
theorem d_Sh_has_51 : decode b_Sh_has 51 = .ok (.aaload, 1) := by decide +kernel
theorem d_Sh_has_52 : decode b_Sh_has 52 = .ok (.iload_n 1, 1) := by decide +kernel
theorem d_Sh_has_53 : decode b_Sh_has 53 = .ok (.iload_n 2, 1) := by decide +kernel
theorem d_Sh_has_54 : decode b_Sh_has 54 = .ok (.invokevirtual 88, 3) := by decide +kernel
theorem d_Sh_has_57 : decode b_Sh_has 57 = .ok (.istore 5, 2) := by decide +kernel
theorem d_Sh_has_59 : decode b_Sh_has 59 = .ok (.iload 5, 2) := by decide +kernel
theorem d_Sh_has_61 : decode b_Sh_has 61 = .ok (.iconst 2, 1) := by decide +kernel
theorem d_Sh_has_62 : decode b_Sh_has 62 = .ok (.if_icmp .ne 5, 3) := by decide +kernel
theorem d_Sh_has_65 : decode b_Sh_has 65 = .ok (.iconst 1, 1) := by decide +kernel
theorem d_Sh_has_66 : decode b_Sh_has 66 = .ok (.ireturn, 1) := by decide +kernel
theorem d_Sh_has_67 : decode b_Sh_has 67 = .ok (.iload_n 3, 1) := by decide +kernel
theorem d_Sh_has_68 : decode b_Sh_has 68 = .ok (.iload 5, 2) := by decide +kernel
theorem d_Sh_has_70 : decode b_Sh_has 70 = .ok (.iconst 1, 1) := by decide +kernel
theorem d_Sh_has_71 : decode b_Sh_has 71 = .ok (.if_icmp .ne 7, 3) := by decide +kernel
theorem d_Sh_has_74 : decode b_Sh_has 74 = .ok (.iconst 1, 1) := by decide +kernel
theorem d_Sh_has_75 : decode b_Sh_has 75 = .ok (.goto 4, 3) := by decide +kernel
theorem d_Sh_has_78 : decode b_Sh_has 78 = .ok (.iconst 0, 1) := by decide +kernel
theorem d_Sh_has_79 : decode b_Sh_has 79 = .ok (.if_icmp .eq 7, 3) := by decide +kernel
theorem d_Sh_has_82 : decode b_Sh_has 82 = .ok (.iconst 1, 1) := by decide +kernel
theorem d_Sh_has_83 : decode b_Sh_has 83 = .ok (.goto 4, 3) := by decide +kernel
theorem d_Sh_has_86 : decode b_Sh_has 86 = .ok (.iconst 0, 1) := by decide +kernel
theorem d_Sh_has_87 : decode b_Sh_has 87 = .ok (.istore_n 3, 1) := by decide +kernel
theorem d_Sh_has_88 : decode b_Sh_has 88 = .ok (.iinc 4 1, 3) := by decide +kernel
theorem d_Sh_has_91 : decode b_Sh_has 91 = .ok (.goto (-52), 3) := by decide +kernel
theorem d_Sh_has_94 : decode b_Sh_has 94 = .ok (.iload_n 3, 1) := by decide +kernel
theorem d_Sh_has_95 : decode b_Sh_has 95 = .ok (.ireturn, 1) := by decide +kernel
set_option maxHeartbeats 4000000 in
set_option maxRecDepth 100000 in
theorem c_Sh_has (F : Nat → Nat → Int) (G : Nat → Int → Int) (k : Nat) (x y : Int) (hK : isSh k) (hRs : sRg F G k) (hk : (0 ≤ F k 7 ∧ F k 7 ≤ 600) ∧ (0 ≤ F k 8 ∧ F k 8 ≤ 600) ∧ (0 ≤ F k 9 ∧ F k 9 ≤ 600) ∧ (0 ≤ F k 10 ∧ F k 10 ≤ 600)) (hx : 0 ≤ x ∧ x ≤ 600) (hy : 0 ≤ y ∧ y ≤ 600) : cP y_Sh_has b_Sh_has 6 (some .boolean) 1 31 F G (fun ad => [.ref (ad k), .int (iI x), .int (iI y)]) (fun r => (r = 0 ∨ r = 1) ∧ (r = 1 ↔ sHas F G k x y)) := by
  intro s0 a0 D t ad
  refine g_startP (by decide +kernel) (Nat.le_of_ble_eq_true rfl) (fun p l e R s m args below meth c A ok => ?_)
  show gW p l e R s m args below meth c _ D A 6 (gZ0 s) 0 0 ad 265 (mem ad t F G) 0 [(0, .ref (ad k)), (1, .int (iI x)), (2, .int (iI y))] []
  refine g_iload_n ok d_Sh_has_0 rfl 1 rfl ?_
  refine g_aload_n ok d_Sh_has_1 rfl 0 rfl ?_
  refine gI_Sh_left ok _ hK k_110 d_Sh_has_2 ?_
  refine g_icmp_lt ok 32 d_Sh_has_5 (by decide) (by omega) (by omega) (fun h1 => ?_) (fun h1 => ?_)
  · refine g_iconst ok d_Sh_has_32 ?_
    exact g_zpret ok d_Sh_has_33 (Or.inl rfl) ⟨Or.inl rfl, ⟨fun q => by omega, fun q => by have := q.1; unfold sBox at this; omega⟩⟩
  · refine g_iload_n ok d_Sh_has_8 rfl 1 rfl ?_
    refine g_aload_n ok d_Sh_has_9 rfl 0 rfl ?_
    refine gI_Sh_right ok _ hK k_118 d_Sh_has_10 ?_
    refine g_icmp_gt ok 32 d_Sh_has_13 (by decide) (by omega) (by omega) (fun h2 => ?_) (fun h2 => ?_)
    · refine g_iconst ok d_Sh_has_32 ?_
      exact g_zpret ok d_Sh_has_33 (Or.inl rfl) ⟨Or.inl rfl, ⟨fun q => by omega, fun q => by have := q.1; unfold sBox at this; omega⟩⟩
    · refine g_iload_n ok d_Sh_has_16 rfl 2 rfl ?_
      refine g_aload_n ok d_Sh_has_17 rfl 0 rfl ?_
      refine gI_Sh_top ok _ hK k_114 d_Sh_has_18 ?_
      refine g_icmp_lt ok 32 d_Sh_has_21 (by decide) (by omega) (by omega) (fun h3 => ?_) (fun h3 => ?_)
      · refine g_iconst ok d_Sh_has_32 ?_
        exact g_zpret ok d_Sh_has_33 (Or.inl rfl) ⟨Or.inl rfl, ⟨fun q => by omega, fun q => by have := q.1; unfold sBox at this; omega⟩⟩
      · refine g_iload_n ok d_Sh_has_24 rfl 2 rfl ?_
        refine g_aload_n ok d_Sh_has_25 rfl 0 rfl ?_
        refine gI_Sh_bottom ok _ hK k_122 d_Sh_has_26 ?_
        refine g_icmp_le ok 34 d_Sh_has_29 (by decide) (by omega) (by omega) (fun h4 => ?_) (fun h4 => ?_)
        · refine g_iconst ok d_Sh_has_34 ?_
          refine g_istore_n (lv' := [(3, .int (iI 0)), (0, .ref (ad k)), (1, .int (iI x)), (2, .int (iI y))]) ok d_Sh_has_35 rfl (by decide) rfl ?_
          refine g_iconst ok d_Sh_has_36 ?_
          refine g_istore (lv' := [(4, .int (iI 0)), (3, .int (iI 0)), (0, .ref (ad k)), (1, .int (iI x)), (2, .int (iI y))]) ok d_Sh_has_37 (by decide) rfl ?_
          have L_r : ∀ (n_r : Nat) (d : Int) (r : Int), (0 ≤ r ∧ r ≤ 4) → ((d = 0 ∨ d = 1) ∧ (d = 1 ↔ oddN (sIn F G k x y) r.toNat)) → (∀ a : Int, 0 ≤ a → a < r → ¬ sOn F G k x y a) → (5 - r) < (n_r : Int) → gW p l e R s m args below meth c (MQ below (gQp (fun r => (r = 0 ∨ r = 1) ∧ (r = 1 ↔ sHas F G k x y))) args s 0 0 (fun _ => False)) D A 6 (gZ0 s) 0 0 ad 265 (mem ad t F G) 39 [(0, .ref (ad k)), (1, .int (iI x)), (2, .int (iI y)), (3, .int (iI d)), (4, .int (iI r))] [] := by
            intro n_r
            induction n_r with
            | zero =>
              intro d r hr hdd ho hm_r
              exact absurd hm_r (by omega)
            | succ n_r ih_r =>
              intro d r hr hdd ho hm_r
              refine g_iload ok d_Sh_has_39 4 rfl ?_
              refine g_iconst ok d_Sh_has_41 ?_
              refine g_icmp_ge ok 94 d_Sh_has_42 (by decide) (by omega) (by omega) (fun h5 => ?_) (fun h5 => ?_)
              · refine g_iload_n ok d_Sh_has_94 rfl 3 rfl ?_
                exact g_zpret ok d_Sh_has_95 (hdd.1) ⟨hdd.1, ⟨fun q => ⟨by unfold sBox; omega, Or.inr ⟨fun a q1 q2 => ho a q1 (by omega), by rw [show 4 = r.toNat by omega]; exact hdd.2.mp q⟩⟩, fun q => hdd.2.mpr (q.2.elim (fun ⟨a, q1, q2, q3⟩ => absurd q3 (ho a q1 (by omega))) (fun q => by have := q.2; rw [show 4 = r.toNat by omega] at this; exact this))⟩⟩
              · refine g_aload_n ok d_Sh_has_45 rfl 0 rfl ?_
                refine gI_Sh_rings ok _ hK k_83 d_Sh_has_46 ?_
                refine g_iload ok d_Sh_has_49 4 rfl ?_
                refine h_rings ok _ hK (by omega) d_Sh_has_51 ?_
                refine g_iload_n ok d_Sh_has_52 rfl 1 rfl ?_
                refine g_iload_n ok d_Sh_has_53 rfl 2 rfl ?_
                refine g_callPVN (As := [.int (iI x), .int (iI y)]) (st := []) ok _ (c_Rg_sideOf F G _ x y (rg_of hK (by omega)) (hRs _ (by omega)) hx hy s0 a0 D t ad) k_523 k_3 k_520 cl_Rg (m_Rg (ad := ad) (t := t) (F := F) (G := G) (rg_of hK (by omega))).1 (m_Rg (rg_of hK (by omega))).2 k_522 s_Rg_sideOf q_Rg_sideOf (by decide) (Nat.le_of_ble_eq_true rfl) (by decide) d_Sh_has_54 (fun z6 hc6 => ?_)
                have hz := rSide_rng hc6
                refine g_istore (lv' := [(5, .int (iI z6)), (0, .ref (ad k)), (1, .int (iI x)), (2, .int (iI y)), (3, .int (iI d)), (4, .int (iI r))]) ok d_Sh_has_57 (by decide) rfl ?_
                refine g_iload ok d_Sh_has_59 0 rfl ?_
                refine g_iconst ok d_Sh_has_61 ?_
                refine g_icmp_ne ok 67 d_Sh_has_62 (by decide) (by omega) (by omega) (fun h7 => ?_) (fun h7 => ?_)
                · refine g_iload_n ok d_Sh_has_67 rfl 4 rfl ?_
                  refine g_iload ok d_Sh_has_68 0 rfl ?_
                  refine g_iconst ok d_Sh_has_70 ?_
                  refine g_icmp_ne ok 78 d_Sh_has_71 (by decide) (by omega) (by omega) (fun h8 => ?_) (fun h8 => ?_)
                  · refine g_iconst ok d_Sh_has_78 ?_
                    refine g_icmp_eq ok 86 d_Sh_has_79 (by decide) (by omega) (by omega) (fun h9 => ?_) (fun h9 => ?_)
                    · refine g_iconst ok d_Sh_has_86 ?_
                      refine g_istore_n (lv' := [(3, .int (iI 0)), (5, .int (iI z6)), (0, .ref (ad k)), (1, .int (iI x)), (2, .int (iI y)), (4, .int (iI r))]) ok d_Sh_has_87 rfl (by decide) rfl ?_
                      refine g_iinc (lv' := [(4, .int (iI (r + 1))), (3, .int (iI 0)), (5, .int (iI z6)), (0, .ref (ad k)), (1, .int (iI x)), (2, .int (iI y))]) ok d_Sh_has_88 5 rfl (by decide) rfl ?_
                      refine g_goto ok 39 d_Sh_has_91 (by decide) ?_
                      refine g_lv [3, 4, 5, 1, 0] rfl ?_
                      exact ih_r 0 (r + 1) (by omega) (by rw [oddN_step hr.1]; first | exact odd_y1 hdd (rSide_1 hc6 (by omega)) (by omega) | exact odd_y0 hdd (rSide_1 hc6 (by omega)) (by omega) | exact odd_n1 hdd (rSide_0 hc6 (by omega) (by omega)) (by omega) | exact odd_n0 hdd (rSide_0 hc6 (by omega) (by omega)) (by omega)) (fun a q1 q2 => (Int.lt_or_eq_of_le (show a ≤ r by omega)).elim (fun q => ho a q1 q) (fun q => by subst q; exact rSide_n hc6 (by omega))) (by omega)
                    · refine g_iconst ok d_Sh_has_82 ?_
                      refine g_goto ok 87 d_Sh_has_83 (by decide) ?_
                      refine g_istore_n (lv' := [(3, .int (iI 1)), (5, .int (iI z6)), (0, .ref (ad k)), (1, .int (iI x)), (2, .int (iI y)), (4, .int (iI r))]) ok d_Sh_has_87 rfl (by decide) rfl ?_
                      refine g_iinc (lv' := [(4, .int (iI (r + 1))), (3, .int (iI 1)), (5, .int (iI z6)), (0, .ref (ad k)), (1, .int (iI x)), (2, .int (iI y))]) ok d_Sh_has_88 5 rfl (by decide) rfl ?_
                      refine g_goto ok 39 d_Sh_has_91 (by decide) ?_
                      refine g_lv [3, 4, 5, 1, 0] rfl ?_
                      exact ih_r 1 (r + 1) (by omega) (by rw [oddN_step hr.1]; first | exact odd_y1 hdd (rSide_1 hc6 (by omega)) (by omega) | exact odd_y0 hdd (rSide_1 hc6 (by omega)) (by omega) | exact odd_n1 hdd (rSide_0 hc6 (by omega) (by omega)) (by omega) | exact odd_n0 hdd (rSide_0 hc6 (by omega) (by omega)) (by omega)) (fun a q1 q2 => (Int.lt_or_eq_of_le (show a ≤ r by omega)).elim (fun q => ho a q1 q) (fun q => by subst q; exact rSide_n hc6 (by omega))) (by omega)
                  · refine g_iconst ok d_Sh_has_74 ?_
                    refine g_goto ok 79 d_Sh_has_75 (by decide) ?_
                    refine g_icmp_eq ok 86 d_Sh_has_79 (by decide) (by omega) (by omega) (fun h10 => ?_) (fun h10 => ?_)
                    · refine g_iconst ok d_Sh_has_86 ?_
                      refine g_istore_n (lv' := [(3, .int (iI 0)), (5, .int (iI z6)), (0, .ref (ad k)), (1, .int (iI x)), (2, .int (iI y)), (4, .int (iI r))]) ok d_Sh_has_87 rfl (by decide) rfl ?_
                      refine g_iinc (lv' := [(4, .int (iI (r + 1))), (3, .int (iI 0)), (5, .int (iI z6)), (0, .ref (ad k)), (1, .int (iI x)), (2, .int (iI y))]) ok d_Sh_has_88 5 rfl (by decide) rfl ?_
                      refine g_goto ok 39 d_Sh_has_91 (by decide) ?_
                      refine g_lv [3, 4, 5, 1, 0] rfl ?_
                      exact ih_r 0 (r + 1) (by omega) (by rw [oddN_step hr.1]; first | exact odd_y1 hdd (rSide_1 hc6 (by omega)) (by omega) | exact odd_y0 hdd (rSide_1 hc6 (by omega)) (by omega) | exact odd_n1 hdd (rSide_0 hc6 (by omega) (by omega)) (by omega) | exact odd_n0 hdd (rSide_0 hc6 (by omega) (by omega)) (by omega)) (fun a q1 q2 => (Int.lt_or_eq_of_le (show a ≤ r by omega)).elim (fun q => ho a q1 q) (fun q => by subst q; exact rSide_n hc6 (by omega))) (by omega)
                    · refine g_iconst ok d_Sh_has_82 ?_
                      refine g_goto ok 87 d_Sh_has_83 (by decide) ?_
                      refine g_istore_n (lv' := [(3, .int (iI 1)), (5, .int (iI z6)), (0, .ref (ad k)), (1, .int (iI x)), (2, .int (iI y)), (4, .int (iI r))]) ok d_Sh_has_87 rfl (by decide) rfl ?_
                      refine g_iinc (lv' := [(4, .int (iI (r + 1))), (3, .int (iI 1)), (5, .int (iI z6)), (0, .ref (ad k)), (1, .int (iI x)), (2, .int (iI y))]) ok d_Sh_has_88 5 rfl (by decide) rfl ?_
                      refine g_goto ok 39 d_Sh_has_91 (by decide) ?_
                      refine g_lv [3, 4, 5, 1, 0] rfl ?_
                      exact ih_r 1 (r + 1) (by omega) (by rw [oddN_step hr.1]; first | exact odd_y1 hdd (rSide_1 hc6 (by omega)) (by omega) | exact odd_y0 hdd (rSide_1 hc6 (by omega)) (by omega) | exact odd_n1 hdd (rSide_0 hc6 (by omega) (by omega)) (by omega) | exact odd_n0 hdd (rSide_0 hc6 (by omega) (by omega)) (by omega)) (fun a q1 q2 => (Int.lt_or_eq_of_le (show a ≤ r by omega)).elim (fun q => ho a q1 q) (fun q => by subst q; exact rSide_n hc6 (by omega))) (by omega)
                · refine g_iconst ok d_Sh_has_65 ?_
                  exact g_zpret ok d_Sh_has_66 (Or.inr rfl) ⟨Or.inr rfl, ⟨fun _ => ⟨by unfold sBox; omega, Or.inl ⟨r, hr.1, by omega, rSide_2 hc6 (by omega)⟩⟩, fun _ => rfl⟩⟩
          refine g_lv [2, 3, 4, 1, 0] rfl ?_
          exact L_r ((5 - 0 : Int).toNat + 1) 0 0 (by omega) (⟨Or.inl rfl, ⟨fun q => by omega, fun q => q.elim⟩⟩) (fun a q1 q2 => by omega) (by omega)
        · refine g_iconst ok d_Sh_has_32 ?_
          exact g_zpret ok d_Sh_has_33 (Or.inl rfl) ⟨Or.inl rfl, ⟨fun q => by omega, fun q => by have := q.1; unfold sBox at this; omega⟩⟩
