theorem fU_id {F : Nat → Nat → Int} {k j : Nat} {v : Int} (h : F k j = v) : fU F k j v = F := by
  funext a b
  unfold fU
  split
  · rename_i q
    rw [q.1, q.2, h]
  · rfl
theorem fU_ja {F : Nat → Nat → Int} {k j a b : Nat} {v : Int} (h : b ≠ j) : fU F k j v a b = F a b := by simp [fU, h]
theorem fU_ka {F : Nat → Nat → Int} {k j a b : Nat} {v : Int} (h : a ≠ k) : fU F k j v a b = F a b := by simp [fU, h]
theorem fU_hit {F : Nat → Nat → Int} {k j : Nat} {v : Int} : fU F k j v k j = v := by simp [fU]
theorem gU_a {G : Nat → Int → Int} {k a : Nat} {z v j : Int} (h : a ≠ k) : gU G k z v a j = G a j := by simp [gU, h]
theorem gU_i {G : Nat → Int → Int} {k : Nat} {z v j : Int} (h : j ≠ z) : gU G k z v k j = G k j := by simp [gU, zU, h]
theorem gU_hit {G : Nat → Int → Int} {k : Nat} {z v : Int} : gU G k z v k z = v := by simp [gU, zU]
/-- n rings, three places apart, are emptied -/
def clrN (k : Nat) (F : Nat → Nat → Int) : Nat → Nat → Nat → Int
  | 0 => F
  | n + 1 => fU (clrN k F n) (k + 3 * n) 2 0
theorem clrN_step {k : Nat} {F : Nat → Nat → Int} {r : Int} (h : 0 ≤ r) : clrN k F (r + 1).toNat = fU (clrN k F r.toNat) (k + 3 * r.toNat) 2 0 := by
  rw [show (r + 1).toNat = r.toNat + 1 by omega]
  rfl
theorem ty_of {k : Nat} (h : isSh k) : isTy (k + 21) := by
  unfold isSh at h
  unfold isTy
  have : (k - 2) / 22 < 10 := by omega
  omega
theorem d_Sh_reset_0 : decode b_Sh_reset 0 = .ok (.aload_n 0, 1) := by decide +kernel
theorem d_Sh_reset_1 : decode b_Sh_reset 1 = .ok (.iload_n 1, 1) := by decide +kernel
theorem d_Sh_reset_2 : decode b_Sh_reset 2 = .ok (.putfield 34, 3) := by decide +kernel
theorem d_Sh_reset_5 : decode b_Sh_reset 5 = .ok (.aload_n 0, 1) := by decide +kernel
theorem d_Sh_reset_6 : decode b_Sh_reset 6 = .ok (.iload_n 2, 1) := by decide +kernel
theorem d_Sh_reset_7 : decode b_Sh_reset 7 = .ok (.putfield 37, 3) := by decide +kernel
theorem d_Sh_reset_10 : decode b_Sh_reset 10 = .ok (.aload_n 0, 1) := by decide +kernel
theorem d_Sh_reset_11 : decode b_Sh_reset 11 = .ok (.iload_n 3, 1) := by decide +kernel
theorem d_Sh_reset_12 : decode b_Sh_reset 12 = .ok (.putfield 30, 3) := by decide +kernel
theorem d_Sh_reset_15 : decode b_Sh_reset 15 = .ok (.aload_n 0, 1) := by decide +kernel
theorem d_Sh_reset_16 : decode b_Sh_reset 16 = .ok (.iload 4, 2) := by decide +kernel
theorem d_Sh_reset_18 : decode b_Sh_reset 18 = .ok (.putfield 40, 3) := by decide +kernel
theorem d_Sh_reset_21 : decode b_Sh_reset 21 = .ok (.iconst 0, 1) := by decide +kernel
theorem d_Sh_reset_22 : decode b_Sh_reset 22 = .ok (.istore 5, 2) := by decide +kernel
theorem d_Sh_reset_24 : decode b_Sh_reset 24 = .ok (.iload 5, 2) := by decide +kernel
theorem d_Sh_reset_26 : decode b_Sh_reset 26 = .ok (.iconst 4, 1) := by decide +kernel
theorem d_Sh_reset_27 : decode b_Sh_reset 27 = .ok (.if_icmp .ge 19, 3) := by decide +kernel
theorem d_Sh_reset_30 : decode b_Sh_reset 30 = .ok (.aload_n 0, 1) := by decide +kernel
theorem d_Sh_reset_31 : decode b_Sh_reset 31 = .ok (.getfield 11, 3) := by decide +kernel
theorem d_Sh_reset_34 : decode b_Sh_reset 34 = .ok (.iload 5, 2) := by decide +kernel
theorem d_Sh_reset_36 : decode b_Sh_reset 36 = .ok (.aaload, 1) := by decide +kernel
theorem d_Sh_reset_37 : decode b_Sh_reset 37 = .ok (.invokevirtual 43, 3) := by decide +kernel
theorem d_Sh_reset_40 : decode b_Sh_reset 40 = .ok (.iinc 5 1, 3) := by decide +kernel
theorem d_Sh_reset_43 : decode b_Sh_reset 43 = .ok (.goto (-19), 3) := by decide +kernel
theorem d_Sh_reset_46 : decode b_Sh_reset 46 = .ok (.iconst 0, 1) := by decide +kernel
theorem d_Sh_reset_47 : decode b_Sh_reset 47 = .ok (.istore 5, 2) := by decide +kernel
theorem d_Sh_reset_49 : decode b_Sh_reset 49 = .ok (.iload 5, 2) := by decide +kernel
theorem d_Sh_reset_51 : decode b_Sh_reset 51 = .ok (.iconst 2, 1) := by decide +kernel
theorem d_Sh_reset_52 : decode b_Sh_reset 52 = .ok (.if_icmp .ge 19, 3) := by decide +kernel
theorem d_Sh_reset_55 : decode b_Sh_reset 55 = .ok (.aload_n 0, 1) := by decide +kernel
theorem d_Sh_reset_56 : decode b_Sh_reset 56 = .ok (.getfield 17, 3) := by decide +kernel
theorem d_Sh_reset_59 : decode b_Sh_reset 59 = .ok (.iload 5, 2) := by decide +kernel
theorem d_Sh_reset_61 : decode b_Sh_reset 61 = .ok (.aaload, 1) := by decide +kernel
theorem d_Sh_reset_62 : decode b_Sh_reset 62 = .ok (.invokevirtual 43, 3) := by decide +kernel
theorem d_Sh_reset_65 : decode b_Sh_reset 65 = .ok (.iinc 5 1, 3) := by decide +kernel
theorem d_Sh_reset_68 : decode b_Sh_reset 68 = .ok (.goto (-19), 3) := by decide +kernel
theorem d_Sh_reset_71 : decode b_Sh_reset 71 = .ok (.aload_n 0, 1) := by decide +kernel
theorem d_Sh_reset_72 : decode b_Sh_reset 72 = .ok (.getfield 26, 3) := by decide +kernel
theorem d_Sh_reset_75 : decode b_Sh_reset 75 = .ok (.invokevirtual 46, 3) := by decide +kernel
theorem d_Sh_reset_78 : decode b_Sh_reset 78 = .ok (.return_, 1) := by decide +kernel
set_option maxHeartbeats 4000000 in
set_option maxRecDepth 100000 in
theorem c_Sh_reset (F : Nat → Nat → Int) (G : Nat → Int → Int) (k : Nat) (hK : isSh k) (c0 f sp d : Int) : cV y_Sh_reset b_Sh_reset 6 none 1 20 F G (fun ad => [.ref (ad k), .int (iI c0), .int (iI f), .int (iI sp), .int (iI d)]) (fun F' G' => F' = fU (fU (clrN (k + 15) (clrN (k + 3) (fU (fU (fU (fU F k 3 c0) k 4 f) k 5 sp) k 6 d) 4) 2) (k + 21) 0 0) (k + 21) 1 0 ∧ G' = G) := by
  intro s0 a0 D t ad
  refine g_startV (by decide +kernel) (Nat.le_of_ble_eq_true rfl) (fun p l e R s m args below meth c A ok => ?_)
  show gW p l e R s m args below meth c _ D A 6 (gZ0 s) 0 0 ad 265 (mem ad t F G) 0 [(0, .ref (ad k)), (1, .int (iI c0)), (2, .int (iI f)), (3, .int (iI sp)), (4, .int (iI d))] []
  refine g_aload_n ok d_Sh_reset_0 rfl 0 rfl ?_
  refine g_iload_n ok d_Sh_reset_1 rfl 1 rfl ?_
  refine pI_Sh_colour ok _ hK k_94 d_Sh_reset_2 ?_
  refine g_aload_n ok d_Sh_reset_5 rfl 0 rfl ?_
  refine g_iload_n ok d_Sh_reset_6 rfl 2 rfl ?_
  refine pI_Sh_fill ok _ hK k_99 d_Sh_reset_7 ?_
  refine g_aload_n ok d_Sh_reset_10 rfl 0 rfl ?_
  refine g_iload_n ok d_Sh_reset_11 rfl 3 rfl ?_
  refine pI_Sh_spacing ok _ hK k_102 d_Sh_reset_12 ?_
  refine g_aload_n ok d_Sh_reset_15 rfl 0 rfl ?_
  refine g_iload ok d_Sh_reset_16 4 rfl ?_
  refine pI_Sh_direction ok _ hK k_105 d_Sh_reset_18 ?_
  refine g_iconst ok d_Sh_reset_21 ?_
  refine g_istore (lv' := [(5, .int (iI 0)), (0, .ref (ad k)), (1, .int (iI c0)), (2, .int (iI f)), (3, .int (iI sp)), (4, .int (iI d))]) ok d_Sh_reset_22 (by decide) rfl ?_
  have L_r : ∀ (n_r : Nat) (r : Int) (F1 : Nat → Nat → Int), (0 ≤ r ∧ r ≤ 4) → (F1 = clrN (k + 3) (fU (fU (fU (fU F k 3 c0) k 4 f) k 5 sp) k 6 d) r.toNat) → (5 - r) < (n_r : Int) → gW p l e R s m args below meth c (MQ below (gQv D A ad 265 (fun ce' => ∃ F' G', ce' = mem ad t F' G' ∧ (fun F' G' => F' = fU (fU (clrN (k + 15) (clrN (k + 3) (fU (fU (fU (fU F k 3 c0) k 4 f) k 5 sp) k 6 d) 4) 2) (k + 21) 0 0) (k + 21) 1 0 ∧ G' = G) F' G')) args s 0 0 A) D A 6 (gZ) 0 0 ad 265 (mem ad t F1 G) 24 [(0, .ref (ad k)), (1, .int (iI c0)), (2, .int (iI f)), (3, .int (iI sp)), (4, .int (iI d)), (5, .int (iI r))] [] := by
    intro n_r
    induction n_r with
    | zero =>
      intro r F1 hr hF hm_r
      exact absurd hm_r (by omega)
    | succ n_r ih_r =>
      intro r F1 hr hF hm_r
      refine g_iload ok d_Sh_reset_24 5 rfl ?_
      refine g_iconst ok d_Sh_reset_26 ?_
      refine g_icmp_ge ok 46 d_Sh_reset_27 (by decide) (by omega) (by omega) (fun h1 => ?_) (fun h1 => ?_)
      · refine g_iconst ok d_Sh_reset_46 ?_
        refine g_istore (lv' := [(5, .int (iI 0)), (0, .ref (ad k)), (1, .int (iI c0)), (2, .int (iI f)), (3, .int (iI sp)), (4, .int (iI d))]) ok d_Sh_reset_47 (by decide) rfl ?_
        have L_r2 : ∀ (n_r2 : Nat) (r : Int) (F1 : Nat → Nat → Int), (0 ≤ r ∧ r ≤ 2) → (F1 = clrN (k + 15) (clrN (k + 3) (fU (fU (fU (fU F k 3 c0) k 4 f) k 5 sp) k 6 d) 4) r.toNat) → (3 - r) < (n_r2 : Int) → gW p l e R s m args below meth c (MQ below (gQv D A ad 265 (fun ce' => ∃ F' G', ce' = mem ad t F' G' ∧ (fun F' G' => F' = fU (fU (clrN (k + 15) (clrN (k + 3) (fU (fU (fU (fU F k 3 c0) k 4 f) k 5 sp) k 6 d) 4) 2) (k + 21) 0 0) (k + 21) 1 0 ∧ G' = G) F' G')) args s 0 0 A) D A 6 (gZ) 0 0 ad 265 (mem ad t F1 G) 49 [(0, .ref (ad k)), (1, .int (iI c0)), (2, .int (iI f)), (3, .int (iI sp)), (4, .int (iI d)), (5, .int (iI r))] [] := by
          intro n_r2
          induction n_r2 with
          | zero =>
            intro r F1 hr hF hm_r2
            exact absurd hm_r2 (by omega)
          | succ n_r2 ih_r2 =>
            intro r F1 hr hF hm_r2
            refine g_iload ok d_Sh_reset_49 5 rfl ?_
            refine g_iconst ok d_Sh_reset_51 ?_
            refine g_icmp_ge ok 71 d_Sh_reset_52 (by decide) (by omega) (by omega) (fun h2 => ?_) (fun h2 => ?_)
            · refine g_aload_n ok d_Sh_reset_71 rfl 0 rfl ?_
              refine gI_Sh_tally ok _ hK k_92 d_Sh_reset_72 ?_
              refine g_callVVN (As := []) (st := []) ok _ (c_Ty_clear F1 G _ (ty_of hK) s0 a0 D t ad) k_778 k_4 k_775 cl_Ty (m_Ty (ad := ad) (t := t) (F := F1) (G := G) (ty_of hK)).1 (m_Ty (ty_of hK)).2 k_777 s_Ty_clear q_Ty_clear (by decide) (Nat.le_of_ble_eq_true rfl) (by decide) d_Sh_reset_75 (fun ce1 hc3 => ?_)
              obtain ⟨F1, G1, rfl, rfl, rfl⟩ := hc3
              exact g_vret ok d_Sh_reset_78 ⟨_, _, rfl, by rw [hF, show r.toNat = 2 by omega], rfl⟩
            · refine g_aload_n ok d_Sh_reset_55 rfl 0 rfl ?_
              refine gI_Sh_rails ok _ hK k_88 d_Sh_reset_56 ?_
              refine g_iload ok d_Sh_reset_59 5 rfl ?_
              refine h_rails ok _ hK (by omega) d_Sh_reset_61 ?_
              refine g_callVVN (As := []) (st := []) ok _ (c_Rg_clear F1 G _ (rl_of hK (by omega)) s0 a0 D t ad) k_774 k_3 k_771 cl_Rg (m_Rg (ad := ad) (t := t) (F := F1) (G := G) (rl_of hK (by omega))).1 (m_Rg (rl_of hK (by omega))).2 k_773 s_Rg_clear q_Rg_clear (by decide) (Nat.le_of_ble_eq_true rfl) (by decide) d_Sh_reset_62 (fun ce1 hc4 => ?_)
              obtain ⟨F1, G1, rfl, rfl, rfl⟩ := hc4
              refine g_iinc (lv' := [(5, .int (iI (r + 1))), (0, .ref (ad k)), (1, .int (iI c0)), (2, .int (iI f)), (3, .int (iI sp)), (4, .int (iI d))]) ok d_Sh_reset_65 5 rfl (by decide) rfl ?_
              refine g_goto ok 49 d_Sh_reset_68 (by decide) ?_
              refine g_lv [1, 2, 3, 4, 5, 0] rfl ?_
              exact ih_r2 (r + 1) (fU F1 (k + 15 + 3 * (r : Int).toNat) 2 0) (by omega) (by rw [clrN_step hr.1, hF]) (by omega)
        refine g_z ?_
        refine g_lv [1, 2, 3, 4, 5, 0] rfl ?_
        exact L_r2 ((3 - 0 : Int).toNat + 1) 0 F1 (by omega) (by rw [hF, show r.toNat = 4 by omega]; rfl) (by omega)
      · refine g_aload_n ok d_Sh_reset_30 rfl 0 rfl ?_
        refine gI_Sh_rings ok _ hK k_83 d_Sh_reset_31 ?_
        refine g_iload ok d_Sh_reset_34 5 rfl ?_
        refine h_rings ok _ hK (by omega) d_Sh_reset_36 ?_
        refine g_callVVN (As := []) (st := []) ok _ (c_Rg_clear F1 G _ (rg_of hK (by omega)) s0 a0 D t ad) k_774 k_3 k_771 cl_Rg (m_Rg (ad := ad) (t := t) (F := F1) (G := G) (rg_of hK (by omega))).1 (m_Rg (rg_of hK (by omega))).2 k_773 s_Rg_clear q_Rg_clear (by decide) (Nat.le_of_ble_eq_true rfl) (by decide) d_Sh_reset_37 (fun ce1 hc5 => ?_)
        obtain ⟨F1, G1, rfl, rfl, rfl⟩ := hc5
        refine g_iinc (lv' := [(5, .int (iI (r + 1))), (0, .ref (ad k)), (1, .int (iI c0)), (2, .int (iI f)), (3, .int (iI sp)), (4, .int (iI d))]) ok d_Sh_reset_40 5 rfl (by decide) rfl ?_
        refine g_goto ok 24 d_Sh_reset_43 (by decide) ?_
        refine g_lv [1, 2, 3, 4, 5, 0] rfl ?_
        exact ih_r (r + 1) (fU F1 (k + 3 + 3 * (r : Int).toNat) 2 0) (by omega) (by rw [clrN_step hr.1, hF]) (by omega)
  refine g_z ?_
  refine g_lv [1, 2, 3, 4, 5, 0] rfl ?_
  exact L_r ((5 - 0 : Int).toNat + 1) 0 (fU (fU (fU (fU F k 3 c0) k 4 f) k 5 sp) k 6 d) (by omega) (rfl) (by omega)
/-- ring 0 of the shape at k has the corners of rail 0, and behind them those of rail 1 backwards: the first n and the next m -/
def jnd (G G1 : Nat → Int → Int) (k : Nat) (n0 n1 n m : Int) : Prop := (∀ a : Nat, a ≠ k + 4 → a ≠ k + 5 → G1 a = G a) ∧ (∀ i : Int, 0 ≤ i → i < n → G1 (k + 4) i = G (k + 16) i ∧ G1 (k + 5) i = G (k + 17) i) ∧ (∀ i : Int, 0 ≤ i → i < m → G1 (k + 4) (n0 + i) = G (k + 19) (n1 - 1 - i) ∧ G1 (k + 5) (n0 + i) = G (k + 20) (n1 - 1 - i))
theorem jnd_0 (G : Nat → Int → Int) (k : Nat) (n0 n1 : Int) : jnd G G k n0 n1 0 0 := ⟨fun _ _ _ => rfl, fun i h1 h2 => by omega, fun i h1 h2 => by omega⟩
theorem jnd_a {G G1 : Nat → Int → Int} {k : Nat} {n0 n1 n x y : Int} (h : jnd G G1 k n0 n1 n 0) (hx : x = G (k + 16) n) (hy : y = G (k + 17) n) : jnd G (gU (gU G1 (k + 4) n x) (k + 5) n y) k n0 n1 (n + 1) 0 := by
  refine ⟨fun a h1 h2 => ?_, fun i h1 h2 => ?_, fun i h1 h2 => by omega⟩
  · rw [gU_k _ _ _ h2, gU_k _ _ _ h1]
    exact h.1 a h1 h2
  · rcases Int.lt_or_eq_of_le (show i ≤ n by omega) with q | q
    · rw [gU_a (by omega), gU_i (by omega), gU_i (by omega), gU_a (by omega)]
      exact h.2.1 i h1 q
    · subst q
      rw [gU_a (by omega), gU_hit, gU_hit]
      exact ⟨hx, hy⟩
theorem jnd_b {G G1 : Nat → Int → Int} {k : Nat} {n0 n1 m x y z : Int} (hn : 0 ≤ m) (hz : z = n0 + m) (h : jnd G G1 k n0 n1 n0 m) (hx : x = G (k + 19) (n1 - 1 - m)) (hy : y = G (k + 20) (n1 - 1 - m)) : jnd G (gU (gU G1 (k + 4) z x) (k + 5) z y) k n0 n1 n0 (m + 1) := by
  subst hz
  refine ⟨fun a h1 h2 => ?_, fun i h1 h2 => ?_, fun i h1 h2 => ?_⟩
  · rw [gU_k _ _ _ h2, gU_k _ _ _ h1]
    exact h.1 a h1 h2
  · rw [gU_a (by omega), gU_i (by omega), gU_i (by omega), gU_a (by omega)]
    exact h.2.1 i h1 h2
  · rcases Int.lt_or_eq_of_le (show i ≤ m by omega) with q | q
    · rw [gU_a (by omega), gU_i (by omega), gU_i (by omega), gU_a (by omega)]
      exact h.2.2 i h1 q
    · subst q
      rw [gU_a (by omega), gU_hit, gU_hit]
      exact ⟨hx, hy⟩
theorem rmA {k : Nat} (h : isSh k) : rRoom ((k + 3 - 2) % 22) = 32 := by
  unfold isSh at h
  rw [show (k + 3 - 2) % 22 = 3 by omega]
  rfl
theorem rmB {k : Nat} (h : isSh k) : rRoom ((k + 15 - 2) % 22) = 16 := by
  unfold isSh at h
  rw [show (k + 15 - 2) % 22 = 15 by omega]
  rfl
theorem rmC {k : Nat} (h : isSh k) : rRoom ((k + 18 - 2) % 22) = 16 := by
  unfold isSh at h
  rw [show (k + 18 - 2) % 22 = 18 by omega]
  rfl
theorem d_Sh_joinRails_0 : decode b_Sh_joinRails 0 = .ok (.aload_n 0, 1) := by decide +kernel
theorem d_Sh_joinRails_1 : decode b_Sh_joinRails 1 = .ok (.getfield 11, 3) := by decide +kernel
theorem d_Sh_joinRails_4 : decode b_Sh_joinRails 4 = .ok (.iconst 0, 1) := by decide +kernel
theorem d_Sh_joinRails_5 : decode b_Sh_joinRails 5 = .ok (.aaload, 1) := by decide +kernel
theorem d_Sh_joinRails_6 : decode b_Sh_joinRails 6 = .ok (.astore_n 1, 1) := by decide +kernel
theorem d_Sh_joinRails_7 : decode b_Sh_joinRails 7 = .ok (.iconst 0, 1) := by decide +kernel
theorem d_Sh_joinRails_8 : decode b_Sh_joinRails 8 = .ok (.istore_n 2, 1) := by decide +kernel
theorem d_Sh_joinRails_9 : decode b_Sh_joinRails 9 = .ok (.iload_n 2, 1) := by decide +kernel
theorem d_Sh_joinRails_10 : decode b_Sh_joinRails 10 = .ok (.aload_n 0, 1) := by decide +kernel
theorem d_Sh_joinRails_11 : decode b_Sh_joinRails 11 = .ok (.getfield 17, 3) := by decide +kernel
theorem d_Sh_joinRails_14 : decode b_Sh_joinRails 14 = .ok (.iconst 0, 1) := by decide +kernel
theorem d_Sh_joinRails_15 : decode b_Sh_joinRails 15 = .ok (.aaload, 1) := by decide +kernel
theorem d_Sh_joinRails_16 : decode b_Sh_joinRails 16 = .ok (.getfield 53, 3) := by decide +kernel
theorem d_Sh_joinRails_19 : decode b_Sh_joinRails 19 = .ok (.if_icmp .ge 35, 3) := by decide +kernel
theorem d_Sh_joinRails_22 : decode b_Sh_joinRails 22 = .ok (.aload_n 1, 1) := by decide +kernel
theorem d_Sh_joinRails_23 : decode b_Sh_joinRails 23 = .ok (.aload_n 0, 1) := by decide +kernel
theorem d_Sh_joinRails_24 : decode b_Sh_joinRails 24 = .ok (.getfield 17, 3) := by decide +kernel
theorem d_Sh_joinRails_27 : decode b_Sh_joinRails 27 = .ok (.iconst 0, 1) := by decide +kernel
theorem d_Sh_joinRails_28 : decode b_Sh_joinRails 28 = .ok (.aaload, 1) := by decide +kernel
theorem d_Sh_joinRails_29 : decode b_Sh_joinRails 29 = .ok (.getfield 56, 3) := by decide +kernel
theorem d_Sh_joinRails_32 : decode b_Sh_joinRails 32 = .ok (.iload_n 2, 1) := by decide +kernel
theorem d_Sh_joinRails_33 : decode b_Sh_joinRails 33 = .ok (.iaload, 1) := by decide +kernel
theorem d_Sh_joinRails_34 : decode b_Sh_joinRails 34 = .ok (.aload_n 0, 1) := by decide +kernel
theorem d_Sh_joinRails_35 : decode b_Sh_joinRails 35 = .ok (.getfield 17, 3) := by decide +kernel
theorem d_Sh_joinRails_38 : decode b_Sh_joinRails 38 = .ok (.iconst 0, 1) := by decide +kernel
theorem d_Sh_joinRails_39 : decode b_Sh_joinRails 39 = .ok (.aaload, 1) := by decide +kernel
theorem d_Sh_joinRails_40 : decode b_Sh_joinRails 40 = .ok (.getfield 60, 3) := by decide +kernel
theorem d_Sh_joinRails_43 : decode b_Sh_joinRails 43 = .ok (.iload_n 2, 1) := by decide +kernel
theorem d_Sh_joinRails_44 : decode b_Sh_joinRails 44 = .ok (.iaload, 1) := by decide +kernel
theorem d_Sh_joinRails_45 : decode b_Sh_joinRails 45 = .ok (.invokevirtual 63, 3) := by decide +kernel
theorem d_Sh_joinRails_48 : decode b_Sh_joinRails 48 = .ok (.iinc 2 1, 3) := by decide +kernel
theorem d_Sh_joinRails_51 : decode b_Sh_joinRails 51 = .ok (.goto (-42), 3) := by decide +kernel
theorem d_Sh_joinRails_54 : decode b_Sh_joinRails 54 = .ok (.aload_n 0, 1) := by decide +kernel
theorem d_Sh_joinRails_55 : decode b_Sh_joinRails 55 = .ok (.getfield 17, 3) := by decide +kernel
theorem d_Sh_joinRails_58 : decode b_Sh_joinRails 58 = .ok (.iconst 1, 1) := by decide +kernel
theorem d_Sh_joinRails_59 : decode b_Sh_joinRails 59 = .ok (.aaload, 1) := by decide +kernel
theorem d_Sh_joinRails_60 : decode b_Sh_joinRails 60 = .ok (.getfield 53, 3) := by decide +kernel
theorem d_Sh_joinRails_63 : decode b_Sh_joinRails 63 = .ok (.iconst 1, 1) := by decide +kernel
theorem d_Sh_joinRails_64 : decode b_Sh_joinRails 64 = .ok (.isub, 1) := by decide +kernel
theorem d_Sh_joinRails_65 : decode b_Sh_joinRails 65 = .ok (.istore_n 2, 1) := by decide +kernel
theorem d_Sh_joinRails_66 : decode b_Sh_joinRails 66 = .ok (.iload_n 2, 1) := by decide +kernel
theorem d_Sh_joinRails_67 : decode b_Sh_joinRails 67 = .ok (.ifCond .lt 35, 3) := by decide +kernel
theorem d_Sh_joinRails_70 : decode b_Sh_joinRails 70 = .ok (.aload_n 1, 1) := by decide +kernel
theorem d_Sh_joinRails_71 : decode b_Sh_joinRails 71 = .ok (.aload_n 0, 1) := by decide +kernel
theorem d_Sh_joinRails_72 : decode b_Sh_joinRails 72 = .ok (.getfield 17, 3) := by decide +kernel
theorem d_Sh_joinRails_75 : decode b_Sh_joinRails 75 = .ok (.iconst 1, 1) := by decide +kernel
theorem d_Sh_joinRails_76 : decode b_Sh_joinRails 76 = .ok (.aaload, 1) := by decide +kernel
theorem d_Sh_joinRails_77 : decode b_Sh_joinRails 77 = .ok (.getfield 56, 3) := by decide +kernel
theorem d_Sh_joinRails_80 : decode b_Sh_joinRails 80 = .ok (.iload_n 2, 1) := by decide +kernel
theorem d_Sh_joinRails_81 : decode b_Sh_joinRails 81 = .ok (.iaload, 1) := by decide +kernel
theorem d_Sh_joinRails_82 : decode b_Sh_joinRails 82 = .ok (.aload_n 0, 1) := by decide +kernel
theorem d_Sh_joinRails_83 : decode b_Sh_joinRails 83 = .ok (.getfield 17, 3) := by decide +kernel
theorem d_Sh_joinRails_86 : decode b_Sh_joinRails 86 = .ok (.iconst 1, 1) := by decide +kernel
theorem d_Sh_joinRails_87 : decode b_Sh_joinRails 87 = .ok (.aaload, 1) := by decide +kernel
theorem d_Sh_joinRails_88 : decode b_Sh_joinRails 88 = .ok (.getfield 60, 3) := by decide +kernel
theorem d_Sh_joinRails_91 : decode b_Sh_joinRails 91 = .ok (.iload_n 2, 1) := by decide +kernel
theorem d_Sh_joinRails_92 : decode b_Sh_joinRails 92 = .ok (.iaload, 1) := by decide +kernel
theorem d_Sh_joinRails_93 : decode b_Sh_joinRails 93 = .ok (.invokevirtual 63, 3) := by decide +kernel
theorem d_Sh_joinRails_96 : decode b_Sh_joinRails 96 = .ok (.iinc 2 (-1), 3) := by decide +kernel
theorem d_Sh_joinRails_99 : decode b_Sh_joinRails 99 = .ok (.goto (-33), 3) := by decide +kernel
theorem d_Sh_joinRails_102 : decode b_Sh_joinRails 102 = .ok (.return_, 1) := by decide +kernel
set_option maxHeartbeats 4000000 in
set_option maxRecDepth 100000 in
theorem c_Sh_joinRails (F : Nat → Nat → Int) (G : Nat → Int → Int) (k : Nat) (hK : isSh k) (h0 : F (k + 3) 2 = 0) (hn0 : 0 ≤ F (k + 15) 2 ∧ F (k + 15) 2 ≤ 16) (hn1 : 0 ≤ F (k + 18) 2 ∧ F (k + 18) 2 ≤ 16) : cV y_Sh_joinRails b_Sh_joinRails 3 none 1 22 F G (fun ad => [.ref (ad k)]) (fun F' G' => F' = fU F (k + 3) 2 (F (k + 15) 2 + F (k + 18) 2) ∧ jnd G G' k (F (k + 15) 2) (F (k + 18) 2) (F (k + 15) 2) (F (k + 18) 2)) := by
  have r3 : isRg (k + 3) := rg_of (q := 0) hK (by decide)
  have r15 : isRg (k + 15) := rg_of (q := 4) hK (by decide)
  have r18 : isRg (k + 18) := rg_of (q := 5) hK (by decide)
  have x15 : isA (k + 15 + 1) 16 := a_rg r15 (Or.inl rfl) (rmB hK).symm
  have y15 : isA (k + 15 + 2) 16 := a_rg r15 (Or.inr rfl) (rmB hK).symm
  have x18 : isA (k + 18 + 1) 16 := a_rg r18 (Or.inl rfl) (rmC hK).symm
  have y18 : isA (k + 18 + 2) 16 := a_rg r18 (Or.inr rfl) (rmC hK).symm
  intro s0 a0 D t ad
  refine g_startV (by decide +kernel) (Nat.le_of_ble_eq_true rfl) (fun p l e R s m args below meth c A ok => ?_)
  show gW p l e R s m args below meth c _ D A 3 (gZ0 s) 0 0 ad 265 (mem ad t F G) 0 [(0, .ref (ad k))] []
  refine g_aload_n ok d_Sh_joinRails_0 rfl 0 rfl ?_
  refine gI_Sh_rings ok _ hK k_83 d_Sh_joinRails_1 ?_
  refine g_iconst ok d_Sh_joinRails_4 ?_
  refine h_rings ok _ hK (by omega) d_Sh_joinRails_5 ?_
  refine g_astore_n (lv' := [(1, .ref (ad (k + 3))), (0, .ref (ad k))]) ok d_Sh_joinRails_6 rfl (by decide) rfl ?_
  refine g_iconst ok d_Sh_joinRails_7 ?_
  refine g_istore_n (lv' := [(2, .int (iI 0)), (1, .ref (ad (k + 3))), (0, .ref (ad k))]) ok d_Sh_joinRails_8 rfl (by decide) rfl ?_
  have L_i : ∀ (n_i : Nat) (i : Int) (E : Int) (G1 : Nat → Int → Int), (0 ≤ i ∧ i ≤ F (k + 15) 2) → (E = i) → (jnd G G1 k (F (k + 15) 2) (F (k + 18) 2) i 0) → (F (k + 15) 2 + 1 - i) < (n_i : Int) → gW p l e R s m args below meth c (MQ below (gQv D A ad 265 (fun ce' => ∃ F' G', ce' = mem ad t F' G' ∧ (fun F' G' => F' = fU F (k + 3) 2 (F (k + 15) 2 + F (k + 18) 2) ∧ jnd G G' k (F (k + 15) 2) (F (k + 18) 2) (F (k + 15) 2) (F (k + 18) 2)) F' G')) args s 0 0 A) D A 3 (gZ) 0 0 ad 265 (mem ad t (fU F (k + 3) 2 E) G1) 9 [(0, .ref (ad k)), (1, .ref (ad (k + 3))), (2, .int (iI i))] [] := by
    intro n_i
    induction n_i with
    | zero =>
      intro i E G1 hi hE hG hm_i
      exact absurd hm_i (by omega)
    | succ n_i ih_i =>
      intro i E G1 hi hE hG hm_i
      refine g_iload_n ok d_Sh_joinRails_9 rfl 2 rfl ?_
      refine g_aload_n ok d_Sh_joinRails_10 rfl 0 rfl ?_
      refine gI_Sh_rails ok _ hK k_88 d_Sh_joinRails_11 ?_
      refine g_iconst ok d_Sh_joinRails_14 ?_
      refine h_rails ok _ hK (by omega) d_Sh_joinRails_15 ?_
      refine gN_Rg_size ok _ r15 k_58 d_Sh_joinRails_16 ?_
      refine g_top (y := F (k + 15) 2) (by show (fU F (k + 3) 2 E) (k + 15) 2 = _; rw [fU_ka (show k + 15 ≠ k + 3 by omega)]) ?_
      refine g_icmp_ge ok 54 d_Sh_joinRails_19 (by decide) (by omega) (by omega) (fun h1 => ?_) (fun h1 => ?_)
      · refine g_aload_n ok d_Sh_joinRails_54 rfl 0 rfl ?_
        refine gI_Sh_rails ok _ hK k_88 d_Sh_joinRails_55 ?_
        refine g_iconst ok d_Sh_joinRails_58 ?_
        refine h_rails ok _ hK (by omega) d_Sh_joinRails_59 ?_
        refine gN_Rg_size ok _ r18 k_58 d_Sh_joinRails_60 ?_
        refine g_top (y := F (k + 18) 2) (by show (fU F (k + 3) 2 E) (k + 18) 2 = _; rw [fU_ka (show k + 18 ≠ k + 3 by omega)]) ?_
        refine g_iconst ok d_Sh_joinRails_63 ?_
        refine g_isub ok d_Sh_joinRails_64 ?_
        refine g_istore_n (lv' := [(2, .int (iI ((F (k + 18) 2) - 1))), (0, .ref (ad k)), (1, .ref (ad (k + 3)))]) ok d_Sh_joinRails_65 rfl (by decide) rfl ?_
        have L_j : ∀ (n_j : Nat) (j : Int) (E : Int) (G1 : Nat → Int → Int), (-1 ≤ j ∧ j < F (k + 18) 2) → (E = F (k + 15) 2 + (F (k + 18) 2 - 1 - j)) → (jnd G G1 k (F (k + 15) 2) (F (k + 18) 2) (F (k + 15) 2) (F (k + 18) 2 - 1 - j)) → (j + 2) < (n_j : Int) → gW p l e R s m args below meth c (MQ below (gQv D A ad 265 (fun ce' => ∃ F' G', ce' = mem ad t F' G' ∧ (fun F' G' => F' = fU F (k + 3) 2 (F (k + 15) 2 + F (k + 18) 2) ∧ jnd G G' k (F (k + 15) 2) (F (k + 18) 2) (F (k + 15) 2) (F (k + 18) 2)) F' G')) args s 0 0 A) D A 3 (gZ) 0 0 ad 265 (mem ad t (fU F (k + 3) 2 E) G1) 66 [(0, .ref (ad k)), (1, .ref (ad (k + 3))), (2, .int (iI j))] [] := by
          intro n_j
          induction n_j with
          | zero =>
            intro j E G1 hi hE hG hm_j
            exact absurd hm_j (by omega)
          | succ n_j ih_j =>
            intro j E G1 hi hE hG hm_j
            refine g_iload_n ok d_Sh_joinRails_66 rfl 2 rfl ?_
            refine g_if_lt ok 102 d_Sh_joinRails_67 (by decide) (by omega) (fun h2 => ?_) (fun h2 => ?_)
            · exact g_vret ok d_Sh_joinRails_102 ⟨_, _, rfl, by rw [show E = F (k + 15) 2 + F (k + 18) 2 by omega], by rw [show F (k + 18) 2 - 1 - j = F (k + 18) 2 by omega] at hG; exact hG⟩
            · refine g_aload_n ok d_Sh_joinRails_70 rfl 1 rfl ?_
              refine g_aload_n ok d_Sh_joinRails_71 rfl 0 rfl ?_
              refine gI_Sh_rails ok _ hK k_88 d_Sh_joinRails_72 ?_
              refine g_iconst ok d_Sh_joinRails_75 ?_
              refine h_rails ok _ hK (by omega) d_Sh_joinRails_76 ?_
              refine gN_Rg_xs ok _ r18 k_46 d_Sh_joinRails_77 ?_
              refine g_iload_n ok d_Sh_joinRails_80 rfl 2 rfl ?_
              refine h_iald ok _ x18 (by omega) d_Sh_joinRails_81 ?_
              refine g_aload_n ok d_Sh_joinRails_82 rfl 0 rfl ?_
              refine gI_Sh_rails ok _ hK k_88 d_Sh_joinRails_83 ?_
              refine g_iconst ok d_Sh_joinRails_86 ?_
              refine h_rails ok _ hK (by omega) d_Sh_joinRails_87 ?_
              refine gN_Rg_ys ok _ r18 k_51 d_Sh_joinRails_88 ?_
              refine g_iload_n ok d_Sh_joinRails_91 rfl 2 rfl ?_
              refine h_iald ok _ y18 (by omega) d_Sh_joinRails_92 ?_
              refine g_callVVN (As := [.int (iI (G1 ((k + 18) + 1) j)), .int (iI (G1 ((k + 18) + 2) j))]) (st := []) ok _ (c_Rg_add (fU F (k + 3) 2 E) G1 _ 32 _ _ r3 (rmA hK).symm (by rw [fU_self]; omega) s0 a0 D t ad) k_795 k_3 k_884 cl_Rg (m_Rg (ad := ad) (t := t) (F := (fU F (k + 3) 2 E)) (G := G1) r3).1 (m_Rg r3).2 k_794 s_Rg_add q_Rg_add (by decide) (Nat.le_of_ble_eq_true rfl) (by decide) d_Sh_joinRails_93 (fun ce1 hc3 => ?_)
              obtain ⟨F1, G1, rfl, rfl, rfl⟩ := hc3
              rw [fU_self, fU_fU]
              refine g_iinc (lv' := [(2, .int (iI (j + (-1)))), (0, .ref (ad k)), (1, .ref (ad (k + 3)))]) ok d_Sh_joinRails_96 2 rfl (by decide) rfl ?_
              refine g_goto ok 66 d_Sh_joinRails_99 (by decide) ?_
              refine g_lv [1, 2, 0] rfl ?_
              exact ih_j (j + (-1)) (E + 1) (gU (gU G1 (k + 4) E (G1 ((k + 18) + 1) j)) (k + 5) E (G1 ((k + 18) + 2) j)) (by omega) (by omega) (by have h := jnd_b (x := G1 (k + 18 + 1) j) (y := G1 (k + 18 + 2) j) (by omega) hE hG (by rw [hG.1 _ (by omega) (by omega)]; congr 1; omega) (by rw [hG.1 _ (by omega) (by omega)]; congr 1; omega); rw [show F (k + 18) 2 - 1 - (j + (-1)) = F (k + 18) 2 - 1 - j + 1 by omega]; exact h) (by omega)
        refine g_z ?_
        refine g_lv [1, 2, 0] rfl ?_
        exact L_j ((((F (k + 18) 2) - 1) + 2 : Int).toNat + 1) ((F (k + 18) 2) - 1) E G1 (by omega) (by omega) (by rw [show i = F (k + 15) 2 by omega] at hG; rw [show F (k + 18) 2 - 1 - (F (k + 18) 2 - 1) = 0 by omega]; exact hG) (by omega)
      · refine g_aload_n ok d_Sh_joinRails_22 rfl 1 rfl ?_
        refine g_aload_n ok d_Sh_joinRails_23 rfl 0 rfl ?_
        refine gI_Sh_rails ok _ hK k_88 d_Sh_joinRails_24 ?_
        refine g_iconst ok d_Sh_joinRails_27 ?_
        refine h_rails ok _ hK (by omega) d_Sh_joinRails_28 ?_
        refine gN_Rg_xs ok _ r15 k_46 d_Sh_joinRails_29 ?_
        refine g_iload_n ok d_Sh_joinRails_32 rfl 2 rfl ?_
        refine h_iald ok _ x15 (by omega) d_Sh_joinRails_33 ?_
        refine g_aload_n ok d_Sh_joinRails_34 rfl 0 rfl ?_
        refine gI_Sh_rails ok _ hK k_88 d_Sh_joinRails_35 ?_
        refine g_iconst ok d_Sh_joinRails_38 ?_
        refine h_rails ok _ hK (by omega) d_Sh_joinRails_39 ?_
        refine gN_Rg_ys ok _ r15 k_51 d_Sh_joinRails_40 ?_
        refine g_iload_n ok d_Sh_joinRails_43 rfl 2 rfl ?_
        refine h_iald ok _ y15 (by omega) d_Sh_joinRails_44 ?_
        refine g_callVVN (As := [.int (iI (G1 ((k + 15) + 1) i)), .int (iI (G1 ((k + 15) + 2) i))]) (st := []) ok _ (c_Rg_add (fU F (k + 3) 2 E) G1 _ 32 _ _ r3 (rmA hK).symm (by rw [fU_self]; omega) s0 a0 D t ad) k_795 k_3 k_884 cl_Rg (m_Rg (ad := ad) (t := t) (F := (fU F (k + 3) 2 E)) (G := G1) r3).1 (m_Rg r3).2 k_794 s_Rg_add q_Rg_add (by decide) (Nat.le_of_ble_eq_true rfl) (by decide) d_Sh_joinRails_45 (fun ce1 hc4 => ?_)
        obtain ⟨F1, G1, rfl, rfl, rfl⟩ := hc4
        rw [fU_self, fU_fU]
        refine g_iinc (lv' := [(2, .int (iI (i + 1))), (0, .ref (ad k)), (1, .ref (ad (k + 3)))]) ok d_Sh_joinRails_48 2 rfl (by decide) rfl ?_
        refine g_goto ok 9 d_Sh_joinRails_51 (by decide) ?_
        refine g_lv [1, 2, 0] rfl ?_
        exact ih_i (i + 1) (E + 1) (gU (gU G1 (k + 4) E (G1 ((k + 15) + 1) i)) (k + 5) E (G1 ((k + 15) + 2) i)) (by omega) (by omega) (by subst hE; exact jnd_a hG (by rw [hG.1 _ (by omega) (by omega)]) (by rw [hG.1 _ (by omega) (by omega)])) (by omega)
  refine g_z ?_
  refine g_lv [2, 1, 0] rfl ?_
  rw [show mem ad t F G = mem ad t (fU F (k + 3) 2 0) G by rw [fU_id h0]]
  exact L_i ((F (k + 15) 2 + 1 - 0 : Int).toNat + 1) 0 0 G (by omega) (by omega) (jnd_0 _ _ _ _) (by omega)
