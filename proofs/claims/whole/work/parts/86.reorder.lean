/-! the reference's reorder -/
def plM (G G1 : Nat → Int → Int) (ks : List Nat) : Prop := ∀ (i : Nat) (k : Nat), ks[i]? = some k → G1 263 (i : Int) = G 250 (k : Int)
theorem plM_add {G G1 : Nat → Int → Int} {ks : List Nat} {k : Nat} {m v : Int} (h : plM G G1 ks) (hm : m = (ks.length : Int)) (hv : v = G 250 (k : Int)) : plM G (gU G1 263 m v) (ks ++ [k]) := by
  intro i j hi
  rcases Nat.lt_trichotomy i ks.length with c | c | c
  · rw [List.getElem?_append_left c] at hi
    rw [gU_i (by omega)]
    exact h i j hi
  · subst c
    rw [List.getElem?_concat_length] at hi
    have e := Option.some.inj hi
    subst e
    rw [← hm, gU_hit, hv]
  · rw [List.getElem?_append_right (by omega)] at hi
    have : ([k] : List Nat)[i - ks.length]? = none := List.getElem?_eq_none (by simp; omega)
    rw [this] at hi
    exact absurd hi (by simp)
theorem d_Mo_reorder_0 : decode b_Mo_reorder 0 = .ok (.aload_n 0, 1) := by decide +kernel
theorem d_Mo_reorder_1 : decode b_Mo_reorder 1 = .ok (.iconst 0, 1) := by decide +kernel
theorem d_Mo_reorder_2 : decode b_Mo_reorder 2 = .ok (.putfield 7, 3) := by decide +kernel
theorem d_Mo_reorder_5 : decode b_Mo_reorder 5 = .ok (.aload_n 0, 1) := by decide +kernel
theorem d_Mo_reorder_6 : decode b_Mo_reorder 6 = .ok (.getfield 13, 3) := by decide +kernel
theorem d_Mo_reorder_9 : decode b_Mo_reorder 9 = .ok (.ifCond .ne 5, 3) := by decide +kernel
theorem d_Mo_reorder_12 : decode b_Mo_reorder 12 = .ok (.iconst 0, 1) := by decide +kernel
theorem d_Mo_reorder_13 : decode b_Mo_reorder 13 = .ok (.ireturn, 1) := by decide +kernel
theorem d_Mo_reorder_14 : decode b_Mo_reorder 14 = .ok (.aload_n 0, 1) := by decide +kernel
theorem d_Mo_reorder_15 : decode b_Mo_reorder 15 = .ok (.invokevirtual 243, 3) := by decide +kernel
theorem d_Mo_reorder_18 : decode b_Mo_reorder 18 = .ok (.iconst 0, 1) := by decide +kernel
theorem d_Mo_reorder_19 : decode b_Mo_reorder 19 = .ok (.istore_n 1, 1) := by decide +kernel
theorem d_Mo_reorder_20 : decode b_Mo_reorder 20 = .ok (.bipush 8, 2) := by decide +kernel
theorem d_Mo_reorder_22 : decode b_Mo_reorder 22 = .ok (.istore_n 2, 1) := by decide +kernel
theorem d_Mo_reorder_23 : decode b_Mo_reorder 23 = .ok (.aload_n 0, 1) := by decide +kernel
theorem d_Mo_reorder_24 : decode b_Mo_reorder 24 = .ok (.getfield 109, 3) := by decide +kernel
theorem d_Mo_reorder_27 : decode b_Mo_reorder 27 = .ok (.bipush 8, 2) := by decide +kernel
theorem d_Mo_reorder_29 : decode b_Mo_reorder 29 = .ok (.iaload, 1) := by decide +kernel
theorem d_Mo_reorder_30 : decode b_Mo_reorder 30 = .ok (.istore_n 3, 1) := by decide +kernel
theorem d_Mo_reorder_31 : decode b_Mo_reorder 31 = .ok (.iconst 0, 1) := by decide +kernel
theorem d_Mo_reorder_32 : decode b_Mo_reorder 32 = .ok (.istore 4, 2) := by decide +kernel
theorem d_Mo_reorder_34 : decode b_Mo_reorder 34 = .ok (.iload 4, 2) := by decide +kernel
theorem d_Mo_reorder_36 : decode b_Mo_reorder 36 = .ok (.aload_n 0, 1) := by decide +kernel
theorem d_Mo_reorder_37 : decode b_Mo_reorder 37 = .ok (.getfield 13, 3) := by decide +kernel
theorem d_Mo_reorder_40 : decode b_Mo_reorder 40 = .ok (.if_icmp .ge 86, 3) := by decide +kernel
theorem d_Mo_reorder_43 : decode b_Mo_reorder 43 = .ok (.iconst 0, 1) := by decide +kernel
theorem d_Mo_reorder_44 : decode b_Mo_reorder 44 = .ok (.istore 5, 2) := by decide +kernel
theorem d_Mo_reorder_46 : decode b_Mo_reorder 46 = .ok (.aload_n 0, 1) := by decide +kernel
theorem d_Mo_reorder_47 : decode b_Mo_reorder 47 = .ok (.iload 5, 2) := by decide +kernel
theorem d_Mo_reorder_49 : decode b_Mo_reorder 49 = .ok (.iload_n 1, 1) := by decide +kernel
theorem d_Mo_reorder_50 : decode b_Mo_reorder 50 = .ok (.invokevirtual 217, 3) := by decide +kernel
theorem d_Mo_reorder_53 : decode b_Mo_reorder 53 = .ok (.ifCond .eq 25, 3) := by decide +kernel
theorem d_Mo_reorder_56 : decode b_Mo_reorder 56 = .ok (.aload_n 0, 1) := by decide +kernel
theorem d_Mo_reorder_57 : decode b_Mo_reorder 57 = .ok (.iload 5, 2) := by decide +kernel
theorem d_Mo_reorder_59 : decode b_Mo_reorder 59 = .ok (.iload_n 1, 1) := by decide +kernel
theorem d_Mo_reorder_60 : decode b_Mo_reorder 60 = .ok (.iload_n 2, 1) := by decide +kernel
theorem d_Mo_reorder_61 : decode b_Mo_reorder 61 = .ok (.invokevirtual 220, 3) := by decide +kernel
theorem d_Mo_reorder_64 : decode b_Mo_reorder 64 = .ok (.aload_n 0, 1) := by decide +kernel
theorem d_Mo_reorder_65 : decode b_Mo_reorder 65 = .ok (.getfield 109, 3) := by decide +kernel
theorem d_Mo_reorder_68 : decode b_Mo_reorder 68 = .ok (.bipush 9, 2) := by decide +kernel
theorem d_Mo_reorder_70 : decode b_Mo_reorder 70 = .ok (.iload_n 1, 1) := by decide +kernel
theorem d_Mo_reorder_71 : decode b_Mo_reorder 71 = .ok (.imul, 1) := by decide +kernel
theorem d_Mo_reorder_72 : decode b_Mo_reorder 72 = .ok (.iload_n 2, 1) := by decide +kernel
theorem d_Mo_reorder_73 : decode b_Mo_reorder 73 = .ok (.iadd, 1) := by decide +kernel
theorem d_Mo_reorder_74 : decode b_Mo_reorder 74 = .ok (.iaload, 1) := by decide +kernel
theorem d_Mo_reorder_75 : decode b_Mo_reorder 75 = .ok (.if_icmp .eq 9, 3) := by decide +kernel
theorem d_Mo_reorder_78 : decode b_Mo_reorder 78 = .ok (.iinc 5 1, 3) := by decide +kernel
theorem d_Mo_reorder_81 : decode b_Mo_reorder 81 = .ok (.goto (-35), 3) := by decide +kernel
theorem d_Mo_reorder_84 : decode b_Mo_reorder 84 = .ok (.aload_n 0, 1) := by decide +kernel
theorem d_Mo_reorder_85 : decode b_Mo_reorder 85 = .ok (.getfield 112, 3) := by decide +kernel
theorem d_Mo_reorder_88 : decode b_Mo_reorder 88 = .ok (.iload 4, 2) := by decide +kernel
theorem d_Mo_reorder_90 : decode b_Mo_reorder 90 = .ok (.aload_n 0, 1) := by decide +kernel
theorem d_Mo_reorder_91 : decode b_Mo_reorder 91 = .ok (.getfield 36, 3) := by decide +kernel
theorem d_Mo_reorder_94 : decode b_Mo_reorder 94 = .ok (.iload 5, 2) := by decide +kernel
theorem d_Mo_reorder_96 : decode b_Mo_reorder 96 = .ok (.iaload, 1) := by decide +kernel
theorem d_Mo_reorder_97 : decode b_Mo_reorder 97 = .ok (.iastore, 1) := by decide +kernel
theorem d_Mo_reorder_98 : decode b_Mo_reorder 98 = .ok (.aload_n 0, 1) := by decide +kernel
theorem d_Mo_reorder_99 : decode b_Mo_reorder 99 = .ok (.getfield 20, 3) := by decide +kernel
theorem d_Mo_reorder_102 : decode b_Mo_reorder 102 = .ok (.iconst 4, 1) := by decide +kernel
theorem d_Mo_reorder_103 : decode b_Mo_reorder 103 = .ok (.aload_n 0, 1) := by decide +kernel
theorem d_Mo_reorder_104 : decode b_Mo_reorder 104 = .ok (.getfield 36, 3) := by decide +kernel
theorem d_Mo_reorder_107 : decode b_Mo_reorder 107 = .ok (.iload 5, 2) := by decide +kernel
theorem d_Mo_reorder_109 : decode b_Mo_reorder 109 = .ok (.iaload, 1) := by decide +kernel
theorem d_Mo_reorder_110 : decode b_Mo_reorder 110 = .ok (.imul, 1) := by decide +kernel
theorem d_Mo_reorder_111 : decode b_Mo_reorder 111 = .ok (.iaload, 1) := by decide +kernel
theorem d_Mo_reorder_112 : decode b_Mo_reorder 112 = .ok (.istore_n 2, 1) := by decide +kernel
theorem d_Mo_reorder_113 : decode b_Mo_reorder 113 = .ok (.iload_n 1, 1) := by decide +kernel
theorem d_Mo_reorder_114 : decode b_Mo_reorder 114 = .ok (.iconst 1, 1) := by decide +kernel
theorem d_Mo_reorder_115 : decode b_Mo_reorder 115 = .ok (.iload 5, 2) := by decide +kernel
theorem d_Mo_reorder_117 : decode b_Mo_reorder 117 = .ok (.ishl, 1) := by decide +kernel
theorem d_Mo_reorder_118 : decode b_Mo_reorder 118 = .ok (.ior, 1) := by decide +kernel
theorem d_Mo_reorder_119 : decode b_Mo_reorder 119 = .ok (.istore_n 1, 1) := by decide +kernel
theorem d_Mo_reorder_120 : decode b_Mo_reorder 120 = .ok (.iinc 4 1, 3) := by decide +kernel
theorem d_Mo_reorder_123 : decode b_Mo_reorder 123 = .ok (.goto (-89), 3) := by decide +kernel
theorem d_Mo_reorder_126 : decode b_Mo_reorder 126 = .ok (.iconst 0, 1) := by decide +kernel
theorem d_Mo_reorder_127 : decode b_Mo_reorder 127 = .ok (.istore 4, 2) := by decide +kernel
theorem d_Mo_reorder_129 : decode b_Mo_reorder 129 = .ok (.iload 4, 2) := by decide +kernel
theorem d_Mo_reorder_131 : decode b_Mo_reorder 131 = .ok (.aload_n 0, 1) := by decide +kernel
theorem d_Mo_reorder_132 : decode b_Mo_reorder 132 = .ok (.getfield 13, 3) := by decide +kernel
theorem d_Mo_reorder_135 : decode b_Mo_reorder 135 = .ok (.if_icmp .ge 23, 3) := by decide +kernel
theorem d_Mo_reorder_138 : decode b_Mo_reorder 138 = .ok (.aload_n 0, 1) := by decide +kernel
theorem d_Mo_reorder_139 : decode b_Mo_reorder 139 = .ok (.getfield 36, 3) := by decide +kernel
theorem d_Mo_reorder_142 : decode b_Mo_reorder 142 = .ok (.iload 4, 2) := by decide +kernel
theorem d_Mo_reorder_144 : decode b_Mo_reorder 144 = .ok (.aload_n 0, 1) := by decide +kernel
theorem d_Mo_reorder_145 : decode b_Mo_reorder 145 = .ok (.getfield 112, 3) := by decide +kernel
theorem d_Mo_reorder_148 : decode b_Mo_reorder 148 = .ok (.iload 4, 2) := by decide +kernel
theorem d_Mo_reorder_150 : decode b_Mo_reorder 150 = .ok (.iaload, 1) := by decide +kernel
theorem d_Mo_reorder_151 : decode b_Mo_reorder 151 = .ok (.iastore, 1) := by decide +kernel
theorem d_Mo_reorder_152 : decode b_Mo_reorder 152 = .ok (.iinc 4 1, 3) := by decide +kernel
theorem d_Mo_reorder_155 : decode b_Mo_reorder 155 = .ok (.goto (-26), 3) := by decide +kernel
theorem d_Mo_reorder_158 : decode b_Mo_reorder 158 = .ok (.iload_n 3, 1) := by decide +kernel
theorem d_Mo_reorder_159 : decode b_Mo_reorder 159 = .ok (.ireturn, 1) := by decide +kernel
set_option maxHeartbeats 1000000 in
set_option maxRecDepth 100000 in
theorem c_Mo_reorder (F : Nat → Nat → Int) (G : Nat → Int → Int) (hn : 0 ≤ F 244 1 ∧ F 244 1 ≤ 10) (hs : sqM G (F 244 1)) : cI y_Mo_reorder b_Mo_reorder 6 (some .int) 3 70 F G (fun ad => [.ref (ad 244)]) (fun z F' G' => F' = (fU F 244 0 0) ∧ ((F 244 1 = 0 ∧ z = 0 ∧ G' = G) ∨ (0 < F 244 1 ∧ (∀ a, a ≠ 250 → a ≠ 262 → a ≠ 263 → G' a = G a) ∧ (∀ i : Int, ¬ (0 ≤ i ∧ i < F 244 1) → G' 250 i = G 250 i) ∧ ∃ lf ks, (∀ T : Int, 0 ≤ T → T ≤ 2 ^ (F 244 1).toNat - 1 → lfS (F 244 1).toNat (prM G) (clM G) lf T) ∧ (ks.length : Int) = F 244 1 ∧ chn (F 244 1).toNat (prM G) (clM G) lf 0 8 ks ∧ z = lf 0 8 ∧ ∀ (i : Nat) (k : Nat), ks[i]? = some k → G' 250 (i : Int) = G 250 (k : Int)))) := by
  have hpp := pw_pos (F 244 1).toNat
  have hple := pw_le (k := (F 244 1).toNat) (by omega)
  have hn10 : (F 244 1).toNat ≤ 10 := by omega
  have hcol : ∀ k, k < (F 244 1).toNat → 0 ≤ clM G k ∧ clM G k < 8 := fun k hk => by have y := (hs (k : Int) (by omega) (by omega)).2.2; unfold clM; omega
  intro s0 a0 D t ad
  refine g_startI (by decide +kernel) (Nat.le_of_ble_eq_true rfl) (fun p l e R s m args below meth c A ok => ?_)
  show gW p l e R s m args below meth c _ D A 6 (gZ0 s) 0 0 ad 265 (mem ad t F G) 0 [(0, .ref (ad 244))] []
  refine g_aload_n ok d_Mo_reorder_0 rfl 0 rfl ?_
  refine g_iconst ok d_Mo_reorder_1 ?_
  refine pI_Mo_thrownCode ok _ rfl k_989 d_Mo_reorder_2 ?_
  refine g_aload_n ok d_Mo_reorder_5 rfl 0 rfl ?_
  refine gI_Mo_shapes ok _ rfl k_990 d_Mo_reorder_6 ?_
  refine g_top (y := F 244 1) (by show (fU F 244 0 0) 244 1 = _; rw [fU_ja (show (1 : Nat) ≠ 0 by decide)]) ?_
  refine g_if_ne ok 14 d_Mo_reorder_9 (by decide) (by omega) (fun h1 => ?_) (fun h1 => ?_)
  · refine g_aload_n ok d_Mo_reorder_14 rfl 0 rfl ?_
    refine g_callVV (As := []) (st := []) ok _ (c_Mo_findLeft (fU F 244 0 0) G (by rw [fU_ja (by decide)]; exact hn) (by rw [fU_ja (by decide)]; exact hs) s0 a0 D t ad) k_1282 k_11 k_1279 cl_Mo (m_Mo (ad := ad) (t := t) (F := (fU F 244 0 0)) (G := G) rfl).1 (m_Mo rfl).2 k_1281 s_Mo_findLeft q_Mo_findLeft (by decide) (Nat.le_of_ble_eq_true rfl) (by decide) d_Mo_reorder_15 (fun ce1 hc2 => ?_)
    obtain ⟨Fx, G1, rfl, hFx, hg1, hT1⟩ := hc2
    rw [hFx]
    rw [fU_ja (by decide)] at hT1
    refine g_iconst ok d_Mo_reorder_18 ?_
    refine g_istore_n (lv' := [(1, .int (iI 0)), (0, .ref (ad 244))]) ok d_Mo_reorder_19 rfl (by decide) rfl ?_
    refine g_bipush ok (by decide) d_Mo_reorder_20 ?_
    refine g_istore_n (lv' := [(2, .int (iI 8)), (1, .int (iI 0)), (0, .ref (ad 244))]) ok d_Mo_reorder_22 rfl (by decide) rfl ?_
    refine g_aload_n ok d_Mo_reorder_23 rfl 2 rfl ?_
    refine gI_Mo_left ok _ rfl k_1021 d_Mo_reorder_24 ?_
    refine g_bipush ok (by decide) d_Mo_reorder_27 ?_
    refine h_iald ok _ a_262 (by omega) d_Mo_reorder_29 ?_
    refine g_top (y := lfM G1 0 8) rfl ?_
    refine g_istore_n (lv' := [(3, .int (iI (lfM G1 0 8))), (2, .int (iI 8)), (1, .int (iI 0)), (0, .ref (ad 244))]) ok d_Mo_reorder_30 rfl (by decide) rfl ?_
    refine g_iconst ok d_Mo_reorder_31 ?_
    refine g_istore (lv' := [(4, .int (iI 0)), (3, .int (iI (lfM G1 0 8))), (2, .int (iI 8)), (1, .int (iI 0)), (0, .ref (ad 244))]) ok d_Mo_reorder_32 (by decide) rfl ?_
    have L_i : ∀ (n_i : Nat) (i : Int) (sv : Int) (cc0 : Int) (G2 : Nat → Int → Int) (ks : List Nat), (0 ≤ i ∧ i ≤ F 244 1) → ((ks.length : Int) = i) → (sv = chS' 0 ks) → (0 ≤ sv ∧ sv ≤ 2 ^ (F 244 1).toNat - 1) → (pop sv (F 244 1).toNat = i) → (0 ≤ cc0 ∧ cc0 ≤ 8) → (cc0 = chC (clM G) 8 ks) → (chn (F 244 1).toNat (prM G) (clM G) (lfM G1) 0 8 ks) → (plM G G2 ks) → (∀ a, a ≠ 263 → G2 a = G1 a) → (F 244 1 + 1 - i) < (n_i : Int) → gW p l e R s m args below meth c (MQ below (gQi D A ad 265 (fun z ce' => ∃ F' G', ce' = mem ad t F' G' ∧ (fun z F' G' => F' = (fU F 244 0 0) ∧ ((F 244 1 = 0 ∧ z = 0 ∧ G' = G) ∨ (0 < F 244 1 ∧ (∀ a, a ≠ 250 → a ≠ 262 → a ≠ 263 → G' a = G a) ∧ (∀ i : Int, ¬ (0 ≤ i ∧ i < F 244 1) → G' 250 i = G 250 i) ∧ ∃ lf ks, (∀ T : Int, 0 ≤ T → T ≤ 2 ^ (F 244 1).toNat - 1 → lfS (F 244 1).toNat (prM G) (clM G) lf T) ∧ (ks.length : Int) = F 244 1 ∧ chn (F 244 1).toNat (prM G) (clM G) lf 0 8 ks ∧ z = lf 0 8 ∧ ∀ (i : Nat) (k : Nat), ks[i]? = some k → G' 250 (i : Int) = G 250 (k : Int)))) z F' G')) args s 0 0 A) D A 6 (gZ) 0 0 ad 265 (mem ad t (fU F 244 0 0) G2) 34 [(0, .ref (ad 244)), (1, .int (iI sv)), (2, .int (iI cc0)), (3, .int (iI (lfM G1 0 8))), (4, .int (iI i))] [] := by
      intro n_i
      induction n_i with
      | zero =>
        intro i sv cc0 G2 ks hi hlen hdn hdr hpop hcr0 hcc hch hpm hg2 hm_i
        exact absurd hm_i (by omega)
      | succ n_i ih_i =>
        intro i sv cc0 G2 ks hi hlen hdn hdr hpop hcr0 hcc hch hpm hg2 hm_i
        have hgg : ∀ a, a ≠ 262 → a ≠ 263 → G2 a = G a := fun a z1 z2 => (hg2 a z2).trans (hg1 a z1)
        refine g_iload ok d_Mo_reorder_34 4 rfl ?_
        refine g_aload_n ok d_Mo_reorder_36 rfl 0 rfl ?_
        refine gI_Mo_shapes ok _ rfl k_990 d_Mo_reorder_37 ?_
        refine g_top (y := F 244 1) (by show (fU F 244 0 0) 244 1 = _; rw [fU_ja (show (1 : Nat) ≠ 0 by decide)]) ?_
        refine g_icmp_ge ok 126 d_Mo_reorder_40 (by decide) (by omega) (by omega) (fun h3 => ?_) (fun h3 => ?_)
        · have hie : i = F 244 1 := by omega
          refine g_iconst ok d_Mo_reorder_126 ?_
          refine g_istore (lv' := [(4, .int (iI 0)), (0, .ref (ad 244)), (1, .int (iI sv)), (2, .int (iI cc0)), (3, .int (iI (lfM G1 0 8)))]) ok d_Mo_reorder_127 (by decide) rfl ?_
          have L_j : ∀ (n_j : Nat) (j : Int) (G3 : Nat → Int → Int), (0 ≤ j ∧ j ≤ F 244 1) → ((∀ a, a ≠ 250 → G3 a = G2 a) ∧ (∀ e : Int, 0 ≤ e → e < j → G3 250 e = G2 263 e) ∧ ∀ e : Int, ¬ (0 ≤ e ∧ e < j) → G3 250 e = G2 250 e) → (F 244 1 + 1 - j) < (n_j : Int) → gW p l e R s m args below meth c (MQ below (gQi D A ad 265 (fun z ce' => ∃ F' G', ce' = mem ad t F' G' ∧ (fun z F' G' => F' = (fU F 244 0 0) ∧ ((F 244 1 = 0 ∧ z = 0 ∧ G' = G) ∨ (0 < F 244 1 ∧ (∀ a, a ≠ 250 → a ≠ 262 → a ≠ 263 → G' a = G a) ∧ (∀ i : Int, ¬ (0 ≤ i ∧ i < F 244 1) → G' 250 i = G 250 i) ∧ ∃ lf ks, (∀ T : Int, 0 ≤ T → T ≤ 2 ^ (F 244 1).toNat - 1 → lfS (F 244 1).toNat (prM G) (clM G) lf T) ∧ (ks.length : Int) = F 244 1 ∧ chn (F 244 1).toNat (prM G) (clM G) lf 0 8 ks ∧ z = lf 0 8 ∧ ∀ (i : Nat) (k : Nat), ks[i]? = some k → G' 250 (i : Int) = G 250 (k : Int)))) z F' G')) args s 0 0 A) D A 6 (gZ) 0 0 ad 265 (mem ad t (fU F 244 0 0) G3) 129 [(0, .ref (ad 244)), (1, .int (iI sv)), (2, .int (iI cc0)), (3, .int (iI (lfM G1 0 8))), (4, .int (iI j))] [] := by
            intro n_j
            induction n_j with
            | zero =>
              intro j G3 hj hG3 hm_j
              exact absurd hm_j (by omega)
            | succ n_j ih_j =>
              intro j G3 hj hG3 hm_j
              refine g_iload ok d_Mo_reorder_129 4 rfl ?_
              refine g_aload_n ok d_Mo_reorder_131 rfl 0 rfl ?_
              refine gI_Mo_shapes ok _ rfl k_990 d_Mo_reorder_132 ?_
              refine g_top (y := F 244 1) (by show (fU F 244 0 0) 244 1 = _; rw [fU_ja (show (1 : Nat) ≠ 0 by decide)]) ?_
              refine g_icmp_ge ok 158 d_Mo_reorder_135 (by decide) (by omega) (by omega) (fun h4 => ?_) (fun h4 => ?_)
              · refine g_iload_n ok d_Mo_reorder_158 rfl 3 rfl ?_
                exact g_iret ok d_Mo_reorder_159 ⟨_, _, rfl, rfl, Or.inr ⟨by omega, fun a z1 z2 z3 => by rw [hG3.1 a z1, hg2 a z3, hg1 a z2], fun j z => by rw [hG3.2.2 j (by omega), hg2 250 (by decide), hg1 250 (by decide)], lfM G1, ks, fun T z1 z2 => lfS_of (hT1 T z1 z2), by omega, hch, rfl, fun j k hjk => by have hil := (List.getElem?_eq_some_iff.mp hjk).1; rw [hG3.2.1 (j : Int) (by omega) (by omega)]; exact hpm j k hjk⟩⟩
              · refine g_aload_n ok d_Mo_reorder_138 rfl 0 rfl ?_
                refine gI_Mo_order ok _ rfl k_997 d_Mo_reorder_139 ?_
                refine g_iload ok d_Mo_reorder_142 4 rfl ?_
                refine g_aload_n ok d_Mo_reorder_144 rfl 0 rfl ?_
                refine gI_Mo_newOrder ok _ rfl k_1022 d_Mo_reorder_145 ?_
                refine g_iload ok d_Mo_reorder_148 4 rfl ?_
                refine h_iald ok _ a_263 (by omega) d_Mo_reorder_150 ?_
                refine h_iast ok _ a_250 (by omega) d_Mo_reorder_151 ?_
                refine g_iinc (lv' := [(4, .int (iI (j + 1))), (0, .ref (ad 244)), (1, .int (iI sv)), (2, .int (iI cc0)), (3, .int (iI (lfM G1 0 8)))]) ok d_Mo_reorder_152 4 rfl (by decide) rfl ?_
                refine g_goto ok 129 d_Mo_reorder_155 (by decide) ?_
                refine g_lv [1, 2, 3, 4, 0] rfl ?_
                exact ih_j (j + 1) (gU G3 250 j (G3 263 j)) (by omega) (⟨fun a z => (gU_k _ _ _ z).trans (hG3.1 a z), fun e q1 q2 => by by_cases y : e = j; subst y; rw [gU_hit, hG3.1 263 (by decide)]; rw [gU_i y]; exact hG3.2.1 e q1 (by omega), fun e q => by rw [gU_i (by omega)]; exact hG3.2.2 e (by omega)⟩) (by omega)
          refine g_z ?_
          refine g_lv [1, 2, 3, 4, 0] rfl ?_
          exact L_j ((F 244 1 + 1 - 0 : Int).toNat + 1) 0 G2 (by omega) (⟨fun _ _ => rfl, fun e q1 q2 => by omega, fun _ _ => rfl⟩) (by omega)
        · obtain ⟨kx, hkn, hkm, hkv⟩ := (((hT1 sv hdr.1 hdr.2) cc0 hcr0.1 hcr0.2).2.2 (pop_ne (show pop sv (F 244 1).toNat < (((F 244 1).toNat : Nat) : Int) by omega))).1
          have hkp : pkP (prM G) (clM G) (lfM G1) sv cc0 kx := ⟨hkm, hkv⟩
          have hvl := ((hT1 sv hdr.1 hdr.2) cc0 hcr0.1 hcr0.2).1
          have hpg := pop_rng sv (F 244 1).toNat
          refine g_iconst ok d_Mo_reorder_43 ?_
          refine g_istore (lv' := [(5, .int (iI 0)), (0, .ref (ad 244)), (1, .int (iI sv)), (2, .int (iI cc0)), (3, .int (iI (lfM G1 0 8))), (4, .int (iI i))]) ok d_Mo_reorder_44 (by decide) rfl ?_
          have L_q : ∀ (n_q : Nat) (q : Int), (0 ≤ q ∧ q ≤ (kx : Int)) → (∀ j : Nat, (j : Int) < q → ¬ pkP (prM G) (clM G) (lfM G1) sv cc0 j) → ((kx : Int) + 1 - q) < (n_q : Int) → gW p l e R s m args below meth c (MQ below (gQi D A ad 265 (fun z ce' => ∃ F' G', ce' = mem ad t F' G' ∧ (fun z F' G' => F' = (fU F 244 0 0) ∧ ((F 244 1 = 0 ∧ z = 0 ∧ G' = G) ∨ (0 < F 244 1 ∧ (∀ a, a ≠ 250 → a ≠ 262 → a ≠ 263 → G' a = G a) ∧ (∀ i : Int, ¬ (0 ≤ i ∧ i < F 244 1) → G' 250 i = G 250 i) ∧ ∃ lf ks, (∀ T : Int, 0 ≤ T → T ≤ 2 ^ (F 244 1).toNat - 1 → lfS (F 244 1).toNat (prM G) (clM G) lf T) ∧ (ks.length : Int) = F 244 1 ∧ chn (F 244 1).toNat (prM G) (clM G) lf 0 8 ks ∧ z = lf 0 8 ∧ ∀ (i : Nat) (k : Nat), ks[i]? = some k → G' 250 (i : Int) = G 250 (k : Int)))) z F' G')) args s 0 0 A) D A 6 (gZ) 0 0 ad 265 (mem ad t (fU F 244 0 0) G2) 46 [(0, .ref (ad 244)), (1, .int (iI sv)), (2, .int (iI cc0)), (3, .int (iI (lfM G1 0 8))), (4, .int (iI i)), (5, .int (iI q))] [] := by
            intro n_q
            induction n_q with
            | zero =>
              intro q hq hno hm_q
              exact absurd hm_q (by omega)
            | succ n_q ih_q =>
              intro q hq hno hm_q
              have hqq : ((q.toNat : Nat) : Int) = q := by omega
              have hcq : clM G q.toNat = G 245 (4 * G 250 q) := by unfold clM; rw [hqq]
              have hsq := hs q hq.1 (by omega)
              refine g_aload_n ok d_Mo_reorder_46 rfl 0 rfl ?_
              refine g_iload ok d_Mo_reorder_47 5 rfl ?_
              refine g_iload_n ok d_Mo_reorder_49 rfl 1 rfl ?_
              refine g_callPV (As := [.int (iI q), .int (iI sv)]) (st := []) ok _ (c_Mo_mayCome (fU F 244 0 0) G2 _ _ (F 244 1) hn.2 (by omega) (by unfold sqM bx4 at hs ⊢; rw [hgg 250 (by decide) (by decide), hgg 249 (by decide) (by decide), hgg 245 (by decide) (by decide)]; exact hs) (by omega) s0 a0 D t ad) k_1286 k_11 k_1283 cl_Mo (m_Mo (ad := ad) (t := t) (F := (fU F 244 0 0)) (G := G2) rfl).1 (m_Mo rfl).2 k_1285 s_Mo_mayCome q_Mo_mayCome (by decide) (Nat.le_of_ble_eq_true rfl) (by decide) d_Mo_reorder_50 (fun z5 hc5 => ?_)
              have hmz := hc5.1
              have hmy : z5 = 1 ↔ may (prM G) sv q.toNat := by have y := hc5.2; unfold may prM mtM at y ⊢; rw [hgg 250 (by decide) (by decide), hgg 249 (by decide) (by decide)] at y; exact y
              refine g_if_eq ok 78 d_Mo_reorder_53 (by decide) (by omega) (fun h6 => ?_) (fun h6 => ?_)
              · have hnp : ¬ pkP (prM G) (clM G) (lfM G1) sv cc0 q.toNat := fun y => absurd (hmy.mpr y.1) (by omega)
                refine g_iinc (lv' := [(5, .int (iI (q + 1))), (0, .ref (ad 244)), (1, .int (iI sv)), (2, .int (iI cc0)), (3, .int (iI (lfM G1 0 8))), (4, .int (iI i))]) ok d_Mo_reorder_78 5 rfl (by decide) rfl ?_
                refine g_goto ok 46 d_Mo_reorder_81 (by decide) ?_
                refine g_lv [1, 2, 3, 4, 5, 0] rfl ?_
                exact ih_q (q + 1) (by have y : ¬ q.toNat = kx := (fun y => hnp (y ▸ hkp)); omega) (fun j z y => by by_cases x : j = q.toNat; subst x; exact hnp y; exact hno j (by omega) y) (by omega)
              · have hmay := hmy.mp (by omega)
                refine g_aload_n ok d_Mo_reorder_56 rfl 0 rfl ?_
                refine g_iload ok d_Mo_reorder_57 5 rfl ?_
                refine g_iload_n ok d_Mo_reorder_59 rfl 1 rfl ?_
                refine g_iload_n ok d_Mo_reorder_60 rfl 2 rfl ?_
                refine g_callPV (As := [.int (iI q), .int (iI sv), .int (iI cc0)]) (st := []) ok _ (c_Mo_costOf (fU F 244 0 0) G2 _ _ _ (F 244 1) hn.2 (by omega) (by unfold sqM bx4 at hs ⊢; rw [hgg 250 (by decide) (by decide), hgg 249 (by decide) (by decide), hgg 245 (by decide) (by decide)]; exact hs) (by omega) hmay.1 (by omega) s0 a0 D t ad) k_1294 k_11 k_1291 cl_Mo (m_Mo (ad := ad) (t := t) (F := (fU F 244 0 0)) (G := G2) rfl).1 (m_Mo rfl).2 k_1293 s_Mo_costOf q_Mo_costOf (by decide) (Nat.le_of_ble_eq_true rfl) (by decide) d_Mo_reorder_61 (fun z7 hc7 => ?_)
                subst hc7
                refine g_top (y := lfM G1 (sv + 2 ^ q.toNat) (clM G q.toNat) + chg cc0 (clM G q.toNat)) (by rw [show clM G2 = clM G from by funext k; unfold clM; rw [hgg 245 (by decide) (by decide), hgg 250 (by decide) (by decide)], show lfM G2 = lfM G1 from by funext T e; unfold lfM; rw [hg2 262 (by decide)]]) ?_
                have hcr : 0 ≤ lfM G1 (sv + 2 ^ q.toNat) (clM G q.toNat) + chg cc0 (clM G q.toNat) ∧ lfM G1 (sv + 2 ^ q.toNat) (clM G q.toNat) + chg cc0 (clM G q.toNat) ≤ 20 := lf_bd hn10 hdr hcol (by omega) hmay (by omega) (fun e1 e2 => hT1 _ (by omega) e2)
                refine g_aload_n ok d_Mo_reorder_64 rfl 0 rfl ?_
                refine gI_Mo_left ok _ rfl k_1021 d_Mo_reorder_65 ?_
                refine g_bipush ok (by decide) d_Mo_reorder_68 ?_
                refine g_iload_n ok d_Mo_reorder_70 rfl 1 rfl ?_
                refine g_imul ok d_Mo_reorder_71 ?_
                refine g_iload_n ok d_Mo_reorder_72 rfl 2 rfl ?_
                refine g_iadd ok d_Mo_reorder_73 ?_
                refine h_iald ok _ a_262 (by omega) d_Mo_reorder_74 ?_
                refine g_top (y := lfM G1 sv cc0) (by show G2 262 ((9 * sv) + cc0) = _; rw [hg2 262 (by decide)]; rfl) ?_
                refine g_icmp_eq ok 84 d_Mo_reorder_75 (by decide) (by omega) (by omega) (fun h8 => ?_) (fun h8 => ?_)
                · have hpk : pk (F 244 1).toNat (prM G) (clM G) (lfM G1) sv cc0 q.toNat := ⟨by omega, ⟨hmay, by omega⟩, fun j hj => hno j (by omega)⟩
                  have hin2 := bt_in hn10 hdr (by omega) hmay.1
                  refine g_aload_n ok d_Mo_reorder_84 rfl 0 rfl ?_
                  refine gI_Mo_newOrder ok _ rfl k_1022 d_Mo_reorder_85 ?_
                  refine g_iload ok d_Mo_reorder_88 4 rfl ?_
                  refine g_aload_n ok d_Mo_reorder_90 rfl 0 rfl ?_
                  refine gI_Mo_order ok _ rfl k_997 d_Mo_reorder_91 ?_
                  refine g_iload ok d_Mo_reorder_94 5 rfl ?_
                  refine h_iald ok _ a_250 (by omega) d_Mo_reorder_96 ?_
                  refine g_top (y := G 250 q) (by show G2 250 q = _; rw [hgg 250 (by decide) (by decide)]) ?_
                  refine h_iast ok _ a_263 (by omega) d_Mo_reorder_97 ?_
                  refine g_aload_n ok d_Mo_reorder_98 rfl 0 rfl ?_
                  refine gI_Mo_told ok _ rfl k_992 d_Mo_reorder_99 ?_
                  refine g_iconst ok d_Mo_reorder_102 ?_
                  refine g_aload_n ok d_Mo_reorder_103 rfl 0 rfl ?_
                  refine gI_Mo_order ok _ rfl k_997 d_Mo_reorder_104 ?_
                  refine g_iload ok d_Mo_reorder_107 5 rfl ?_
                  refine h_iald ok _ a_250 (by omega) d_Mo_reorder_109 ?_
                  refine g_top (y := G 250 q) (by show (gU G2 263 i (G 250 q)) 250 q = _; rw [gU_a (show 250 ≠ 263 by omega), hgg 250 (by decide) (by decide)]) ?_
                  refine g_imul ok d_Mo_reorder_110 ?_
                  refine h_iald ok _ a_245 (by omega) d_Mo_reorder_111 ?_
                  refine g_top (y := G 245 (4 * (G 250 q))) (by show (gU G2 263 i (G 250 q)) 245 (4 * (G 250 q)) = _; rw [gU_a (show 245 ≠ 263 by omega), hgg 245 (by decide) (by decide)]) ?_
                  refine g_istore_n (lv' := [(2, .int (iI (G 245 (4 * (G 250 q))))), (0, .ref (ad 244)), (1, .int (iI sv)), (3, .int (iI (lfM G1 0 8))), (4, .int (iI i)), (5, .int (iI q))]) ok d_Mo_reorder_112 rfl (by decide) rfl ?_
                  refine g_iload_n ok d_Mo_reorder_113 rfl 2 rfl ?_
                  refine g_iconst ok d_Mo_reorder_114 ?_
                  refine g_iload ok d_Mo_reorder_115 5 rfl ?_
                  refine g_ishl (z := 1 * 2 ^ q.toNat) ok (iI_shl q.toNat (by omega) (by decide) (by have := pw_le (k := q.toNat) (by omega); omega) (by omega)) d_Mo_reorder_117 ?_
                  refine g_ior (z := sv + 2 ^ q.toNat) ok (by rw [Int.one_mul]; exact (bt_up (by omega) (by omega) hmay.1).1) d_Mo_reorder_118 ?_
                  refine g_istore_n (lv' := [(1, .int (iI (sv + 2 ^ q.toNat))), (2, .int (iI (G 245 (4 * (G 250 q))))), (0, .ref (ad 244)), (3, .int (iI (lfM G1 0 8))), (4, .int (iI i)), (5, .int (iI q))]) ok d_Mo_reorder_119 rfl (by decide) rfl ?_
                  refine g_iinc (lv' := [(4, .int (iI (i + 1))), (1, .int (iI (sv + 2 ^ q.toNat))), (2, .int (iI (G 245 (4 * (G 250 q))))), (0, .ref (ad 244)), (3, .int (iI (lfM G1 0 8))), (5, .int (iI q))]) ok d_Mo_reorder_120 4 rfl (by decide) rfl ?_
                  refine g_goto ok 34 d_Mo_reorder_123 (by decide) ?_
                  refine g_lv [3, 1, 2, 4, 0] rfl ?_
                  exact ih_i (i + 1) (sv + 2 ^ q.toNat) (G 245 (4 * (G 250 q))) (gU G2 263 i (G 250 q)) (ks ++ [q.toNat]) (by omega) (by rw [lenN]; omega) (by rw [chS_snoc, hdn]) (hin2) (by rw [pop_add (by omega) (by omega) hmay.1, if_pos (by omega)]; omega) (by have y := hcol q.toNat (by omega); rw [hcq] at y; omega) (by rw [chC_snoc, hcq]) (chn_snoc hch (by rw [← hdn, ← hcc]; exact hpk)) (plM_add hpm (by omega) (by rw [hqq])) (fun a z => (gU_k _ _ _ z).trans (hg2 a z)) (by omega)
                · have hnp : ¬ pkP (prM G) (clM G) (lfM G1) sv cc0 q.toNat := fun y => by have y2 := y.2; omega
                  refine g_iinc (lv' := [(5, .int (iI (q + 1))), (0, .ref (ad 244)), (1, .int (iI sv)), (2, .int (iI cc0)), (3, .int (iI (lfM G1 0 8))), (4, .int (iI i))]) ok d_Mo_reorder_78 5 rfl (by decide) rfl ?_
                  refine g_goto ok 46 d_Mo_reorder_81 (by decide) ?_
                  refine g_lv [1, 2, 3, 4, 5, 0] rfl ?_
                  exact ih_q (q + 1) (by have y : ¬ q.toNat = kx := (fun y => hnp (y ▸ hkp)); omega) (fun j z y => by by_cases x : j = q.toNat; subst x; exact hnp y; exact hno j (by omega) y) (by omega)
          refine g_z ?_
          refine g_lv [1, 2, 3, 4, 5, 0] rfl ?_
          exact L_q (((kx : Int) + 1 - 0 : Int).toNat + 1) 0 (by omega) (fun j z => by omega) (by omega)
    refine g_z ?_
    refine g_lv [4, 3, 2, 1, 0] rfl ?_
    exact L_i ((F 244 1 + 1 - 0 : Int).toNat + 1) 0 0 8 G1 ([]) (by omega) (rfl) (rfl) (by omega) (pop_0 _) (by omega) (rfl) (trivial) (fun i k z => by simp at z) (fun _ _ => rfl) (by omega)
  · refine g_iconst ok d_Mo_reorder_12 ?_
    exact g_iret ok d_Mo_reorder_13 ⟨_, _, rfl, rfl, Or.inl ⟨by omega, rfl, rfl⟩⟩
theorem d_Dk_reorder_0 : decode b_Dk_reorder 0 = .ok (.aload_n 0, 1) := by decide +kernel
theorem d_Dk_reorder_1 : decode b_Dk_reorder 1 = .ok (.getfield 52, 3) := by decide +kernel
theorem d_Dk_reorder_4 : decode b_Dk_reorder 4 = .ok (.aload_n 0, 1) := by decide +kernel
theorem d_Dk_reorder_5 : decode b_Dk_reorder 5 = .ok (.getfield 11, 3) := by decide +kernel
theorem d_Dk_reorder_8 : decode b_Dk_reorder 8 = .ok (.aload_n 0, 1) := by decide +kernel
theorem d_Dk_reorder_9 : decode b_Dk_reorder 9 = .ok (.getfield 16, 3) := by decide +kernel
theorem d_Dk_reorder_12 : decode b_Dk_reorder 12 = .ok (.aload_n 0, 1) := by decide +kernel
theorem d_Dk_reorder_13 : decode b_Dk_reorder 13 = .ok (.getfield 67, 3) := by decide +kernel
theorem d_Dk_reorder_16 : decode b_Dk_reorder 16 = .ok (.invokevirtual 237, 3) := by decide +kernel
theorem d_Dk_reorder_19 : decode b_Dk_reorder 19 = .ok (.ireturn, 1) := by decide +kernel
set_option maxHeartbeats 1000000 in
set_option maxRecDepth 100000 in
theorem c_Dk_reorder (F : Nat → Nat → Int) (G : Nat → Int → Int) (ht : 0 ≤ F 0 8 ∧ F 0 8 ≤ 10) (hs : sqOk F G (F 0 8)) (hr0 : ∀ T : Int, 0 ≤ T → T < 1024 → 0 ≤ G 240 T ∧ G 240 T < 256) : cI y_Dk_reorder b_Dk_reorder 1 (some .int) 3 73 F G (fun ad => [.ref (ad 0)]) (fun z F' G' => F' = (fU F 238 5 (F 0 8)) ∧ (∀ a, a ≠ 222 → a ≠ 239 → a ≠ 240 → a ≠ 241 → a ≠ 242 → a ≠ 243 → G' a = G a) ∧ (∀ T : Int, 0 ≤ T → T < 1024 → 0 ≤ G' 240 T ∧ G' 240 T < 256) ∧ (∀ i : Int, ¬ (0 ≤ i ∧ i < (F 0 8)) → G' 222 i = G 222 i) ∧ ∃ few fri ks, (∀ T : Int, 0 ≤ T → T ≤ 2 ^ (F 0 8).toNat - 1 → dpS (F 0 8).toNat (prS F G) (clS F G) few fri T) ∧ (ks.length : Int) = (F 0 8) ∧ chn (F 0 8).toNat (prS F G) (clS F G) (vX few fri) 0 8 ks ∧ z = few 0 ∧ ∀ (i : Nat) (k : Nat), ks[i]? = some k → G' 222 (i : Int) = G 222 (k : Int)) := by
  intro s0 a0 D t ad
  refine g_startI (by decide +kernel) (Nat.le_of_ble_eq_true rfl) (fun p l e R s m args below meth c A ok => ?_)
  show gW p l e R s m args below meth c _ D A 1 (gZ0 s) 0 0 ad 265 (mem ad t F G) 0 [(0, .ref (ad 0))] []
  refine g_aload_n ok d_Dk_reorder_0 rfl 0 rfl ?_
  refine gI_Dk_planner ok _ rfl k_324 d_Dk_reorder_1 ?_
  refine g_aload_n ok d_Dk_reorder_4 rfl 0 rfl ?_
  refine gI_Dk_shapes ok _ rfl k_317 d_Dk_reorder_5 ?_
  refine g_aload_n ok d_Dk_reorder_8 rfl 0 rfl ?_
  refine gI_Dk_sequence ok _ rfl k_318 d_Dk_reorder_9 ?_
  refine g_aload_n ok d_Dk_reorder_12 rfl 0 rfl ?_
  refine gI_Dk_shapeTotal ok _ rfl k_325 d_Dk_reorder_13 ?_
  refine g_callIVN (As := [.ref (ad 1), .ref (ad 222), .int (iI (F 0 8))]) (st := []) ok _ (c_Pl_plan F G _ ht hs hr0 s0 a0 D t ad) k_579 k_10 k_576 cl_Pl (m_Pl (ad := ad) (t := t) (F := F) (G := G) rfl).1 (m_Pl rfl).2 k_578 s_Pl_plan q_Pl_plan (by decide) (Nat.le_of_ble_eq_true rfl) (by decide) d_Dk_reorder_16 (fun zr ce1 hc1 => ?_)
  obtain ⟨F1, G1, rfl, hq⟩ := hc1
  exact g_iret ok d_Dk_reorder_19 ⟨_, _, rfl, hq⟩
