/-! the planner's choice -/
def plR (G G1 : Nat → Int → Int) (ks : List Nat) : Prop := ∀ (i : Nat) (k : Nat), ks[i]? = some k → G1 243 (i : Int) = G 222 (k : Int)
theorem plR_add {G G1 : Nat → Int → Int} {ks : List Nat} {k : Nat} {m v : Int} (h : plR G G1 ks) (hm : m = (ks.length : Int)) (hv : v = G 222 (k : Int)) : plR G (gU G1 243 m v) (ks ++ [k]) := by
  intro i j hi
  rcases Nat.lt_trichotomy i ks.length with c | c | c
  · rw [List.getElem?_append_left c] at hi
    rw [gU_i (by omega)]
    exact h i j hi
  · subst c
    rw [List.getElem?_concat_length] at hi
    have e := Option.some.inj hi
    subst e
    rw [← hm, gU_hit, hv]
  · rw [List.getElem?_append_right (by omega)] at hi
    have : ([k] : List Nat)[i - ks.length]? = none := List.getElem?_eq_none (by simp; omega)
    rw [this] at hi
    exact absurd hi (by simp)
def c8 (co : Int) : Int := if co = -1 then 8 else co
theorem c8_rng {co : Int} (h : -1 ≤ co ∧ co ≤ 7) : 0 ≤ c8 co ∧ c8 co ≤ 8 := by
  unfold c8
  split <;> omega
theorem lenN (L : List Nat) (x : Nat) : ((L ++ [x]).length : Int) = (L.length : Int) + 1 := by
  rw [List.length_append]
  simp
theorem pop_ne {S : Int} {n : Nat} (h : pop S n < (n : Int)) : S ≠ 2 ^ n - 1 := fun e => by
  rw [e, pop_all n (Nat.le_refl _)] at h
  omega
theorem vX_rg {n : Nat} {pr : Nat → Nat → Prop} {col : Nat → Int} {few fri : Int → Int} {S c : Int} (h : dpS n pr col few fri S) (hc : 0 ≤ c ∧ c ≤ 8) : 0 ≤ vX few fri S c ∧ vX few fri S c ≤ (n : Int) + 1 := by
  have r := vC_rng (few := few) (fri := fri) (S := S) (c := c)
  have f : 0 ≤ few S ∧ few S ≤ (n : Int) := by
    refine ⟨h.2.1, ?_⟩
    by_cases e : S = 2 ^ n - 1
    · have := (h.2.2.1 e).1
      omega
    · have a := (h.2.2.2 e).1
      have b := pop_rng S n
      omega
  unfold vX
  split <;> omega
theorem d_Pl_choose_0 : decode b_Pl_choose 0 = .ok (.iconst 0, 1) := by decide +kernel
theorem d_Pl_choose_1 : decode b_Pl_choose 1 = .ok (.istore_n 2, 1) := by decide +kernel
theorem d_Pl_choose_2 : decode b_Pl_choose 2 = .ok (.aload_n 0, 1) := by decide +kernel
theorem d_Pl_choose_3 : decode b_Pl_choose 3 = .ok (.getfield 9, 3) := by decide +kernel
theorem d_Pl_choose_6 : decode b_Pl_choose 6 = .ok (.iconst 0, 1) := by decide +kernel
theorem d_Pl_choose_7 : decode b_Pl_choose 7 = .ok (.iaload, 1) := by decide +kernel
theorem d_Pl_choose_8 : decode b_Pl_choose 8 = .ok (.istore_n 3, 1) := by decide +kernel
theorem d_Pl_choose_9 : decode b_Pl_choose 9 = .ok (.iconst (-1), 1) := by decide +kernel
theorem d_Pl_choose_10 : decode b_Pl_choose 10 = .ok (.istore 4, 2) := by decide +kernel
theorem d_Pl_choose_12 : decode b_Pl_choose 12 = .ok (.iconst 0, 1) := by decide +kernel
theorem d_Pl_choose_13 : decode b_Pl_choose 13 = .ok (.istore 5, 2) := by decide +kernel
theorem d_Pl_choose_15 : decode b_Pl_choose 15 = .ok (.iload 5, 2) := by decide +kernel
theorem d_Pl_choose_17 : decode b_Pl_choose 17 = .ok (.aload_n 0, 1) := by decide +kernel
theorem d_Pl_choose_18 : decode b_Pl_choose 18 = .ok (.getfield 33, 3) := by decide +kernel
theorem d_Pl_choose_21 : decode b_Pl_choose 21 = .ok (.if_icmp .ge 121, 3) := by decide +kernel
theorem d_Pl_choose_24 : decode b_Pl_choose 24 = .ok (.iconst 0, 1) := by decide +kernel
theorem d_Pl_choose_25 : decode b_Pl_choose 25 = .ok (.istore 6, 2) := by decide +kernel
theorem d_Pl_choose_27 : decode b_Pl_choose 27 = .ok (.iload 6, 2) := by decide +kernel
theorem d_Pl_choose_29 : decode b_Pl_choose 29 = .ok (.aload_n 0, 1) := by decide +kernel
theorem d_Pl_choose_30 : decode b_Pl_choose 30 = .ok (.getfield 33, 3) := by decide +kernel
theorem d_Pl_choose_33 : decode b_Pl_choose 33 = .ok (.if_icmp .ge 103, 3) := by decide +kernel
theorem d_Pl_choose_36 : decode b_Pl_choose 36 = .ok (.iload 4, 2) := by decide +kernel
theorem d_Pl_choose_38 : decode b_Pl_choose 38 = .ok (.iconst (-1), 1) := by decide +kernel
theorem d_Pl_choose_39 : decode b_Pl_choose 39 = .ok (.if_icmp .eq 15, 3) := by decide +kernel
theorem d_Pl_choose_42 : decode b_Pl_choose 42 = .ok (.iload 4, 2) := by decide +kernel
theorem d_Pl_choose_44 : decode b_Pl_choose 44 = .ok (.aload_n 0, 1) := by decide +kernel
theorem d_Pl_choose_45 : decode b_Pl_choose 45 = .ok (.getfield 21, 3) := by decide +kernel
theorem d_Pl_choose_48 : decode b_Pl_choose 48 = .ok (.iload 6, 2) := by decide +kernel
theorem d_Pl_choose_50 : decode b_Pl_choose 50 = .ok (.iaload, 1) := by decide +kernel
theorem d_Pl_choose_51 : decode b_Pl_choose 51 = .ok (.if_icmp .ne 7, 3) := by decide +kernel
theorem d_Pl_choose_54 : decode b_Pl_choose 54 = .ok (.iconst 0, 1) := by decide +kernel
theorem d_Pl_choose_55 : decode b_Pl_choose 55 = .ok (.goto 4, 3) := by decide +kernel
theorem d_Pl_choose_58 : decode b_Pl_choose 58 = .ok (.iconst 1, 1) := by decide +kernel
theorem d_Pl_choose_59 : decode b_Pl_choose 59 = .ok (.istore 7, 2) := by decide +kernel
theorem d_Pl_choose_61 : decode b_Pl_choose 61 = .ok (.aload_n 0, 1) := by decide +kernel
theorem d_Pl_choose_62 : decode b_Pl_choose 62 = .ok (.iload_n 2, 1) := by decide +kernel
theorem d_Pl_choose_63 : decode b_Pl_choose 63 = .ok (.iload 6, 2) := by decide +kernel
theorem d_Pl_choose_65 : decode b_Pl_choose 65 = .ok (.invokevirtual 57, 3) := by decide +kernel
theorem d_Pl_choose_68 : decode b_Pl_choose 68 = .ok (.ifCond .eq 62, 3) := by decide +kernel
theorem d_Pl_choose_71 : decode b_Pl_choose 71 = .ok (.iload 7, 2) := by decide +kernel
theorem d_Pl_choose_73 : decode b_Pl_choose 73 = .ok (.aload_n 0, 1) := by decide +kernel
theorem d_Pl_choose_74 : decode b_Pl_choose 74 = .ok (.iload_n 2, 1) := by decide +kernel
theorem d_Pl_choose_75 : decode b_Pl_choose 75 = .ok (.iconst 1, 1) := by decide +kernel
theorem d_Pl_choose_76 : decode b_Pl_choose 76 = .ok (.iload 6, 2) := by decide +kernel
theorem d_Pl_choose_78 : decode b_Pl_choose 78 = .ok (.ishl, 1) := by decide +kernel
theorem d_Pl_choose_79 : decode b_Pl_choose 79 = .ok (.ior, 1) := by decide +kernel
theorem d_Pl_choose_80 : decode b_Pl_choose 80 = .ok (.aload_n 0, 1) := by decide +kernel
theorem d_Pl_choose_81 : decode b_Pl_choose 81 = .ok (.getfield 21, 3) := by decide +kernel
theorem d_Pl_choose_84 : decode b_Pl_choose 84 = .ok (.iload 6, 2) := by decide +kernel
theorem d_Pl_choose_86 : decode b_Pl_choose 86 = .ok (.iaload, 1) := by decide +kernel
theorem d_Pl_choose_87 : decode b_Pl_choose 87 = .ok (.invokevirtual 61, 3) := by decide +kernel
theorem d_Pl_choose_90 : decode b_Pl_choose 90 = .ok (.iadd, 1) := by decide +kernel
theorem d_Pl_choose_91 : decode b_Pl_choose 91 = .ok (.iload_n 3, 1) := by decide +kernel
theorem d_Pl_choose_92 : decode b_Pl_choose 92 = .ok (.if_icmp .ne 38, 3) := by decide +kernel
theorem d_Pl_choose_95 : decode b_Pl_choose 95 = .ok (.aload_n 0, 1) := by decide +kernel
theorem d_Pl_choose_96 : decode b_Pl_choose 96 = .ok (.getfield 24, 3) := by decide +kernel
theorem d_Pl_choose_99 : decode b_Pl_choose 99 = .ok (.iload 5, 2) := by decide +kernel
theorem d_Pl_choose_101 : decode b_Pl_choose 101 = .ok (.aload_n 1, 1) := by decide +kernel
theorem d_Pl_choose_102 : decode b_Pl_choose 102 = .ok (.iload 6, 2) := by decide +kernel
theorem d_Pl_choose_104 : decode b_Pl_choose 104 = .ok (.iaload, 1) := by decide +kernel
theorem d_Pl_choose_105 : decode b_Pl_choose 105 = .ok (.iastore, 1) := by decide +kernel
theorem d_Pl_choose_106 : decode b_Pl_choose 106 = .ok (.iload_n 2, 1) := by decide +kernel
theorem d_Pl_choose_107 : decode b_Pl_choose 107 = .ok (.iconst 1, 1) := by decide +kernel
theorem d_Pl_choose_108 : decode b_Pl_choose 108 = .ok (.iload 6, 2) := by decide +kernel
theorem d_Pl_choose_110 : decode b_Pl_choose 110 = .ok (.ishl, 1) := by decide +kernel
theorem d_Pl_choose_111 : decode b_Pl_choose 111 = .ok (.ior, 1) := by decide +kernel
theorem d_Pl_choose_112 : decode b_Pl_choose 112 = .ok (.istore_n 2, 1) := by decide +kernel
theorem d_Pl_choose_113 : decode b_Pl_choose 113 = .ok (.iload_n 3, 1) := by decide +kernel
theorem d_Pl_choose_114 : decode b_Pl_choose 114 = .ok (.iload 7, 2) := by decide +kernel
theorem d_Pl_choose_116 : decode b_Pl_choose 116 = .ok (.isub, 1) := by decide +kernel
theorem d_Pl_choose_117 : decode b_Pl_choose 117 = .ok (.istore_n 3, 1) := by decide +kernel
theorem d_Pl_choose_118 : decode b_Pl_choose 118 = .ok (.aload_n 0, 1) := by decide +kernel
theorem d_Pl_choose_119 : decode b_Pl_choose 119 = .ok (.getfield 21, 3) := by decide +kernel
theorem d_Pl_choose_122 : decode b_Pl_choose 122 = .ok (.iload 6, 2) := by decide +kernel
theorem d_Pl_choose_124 : decode b_Pl_choose 124 = .ok (.iaload, 1) := by decide +kernel
theorem d_Pl_choose_125 : decode b_Pl_choose 125 = .ok (.istore 4, 2) := by decide +kernel
theorem d_Pl_choose_127 : decode b_Pl_choose 127 = .ok (.goto 9, 3) := by decide +kernel
theorem d_Pl_choose_130 : decode b_Pl_choose 130 = .ok (.iinc 6 1, 3) := by decide +kernel
theorem d_Pl_choose_133 : decode b_Pl_choose 133 = .ok (.goto (-106), 3) := by decide +kernel
theorem d_Pl_choose_136 : decode b_Pl_choose 136 = .ok (.iinc 5 1, 3) := by decide +kernel
theorem d_Pl_choose_139 : decode b_Pl_choose 139 = .ok (.goto (-124), 3) := by decide +kernel
theorem d_Pl_choose_142 : decode b_Pl_choose 142 = .ok (.return_, 1) := by decide +kernel
set_option maxHeartbeats 1000000 in
set_option maxRecDepth 100000 in
theorem c_Pl_choose (F : Nat → Nat → Int) (G : Nat → Int → Int) (hn : 0 ≤ F 238 5 ∧ F 238 5 ≤ 10) (ha : ahOk G (F 238 5)) (hsq : ∀ k : Int, 0 ≤ k → k < F 238 5 → 0 ≤ G 222 k ∧ G 222 k < 10) (hdp : ∀ T : Int, 0 ≤ T → T ≤ 2 ^ (F 238 5).toNat - 1 → dpS (F 238 5).toNat (prC G) (clC G) (G 239) (G 240) T) : cV y_Pl_choose b_Pl_choose 8 none 1 22 F G (fun ad => [.ref (ad 238), .ref (ad 222)]) (fun F' G' => F' = F ∧ (∀ a, a ≠ 243 → G' a = G a) ∧ ∃ ks : List Nat, (ks.length : Int) = F 238 5 ∧ chn (F 238 5).toNat (prC G) (clC G) (vX (G 239) (G 240)) 0 8 ks ∧ plR G G' ks) := by
  have hpp := pw_pos (F 238 5).toNat
  have hple := pw_le (k := (F 238 5).toNat) (by omega)
  have hn10 : (F 238 5).toNat ≤ 10 := by omega
  have hcol : ∀ k, k < (F 238 5).toNat → 0 ≤ clC G k ∧ clC G k < 8 := fun k hk => by have y := (ha (k : Int) (by omega) (by omega)).2.2; exact y
  have hd0 := hdp 0 (by omega) (by omega)
  intro s0 a0 D t ad
  refine g_startV (by decide +kernel) (Nat.le_of_ble_eq_true rfl) (fun p l e R s m args below meth c A ok => ?_)
  show gW p l e R s m args below meth c _ D A 8 (gZ0 s) 0 0 ad 265 (mem ad t F G) 0 [(0, .ref (ad 238)), (1, .ref (ad 222))] []
  refine g_iconst ok d_Pl_choose_0 ?_
  refine g_istore_n (lv' := [(2, .int (iI 0)), (0, .ref (ad 238)), (1, .ref (ad 222))]) ok d_Pl_choose_1 rfl (by decide) rfl ?_
  refine g_aload_n ok d_Pl_choose_2 rfl 1 rfl ?_
  refine gI_Pl_fewest ok _ rfl k_298 d_Pl_choose_3 ?_
  refine g_iconst ok d_Pl_choose_6 ?_
  refine h_iald ok _ a_239 (by omega) d_Pl_choose_7 ?_
  refine g_istore_n (lv' := [(3, .int (iI (G 239 0))), (2, .int (iI 0)), (0, .ref (ad 238)), (1, .ref (ad 222))]) ok d_Pl_choose_8 rfl (by decide) rfl ?_
  refine g_iconst ok d_Pl_choose_9 ?_
  refine g_istore (lv' := [(4, .int (iI (-1))), (3, .int (iI (G 239 0))), (2, .int (iI 0)), (0, .ref (ad 238)), (1, .ref (ad 222))]) ok d_Pl_choose_10 (by decide) rfl ?_
  refine g_iconst ok d_Pl_choose_12 ?_
  refine g_istore (lv' := [(5, .int (iI 0)), (4, .int (iI (-1))), (3, .int (iI (G 239 0))), (2, .int (iI 0)), (0, .ref (ad 238)), (1, .ref (ad 222))]) ok d_Pl_choose_13 (by decide) rfl ?_
  have L_p : ∀ (n_p : Nat) (pl : Int) (dn : Int) (rt : Int) (co : Int) (G1 : Nat → Int → Int) (ks : List Nat), (0 ≤ pl ∧ pl ≤ F 238 5) → ((ks.length : Int) = pl) → (dn = chS' 0 ks) → (0 ≤ dn ∧ dn ≤ 2 ^ (F 238 5).toNat - 1) → (pop dn (F 238 5).toNat = pl) → (-1 ≤ co ∧ co ≤ 7) → (c8 co = chC (clC G) 8 ks) → (rt = vX (G 239) (G 240) dn (c8 co)) → (chn (F 238 5).toNat (prC G) (clC G) (vX (G 239) (G 240)) 0 8 ks) → (plR G G1 ks) → (∀ a, a ≠ 243 → G1 a = G a) → (F 238 5 + 1 - pl) < (n_p : Int) → gW p l e R s m args below meth c (MQ below (gQv D A ad 265 (fun ce' => ∃ F' G', ce' = mem ad t F' G' ∧ (fun F' G' => F' = F ∧ (∀ a, a ≠ 243 → G' a = G a) ∧ ∃ ks : List Nat, (ks.length : Int) = F 238 5 ∧ chn (F 238 5).toNat (prC G) (clC G) (vX (G 239) (G 240)) 0 8 ks ∧ plR G G' ks) F' G')) args s 0 0 A) D A 8 (gZ) 0 0 ad 265 (mem ad t F G1) 15 [(0, .ref (ad 238)), (1, .ref (ad 222)), (2, .int (iI dn)), (3, .int (iI rt)), (4, .int (iI co)), (5, .int (iI pl))] [] := by
    intro n_p
    induction n_p with
    | zero =>
      intro pl dn rt co G1 ks hpl hlen hdn hdr hpop hco hcc hrt hch hplr hg1 hm_p
      exact absurd hm_p (by omega)
    | succ n_p ih_p =>
      intro pl dn rt co G1 ks hpl hlen hdn hdr hpop hco hcc hrt hch hplr hg1 hm_p
      have hpv := vX_rg (hdp dn hdr.1 hdr.2) (c8_rng hco)
      have hprg := pop_rng dn (F 238 5).toNat
      refine g_iload ok d_Pl_choose_15 5 rfl ?_
      refine g_aload_n ok d_Pl_choose_17 rfl 0 rfl ?_
      refine gI_Pl_total ok _ rfl k_303 d_Pl_choose_18 ?_
      refine g_icmp_ge ok 142 d_Pl_choose_21 (by decide) (by omega) (by omega) (fun h1 => ?_) (fun h1 => ?_)
      · exact g_vret ok d_Pl_choose_142 ⟨_, _, rfl, rfl, hg1, ks, by omega, hch, hplr⟩
      · refine g_iconst ok d_Pl_choose_24 ?_
        refine g_istore (lv' := [(6, .int (iI 0)), (0, .ref (ad 238)), (1, .ref (ad 222)), (2, .int (iI dn)), (3, .int (iI rt)), (4, .int (iI co)), (5, .int (iI pl))]) ok d_Pl_choose_25 (by decide) rfl ?_
        have L_q : ∀ (n_q : Nat) (q : Int), (0 ≤ q ∧ q ≤ F 238 5) → (∀ j : Nat, (j : Int) < q → ¬ pkP (prC G) (clC G) (vX (G 239) (G 240)) dn (c8 co) j) → (F 238 5 + 1 - q) < (n_q : Int) → gW p l e R s m args below meth c (MQ below (gQv D A ad 265 (fun ce' => ∃ F' G', ce' = mem ad t F' G' ∧ (fun F' G' => F' = F ∧ (∀ a, a ≠ 243 → G' a = G a) ∧ ∃ ks : List Nat, (ks.length : Int) = F 238 5 ∧ chn (F 238 5).toNat (prC G) (clC G) (vX (G 239) (G 240)) 0 8 ks ∧ plR G G' ks) F' G')) args s 0 0 A) D A 8 (gZ) 0 0 ad 265 (mem ad t F G1) 27 [(0, .ref (ad 238)), (1, .ref (ad 222)), (2, .int (iI dn)), (3, .int (iI rt)), (4, .int (iI co)), (5, .int (iI pl)), (6, .int (iI q))] [] := by
          intro n_q
          induction n_q with
          | zero =>
            intro q hq hno hm_q
            exact absurd hm_q (by omega)
          | succ n_q ih_q =>
            intro q hq hno hm_q
            refine g_iload ok d_Pl_choose_27 6 rfl ?_
            refine g_aload_n ok d_Pl_choose_29 rfl 0 rfl ?_
            refine gI_Pl_total ok _ rfl k_303 d_Pl_choose_30 ?_
            refine g_icmp_ge ok 136 d_Pl_choose_33 (by decide) (by omega) (by omega) (fun h2 => ?_) (fun h2 => ?_)
            · obtain ⟨kx, hkx⟩ := pk_ex hcol (hdp dn hdr.1 hdr.2) (pop_ne (show pop dn (F 238 5).toNat < (((F 238 5).toNat : Nat) : Int) by omega)) (c8_rng hco); exact absurd hkx.2.1 (hno kx (by have := hkx.1; omega))
            · have haq := ha q hq.1 (by omega)
              have hqq : ((q.toNat : Nat) : Int) = q := by omega
              have hcq : clC G q.toNat = G 242 q := by unfold clC; rw [hqq]
              have hchr : 0 ≤ chg (c8 co) (G 242 q) ∧ chg (c8 co) (G 242 q) ≤ 1 := by unfold chg; split <;> omega
              have J_c : gW p l e R s m args below meth c (MQ below (gQv D A ad 265 (fun ce' => ∃ F' G', ce' = mem ad t F' G' ∧ (fun F' G' => F' = F ∧ (∀ a, a ≠ 243 → G' a = G a) ∧ ∃ ks : List Nat, (ks.length : Int) = F 238 5 ∧ chn (F 238 5).toNat (prC G) (clC G) (vX (G 239) (G 240)) 0 8 ks ∧ plR G G' ks) F' G')) args s 0 0 A) D A 8 (gZ) 0 0 ad 265 (mem ad t F G1) 59 [(0, .ref (ad 238)), (1, .ref (ad 222)), (2, .int (iI dn)), (3, .int (iI rt)), (4, .int (iI co)), (5, .int (iI pl)), (6, .int (iI q))] [.int (iI (chg (c8 co) (G 242 q)))] := by
                refine g_istore (lv' := [(7, .int (iI (chg (c8 co) (G 242 q)))), (0, .ref (ad 238)), (1, .ref (ad 222)), (2, .int (iI dn)), (3, .int (iI rt)), (4, .int (iI co)), (5, .int (iI pl)), (6, .int (iI q))]) ok d_Pl_choose_59 (by decide) rfl ?_
                refine g_aload_n ok d_Pl_choose_61 rfl 1 rfl ?_
                refine g_iload_n ok d_Pl_choose_62 rfl 3 rfl ?_
                refine g_iload ok d_Pl_choose_63 7 rfl ?_
                refine g_callPV (As := [.int (iI dn), .int (iI q)]) (st := []) ok _ (c_Pl_mayFollow F G1 _ _ (by omega) (by omega) (by rw [hg1 241 (by decide), hg1 242 (by decide)]; exact haq) s0 a0 D t ad) k_596 k_10 k_593 cl_Pl (m_Pl (ad := ad) (t := t) (F := F) (G := G1) rfl).1 (m_Pl rfl).2 k_595 s_Pl_mayFollow q_Pl_mayFollow (by decide) (Nat.le_of_ble_eq_true rfl) (by decide) d_Pl_choose_65 (fun z3 hc3 => ?_)
                have hmz := hc3.1
                have hmy : z3 = 1 ↔ may (prC G) dn q.toNat := by have y := hc3.2; unfold may prC at y ⊢; rw [hg1 241 (by decide)] at y; exact y
                refine g_if_eq ok 130 d_Pl_choose_68 (by decide) (by omega) (fun h4 => ?_) (fun h4 => ?_)
                · have hnp : ¬ pkP (prC G) (clC G) (vX (G 239) (G 240)) dn (c8 co) q.toNat := fun y => absurd (hmy.mpr y.1) (by omega)
                  refine g_iinc (lv' := [(6, .int (iI (q + 1))), (7, .int (iI (chg (c8 co) (G 242 q)))), (0, .ref (ad 238)), (1, .ref (ad 222)), (2, .int (iI dn)), (3, .int (iI rt)), (4, .int (iI co)), (5, .int (iI pl))]) ok d_Pl_choose_130 7 rfl (by decide) rfl ?_
                  refine g_goto ok 27 d_Pl_choose_133 (by decide) ?_
                  refine g_lv [2, 3, 4, 5, 6, 7, 0] rfl ?_
                  exact ih_q (q + 1) (by omega) (fun j z y => by by_cases x : j = q.toNat; subst x; exact hnp y; exact hno j (by omega) y) (by omega)
                · have hmay := hmy.mp (by omega)
                  refine g_iload ok d_Pl_choose_71 0 rfl ?_
                  refine g_aload_n ok d_Pl_choose_73 rfl 1 rfl ?_
                  refine g_iload_n ok d_Pl_choose_74 rfl 3 rfl ?_
                  refine g_iconst ok d_Pl_choose_75 ?_
                  refine g_iload ok d_Pl_choose_76 7 rfl ?_
                  refine g_ishl (z := 1 * 2 ^ q.toNat) ok (iI_shl q.toNat (by omega) (by decide) (by have := pw_le (k := q.toNat) (by omega); omega) (by omega)) d_Pl_choose_78 ?_
                  refine g_ior (z := dn + 2 ^ q.toNat) ok (by rw [Int.one_mul]; exact (bt_up (by omega) (by omega) hmay.1).1) d_Pl_choose_79 ?_
                  refine g_aload_n ok d_Pl_choose_80 rfl 1 rfl ?_
                  refine gI_Pl_colours ok _ rfl k_301 d_Pl_choose_81 ?_
                  refine g_iload ok d_Pl_choose_84 7 rfl ?_
                  refine h_iald ok _ a_242 (by omega) d_Pl_choose_86 ?_
                  refine g_top (y := G 242 q) (by show G1 242 q = _; rw [hg1 242 (by decide)]) ?_
                  have hin2 := bt_in hn10 hdr (by omega) hmay.1
                  have hdT := hdp (dn + 2 ^ q.toNat) hin2.1 hin2.2
                  refine g_callPV (As := [.int (iI (dn + 2 ^ q.toNat)), .int (iI (G 242 q))]) (st := [.int (iI (chg (c8 co) (G 242 q)))]) ok _ (c_Pl_changesAfter F G1 _ _ (by omega) (by omega) (by rw [hg1 240 (by decide)]; exact hdT.1) s0 a0 D t ad) k_600 k_10 k_597 cl_Pl (m_Pl (ad := ad) (t := t) (F := F) (G := G1) rfl).1 (m_Pl rfl).2 k_599 s_Pl_changesAfter q_Pl_changesAfter (by decide) (Nat.le_of_ble_eq_true rfl) (by decide) d_Pl_choose_87 (fun z5 hc5 => ?_)
                  subst hc5
                  refine g_top (y := vC (G 239) (G 240) (dn + 2 ^ q.toNat) (G 242 q)) (by rw [hg1 239 (by decide), hg1 240 (by decide)]) ?_
                  have hvr : 0 ≤ vC (G 239) (G 240) (dn + 2 ^ q.toNat) (G 242 q) ∧ vC (G 239) (G 240) (dn + 2 ^ q.toNat) (G 242 q) ≤ F 238 5 - pop dn (F 238 5).toNat - 1 := by have y := dp_v hn10 hdr hcol (k := q.toNat) (by omega) hmay hdT; rw [hcq] at y; have y2 : (((F 238 5).toNat : Nat) : Int) = F 238 5 := (by omega); rw [y2] at y; exact y
                  have hve : vX (G 239) (G 240) (dn + 2 ^ q.toNat) (clC G q.toNat) = vC (G 239) (G 240) (dn + 2 ^ q.toNat) (G 242 q) := by rw [vX_col (by omega), hcq]
                  refine g_iadd ok d_Pl_choose_90 ?_
                  refine g_iload_n ok d_Pl_choose_91 rfl 4 rfl ?_
                  refine g_icmp_ne ok 130 d_Pl_choose_92 (by decide) (by omega) (by omega) (fun h6 => ?_) (fun h6 => ?_)
                  · have hnp : ¬ pkP (prC G) (clC G) (vX (G 239) (G 240)) dn (c8 co) q.toNat := fun y => by have y2 := y.2; rw [hve, hcq] at y2; omega
                    refine g_iinc (lv' := [(6, .int (iI (q + 1))), (7, .int (iI (chg (c8 co) (G 242 q)))), (0, .ref (ad 238)), (1, .ref (ad 222)), (2, .int (iI dn)), (3, .int (iI rt)), (4, .int (iI co)), (5, .int (iI pl))]) ok d_Pl_choose_130 7 rfl (by decide) rfl ?_
                    refine g_goto ok 27 d_Pl_choose_133 (by decide) ?_
                    refine g_lv [2, 3, 4, 5, 6, 7, 0] rfl ?_
                    exact ih_q (q + 1) (by omega) (fun j z y => by by_cases x : j = q.toNat; subst x; exact hnp y; exact hno j (by omega) y) (by omega)
                  · have hpk : pk (F 238 5).toNat (prC G) (clC G) (vX (G 239) (G 240)) dn (c8 co) q.toNat := ⟨by omega, ⟨hmay, by rw [hve, hcq]; omega⟩, fun j hj => hno j (by omega)⟩
                    have hc8q : c8 (G 242 q) = G 242 q := by unfold c8; rw [if_neg (by omega)]
                    refine g_aload_n ok d_Pl_choose_95 rfl 1 rfl ?_
                    refine gI_Pl_planned ok _ rfl k_302 d_Pl_choose_96 ?_
                    refine g_iload ok d_Pl_choose_99 6 rfl ?_
                    refine g_aload_n ok d_Pl_choose_101 rfl 2 rfl ?_
                    refine g_iload ok d_Pl_choose_102 7 rfl ?_
                    refine h_iald ok _ a_222 (by omega) d_Pl_choose_104 ?_
                    refine g_top (y := G 222 q) (by show G1 222 q = _; rw [hg1 222 (by decide)]) ?_
                    refine h_iast ok _ a_243 (by omega) d_Pl_choose_105 ?_
                    refine g_iload_n ok d_Pl_choose_106 rfl 3 rfl ?_
                    refine g_iconst ok d_Pl_choose_107 ?_
                    refine g_iload ok d_Pl_choose_108 7 rfl ?_
                    refine g_ishl (z := 1 * 2 ^ q.toNat) ok (iI_shl q.toNat (by omega) (by decide) (by have := pw_le (k := q.toNat) (by omega); omega) (by omega)) d_Pl_choose_110 ?_
                    refine g_ior (z := dn + 2 ^ q.toNat) ok (by rw [Int.one_mul]; exact (bt_up (by omega) (by omega) hmay.1).1) d_Pl_choose_111 ?_
                    refine g_istore_n (lv' := [(2, .int (iI (dn + 2 ^ q.toNat))), (7, .int (iI (chg (c8 co) (G 242 q)))), (0, .ref (ad 238)), (1, .ref (ad 222)), (3, .int (iI rt)), (4, .int (iI co)), (5, .int (iI pl)), (6, .int (iI q))]) ok d_Pl_choose_112 rfl (by decide) rfl ?_
                    refine g_iload_n ok d_Pl_choose_113 rfl 4 rfl ?_
                    refine g_iload ok d_Pl_choose_114 1 rfl ?_
                    refine g_isub ok d_Pl_choose_116 ?_
                    refine g_istore_n (lv' := [(3, .int (iI (rt - (chg (c8 co) (G 242 q))))), (2, .int (iI (dn + 2 ^ q.toNat))), (7, .int (iI (chg (c8 co) (G 242 q)))), (0, .ref (ad 238)), (1, .ref (ad 222)), (4, .int (iI co)), (5, .int (iI pl)), (6, .int (iI q))]) ok d_Pl_choose_117 rfl (by decide) rfl ?_
                    refine g_aload_n ok d_Pl_choose_118 rfl 3 rfl ?_
                    refine gI_Pl_colours ok _ rfl k_301 d_Pl_choose_119 ?_
                    refine g_iload ok d_Pl_choose_122 7 rfl ?_
                    refine h_iald ok _ a_242 (by omega) d_Pl_choose_124 ?_
                    refine g_top (y := G 242 q) (by show (gU G1 243 pl (G 222 q)) 242 q = _; rw [gU_a (show 242 ≠ 243 by omega), hg1 242 (by decide)]) ?_
                    refine g_istore (lv' := [(4, .int (iI (G 242 q))), (3, .int (iI (rt - (chg (c8 co) (G 242 q))))), (2, .int (iI (dn + 2 ^ q.toNat))), (7, .int (iI (chg (c8 co) (G 242 q)))), (0, .ref (ad 238)), (1, .ref (ad 222)), (5, .int (iI pl)), (6, .int (iI q))]) ok d_Pl_choose_125 (by decide) rfl ?_
                    refine g_goto ok 136 d_Pl_choose_127 (by decide) ?_
                    refine g_iinc (lv' := [(5, .int (iI (pl + 1))), (4, .int (iI (G 242 q))), (3, .int (iI (rt - (chg (c8 co) (G 242 q))))), (2, .int (iI (dn + 2 ^ q.toNat))), (7, .int (iI (chg (c8 co) (G 242 q)))), (0, .ref (ad 238)), (1, .ref (ad 222)), (6, .int (iI q))]) ok d_Pl_choose_136 6 rfl (by decide) rfl ?_
                    refine g_goto ok 15 d_Pl_choose_139 (by decide) ?_
                    refine g_lv [5, 6, 3, 2, 1, 0] rfl ?_
                    exact ih_p (pl + 1) (dn + 2 ^ q.toNat) (rt - (chg (c8 co) (G 242 q))) (G 242 q) (gU G1 243 pl (G 222 q)) (ks ++ [q.toNat]) (by omega) (by rw [lenN]; omega) (by rw [chS_snoc, hdn]) (hin2) (by rw [pop_add (by omega) (by omega) hmay.1, if_pos (by omega)]; omega) (by omega) (by rw [chC_snoc, hcq]; exact hc8q) (by rw [hc8q, vX_col (by omega)]; have y := hpk.2.1.2; rw [hve, hcq] at y; omega) (chn_snoc hch (by rw [← hdn, ← hcc]; exact hpk)) (plR_add hplr (by omega) (by rw [hqq])) (fun a z => (gU_k _ _ _ z).trans (hg1 a z)) (by omega)
              refine g_iload ok d_Pl_choose_36 4 rfl ?_
              refine g_iconst ok d_Pl_choose_38 ?_
              refine g_icmp_eq ok 54 d_Pl_choose_39 (by decide) (by omega) (by omega) (fun h7 => ?_) (fun h7 => ?_)
              · refine g_iconst ok d_Pl_choose_54 ?_
                refine g_goto ok 59 d_Pl_choose_55 (by decide) ?_
                refine g_top (y := chg (c8 co) (G 242 q)) (by unfold chg c8; rw [if_neg (by split <;> omega)]) ?_
                refine g_z ?_
                exact J_c  
              · refine g_iload ok d_Pl_choose_42 4 rfl ?_
                refine g_aload_n ok d_Pl_choose_44 rfl 0 rfl ?_
                refine gI_Pl_colours ok _ rfl k_301 d_Pl_choose_45 ?_
                refine g_iload ok d_Pl_choose_48 6 rfl ?_
                refine h_iald ok _ a_242 (by omega) d_Pl_choose_50 ?_
                refine g_top (y := G 242 q) (by show G1 242 q = _; rw [hg1 242 (by decide)]) ?_
                refine g_icmp_ne ok 58 d_Pl_choose_51 (by decide) (by omega) (by omega) (fun h8 => ?_) (fun h8 => ?_)
                · refine g_iconst ok d_Pl_choose_58 ?_
                  refine g_top (y := chg (c8 co) (G 242 q)) (by unfold chg c8; rw [if_pos (by split <;> omega)]) ?_
                  refine g_z ?_
                  exact J_c  
                · refine g_iconst ok d_Pl_choose_54 ?_
                  refine g_goto ok 59 d_Pl_choose_55 (by decide) ?_
                  refine g_top (y := chg (c8 co) (G 242 q)) (by unfold chg c8; rw [if_neg (by split <;> omega)]) ?_
                  refine g_z ?_
                  exact J_c  
        refine g_z ?_
        refine g_lv [1, 2, 3, 4, 5, 6, 0] rfl ?_
        exact L_q ((F 238 5 + 1 - 0 : Int).toNat + 1) 0 (by omega) (fun j z => by omega) (by omega)
  refine g_z ?_
  refine g_lv [4, 5, 3, 2, 1, 0] rfl ?_
  exact L_p ((F 238 5 + 1 - 0 : Int).toNat + 1) 0 0 (G 239 0) (-1) G ([]) (by omega) (rfl) (rfl) (by omega) (pop_0 _) (by omega) (rfl) (rfl) (trivial) (fun i k z => by simp at z) (fun _ _ => rfl) (by omega)
def prS (F : Nat → Nat → Int) (G : Nat → Int → Int) (k j : Nat) : Prop := j < k ∧ mtC F (shP G (k : Int)) (shP G (j : Int))
def clS (F : Nat → Nat → Int) (G : Nat → Int → Int) (k : Nat) : Int := F (shP G (k : Int)) 3
theorem sqOk_up {F F1 : Nat → Nat → Int} {G : Nat → Int → Int} {n : Int} (h : sqOk F G n) (hf : ∀ a b, a ≠ 238 → F1 a b = F a b) : sqOk F1 G n := fun k q1 q2 => by
  obtain ⟨h1, h2, h3⟩ := h k q1 q2
  have hne : shP G k ≠ 238 := by
    unfold shP
    omega
  unfold bxC at h2 ⊢
  rw [hf _ _ hne, hf _ _ hne, hf _ _ hne, hf _ _ hne, hf _ _ hne]
  exact ⟨h1, h2, h3⟩
theorem ga_ok {F : Nat → Nat → Int} {G G1 : Nat → Int → Int} {n : Int} (hn : n ≤ 10) (hs : sqOk F G n) (h : gaI F G G1 n) : ahOk G1 n := fun k q1 q2 => by
  obtain ⟨h1, h2, h3⟩ := h.2 k q1 q2
  have hp := pw_le (k := k.toNat) (by omega)
  have hc := (hs k q1 q2).2.2
  refine ⟨by omega, fun j hj => ((h3 j).mp hj).1, by omega⟩
theorem may_cong {pr pr' : Nat → Nat → Prop} {S : Int} {k : Nat} (h : ∀ j, j < k → (pr k j ↔ pr' k j)) : may pr S k ↔ may pr' S k := by
  unfold may
  exact and_congr Iff.rfl ⟨fun z j hj hp => z j hj ((h j hj).mpr hp), fun z j hj hp => z j hj ((h j hj).mp hp)⟩
theorem dpS_pr {n : Nat} {pr pr' : Nat → Nat → Prop} {col col' : Nat → Int} {few fri : Int → Int} {S : Int} (h : ∀ k j, k < n → j < k → (pr k j ↔ pr' k j)) (hc : ∀ k, k < n → col k = col' k) (hd : dpS n pr col few fri S) : dpS n pr' col' few fri S := by
  have m : ∀ k, k < n → (may pr S k ↔ may pr' S k) := fun k hk => may_cong (fun j hj => h k j hk hj)
  obtain ⟨h1, h2, h3, h4⟩ := hd
  refine ⟨h1, h2, h3, fun e => ?_⟩
  obtain ⟨g1, ⟨k, a, b, c⟩, g3, g4⟩ := h4 e
  refine ⟨g1, ⟨k, a, (m k a).mp b, by rw [← hc k a]; exact c⟩, fun j hj hm => by rw [← hc j hj]; exact g3 j hj ((m j hj).mpr hm), fun c hc8 => (g4 c hc8).trans ?_⟩
  constructor
  · rintro ⟨j, a, b, d, f⟩
    exact ⟨j, a, (m j a).mp b, by rw [← hc j a]; exact d, by rw [← hc j a]; exact f⟩
  · rintro ⟨j, a, b, d, f⟩
    exact ⟨j, a, (m j a).mpr b, by rw [hc j a]; exact d, by rw [hc j a]; exact f⟩
theorem pkP_pr {n : Nat} {pr pr' : Nat → Nat → Prop} {col col' : Nat → Int} {val : Int → Int → Int} {S c : Int} {k : Nat} (h : ∀ k j, k < n → j < k → (pr k j ↔ pr' k j)) (hc : ∀ k, k < n → col k = col' k) (hk : k < n) : pkP pr col val S c k ↔ pkP pr' col' val S c k := by
  unfold pkP
  rw [may_cong (fun j hj => h k j hk hj), hc k hk]
theorem chn_pr {n : Nat} {pr pr' : Nat → Nat → Prop} {col col' : Nat → Int} {val : Int → Int → Int} (h : ∀ k j, k < n → j < k → (pr k j ↔ pr' k j)) (hc : ∀ k, k < n → col k = col' k) : ∀ {ks : List Nat} {S c : Int}, chn n pr col val S c ks → chn n pr' col' val S c ks
  | [], _, _, _ => trivial
  | k :: ks, S, c, z => by
    obtain ⟨⟨a, b, d⟩, f⟩ := z
    refine ⟨⟨a, (pkP_pr h hc a).mp b, fun j hj y => d j hj ((pkP_pr h hc (by omega)).mpr y)⟩, ?_⟩
    rw [← hc k a]
    exact chn_pr h hc f
theorem ga_pr {F : Nat → Nat → Int} {G G1 : Nat → Int → Int} {n : Int} (h : gaI F G G1 n) : (∀ k j, k < n.toNat → j < k → (prC G1 k j ↔ prS F G k j)) ∧ ∀ k, k < n.toNat → clC G1 k = clS F G k := by
  refine ⟨fun k j hk hj => ?_, fun k hk => (h.2 (k : Int) (by omega) (by omega)).1⟩
  have z := (h.2 (k : Int) (by omega) (by omega)).2.2 j
  unfold prC prS
  rw [z]
  exact ⟨fun y => ⟨hj, y.2⟩, fun y => ⟨by omega, y.2⟩⟩
theorem chn_lt {n : Nat} {pr : Nat → Nat → Prop} {col : Nat → Int} {val : Int → Int → Int} : ∀ {ks : List Nat} {S c : Int}, chn n pr col val S c ks → ∀ k ∈ ks, k < n
  | [], _, _, _, k, h => absurd h (by simp)
  | j :: ks, _, _, z, k, h => by
    rcases List.mem_cons.mp h with q | q
    · rw [q]
      exact z.1.1
    · exact chn_lt z.2 k q
theorem prS_up {F : Nat → Nat → Int} {G : Nat → Int → Int} {v : Int} : prS (fU F 238 5 v) G = prS F G := by
  funext k j
  unfold prS mtC
  rw [fU_ja (by decide), fU_ja (by decide), fU_ja (by decide), fU_ja (by decide), fU_ja (by decide), fU_ja (by decide), fU_ja (by decide), fU_ja (by decide)]
theorem clS_up {F : Nat → Nat → Int} {G : Nat → Int → Int} {v : Int} : clS (fU F 238 5 v) G = clS F G := by
  funext k
  unfold clS
  rw [fU_ja (by decide)]
theorem d_Pl_plan_0 : decode b_Pl_plan 0 = .ok (.aload_n 0, 1) := by decide +kernel
theorem d_Pl_plan_1 : decode b_Pl_plan 1 = .ok (.iload_n 3, 1) := by decide +kernel
theorem d_Pl_plan_2 : decode b_Pl_plan 2 = .ok (.bipush 10, 2) := by decide +kernel
theorem d_Pl_plan_4 : decode b_Pl_plan 4 = .ok (.invokestatic 27, 3) := by decide +kernel
theorem d_Pl_plan_7 : decode b_Pl_plan 7 = .ok (.putfield 33, 3) := by decide +kernel
theorem d_Pl_plan_10 : decode b_Pl_plan 10 = .ok (.aload_n 0, 1) := by decide +kernel
theorem d_Pl_plan_11 : decode b_Pl_plan 11 = .ok (.aload_n 1, 1) := by decide +kernel
theorem d_Pl_plan_12 : decode b_Pl_plan 12 = .ok (.aload_n 2, 1) := by decide +kernel
theorem d_Pl_plan_13 : decode b_Pl_plan 13 = .ok (.invokevirtual 37, 3) := by decide +kernel
theorem d_Pl_plan_16 : decode b_Pl_plan 16 = .ok (.aload_n 0, 1) := by decide +kernel
theorem d_Pl_plan_17 : decode b_Pl_plan 17 = .ok (.invokevirtual 41, 3) := by decide +kernel
theorem d_Pl_plan_20 : decode b_Pl_plan 20 = .ok (.aload_n 0, 1) := by decide +kernel
theorem d_Pl_plan_21 : decode b_Pl_plan 21 = .ok (.aload_n 2, 1) := by decide +kernel
theorem d_Pl_plan_22 : decode b_Pl_plan 22 = .ok (.invokevirtual 44, 3) := by decide +kernel
theorem d_Pl_plan_25 : decode b_Pl_plan 25 = .ok (.iconst 0, 1) := by decide +kernel
theorem d_Pl_plan_26 : decode b_Pl_plan 26 = .ok (.istore 4, 2) := by decide +kernel
theorem d_Pl_plan_28 : decode b_Pl_plan 28 = .ok (.iload 4, 2) := by decide +kernel
theorem d_Pl_plan_30 : decode b_Pl_plan 30 = .ok (.aload_n 0, 1) := by decide +kernel
theorem d_Pl_plan_31 : decode b_Pl_plan 31 = .ok (.getfield 33, 3) := by decide +kernel
theorem d_Pl_plan_34 : decode b_Pl_plan 34 = .ok (.if_icmp .ge 20, 3) := by decide +kernel
theorem d_Pl_plan_37 : decode b_Pl_plan 37 = .ok (.aload_n 2, 1) := by decide +kernel
theorem d_Pl_plan_38 : decode b_Pl_plan 38 = .ok (.iload 4, 2) := by decide +kernel
theorem d_Pl_plan_40 : decode b_Pl_plan 40 = .ok (.aload_n 0, 1) := by decide +kernel
theorem d_Pl_plan_41 : decode b_Pl_plan 41 = .ok (.getfield 24, 3) := by decide +kernel
theorem d_Pl_plan_44 : decode b_Pl_plan 44 = .ok (.iload 4, 2) := by decide +kernel
theorem d_Pl_plan_46 : decode b_Pl_plan 46 = .ok (.iaload, 1) := by decide +kernel
theorem d_Pl_plan_47 : decode b_Pl_plan 47 = .ok (.iastore, 1) := by decide +kernel
theorem d_Pl_plan_48 : decode b_Pl_plan 48 = .ok (.iinc 4 1, 3) := by decide +kernel
theorem d_Pl_plan_51 : decode b_Pl_plan 51 = .ok (.goto (-23), 3) := by decide +kernel
theorem d_Pl_plan_54 : decode b_Pl_plan 54 = .ok (.aload_n 0, 1) := by decide +kernel
theorem d_Pl_plan_55 : decode b_Pl_plan 55 = .ok (.getfield 9, 3) := by decide +kernel
theorem d_Pl_plan_58 : decode b_Pl_plan 58 = .ok (.iconst 0, 1) := by decide +kernel
theorem d_Pl_plan_59 : decode b_Pl_plan 59 = .ok (.iaload, 1) := by decide +kernel
theorem d_Pl_plan_60 : decode b_Pl_plan 60 = .ok (.ireturn, 1) := by decide +kernel
set_option maxHeartbeats 1000000 in
set_option maxRecDepth 100000 in
theorem c_Pl_plan (F : Nat → Nat → Int) (G : Nat → Int → Int) (t0 : Int) (ht : 0 ≤ t0 ∧ t0 ≤ 10) (hs : sqOk F G t0) (hr0 : ∀ T : Int, 0 ≤ T → T < 1024 → 0 ≤ G 240 T ∧ G 240 T < 256) : cI y_Pl_plan b_Pl_plan 5 (some .int) 2 49 F G (fun ad => [.ref (ad 238), .ref (ad 1), .ref (ad 222), .int (iI t0)]) (fun z F' G' => F' = (fU F 238 5 t0) ∧ (∀ a, a ≠ 222 → a ≠ 239 → a ≠ 240 → a ≠ 241 → a ≠ 242 → a ≠ 243 → G' a = G a) ∧ (∀ T : Int, 0 ≤ T → T < 1024 → 0 ≤ G' 240 T ∧ G' 240 T < 256) ∧ (∀ i : Int, ¬ (0 ≤ i ∧ i < t0) → G' 222 i = G 222 i) ∧ ∃ few fri ks, (∀ T : Int, 0 ≤ T → T ≤ 2 ^ t0.toNat - 1 → dpS t0.toNat (prS F G) (clS F G) few fri T) ∧ (ks.length : Int) = t0 ∧ chn t0.toNat (prS F G) (clS F G) (vX few fri) 0 8 ks ∧ z = few 0 ∧ ∀ (i : Nat) (k : Nat), ks[i]? = some k → G' 222 (i : Int) = G 222 (k : Int)) := by
  have hs1 : sqOk (fU F 238 5 t0) G t0 := sqOk_up hs (fun a b z => fU_ka z)
  intro s0 a0 D t ad
  refine g_startI (by decide +kernel) (Nat.le_of_ble_eq_true rfl) (fun p l e R s m args below meth c A ok => ?_)
  show gW p l e R s m args below meth c _ D A 5 (gZ0 s) 0 0 ad 265 (mem ad t F G) 0 [(0, .ref (ad 238)), (1, .ref (ad 1)), (2, .ref (ad 222)), (3, .int (iI t0))] []
  refine g_aload_n ok d_Pl_plan_0 rfl 0 rfl ?_
  refine g_iload_n ok d_Pl_plan_1 rfl 3 rfl ?_
  refine g_bipush ok (by decide) d_Pl_plan_2 ?_
  refine g_callPS (As := [.int (iI t0), .int (iI 10)]) (st := [.ref (ad 238)]) ok (c_Ma_min F G _ _ (by omega) (by omega) s0 a0 D t ad) k_417 k_18 k_580 k_416 q_Ma_min (by decide) (Nat.le_of_ble_eq_true rfl) (by decide) d_Pl_plan_4 (fun z1 hc1 => ?_)
  subst hc1
  refine g_top (y := t0) (by omega) ?_
  refine pI_Pl_total ok _ rfl k_303 d_Pl_plan_7 ?_
  refine g_aload_n ok d_Pl_plan_10 rfl 0 rfl ?_
  refine g_aload_n ok d_Pl_plan_11 rfl 1 rfl ?_
  refine g_aload_n ok d_Pl_plan_12 rfl 2 rfl ?_
  refine g_callVV (As := [.ref (ad 1), .ref (ad 222)]) (st := []) ok _ (c_Pl_gather (fU F 238 5 t0) G (by rw [fU_hit]; exact ht) (by rw [fU_hit]; exact hs1) s0 a0 D t ad) k_584 k_10 k_581 cl_Pl (m_Pl (ad := ad) (t := t) (F := (fU F 238 5 t0)) (G := G) rfl).1 (m_Pl rfl).2 k_583 s_Pl_gather q_Pl_gather (by decide) (Nat.le_of_ble_eq_true rfl) (by decide) d_Pl_plan_13 (fun ce1 hc2 => ?_)
  obtain ⟨Fx, G1, rfl, hFx, hG1⟩ := hc2
  rw [hFx]
  rw [fU_hit] at hG1
  have hah := ga_ok ht.2 hs1 hG1
  refine g_aload_n ok d_Pl_plan_16 rfl 0 rfl ?_
  refine g_callVV (As := []) (st := []) ok _ (c_Pl_weighSets (fU F 238 5 t0) G1 (by rw [fU_hit]; exact ht) (by rw [fU_hit]; exact hah) (by rw [hG1.1 240 (by decide) (by decide)]; exact hr0) s0 a0 D t ad) k_592 k_10 k_589 cl_Pl (m_Pl (ad := ad) (t := t) (F := (fU F 238 5 t0)) (G := G1) rfl).1 (m_Pl rfl).2 k_591 s_Pl_weighSets q_Pl_weighSets (by decide) (Nat.le_of_ble_eq_true rfl) (by decide) d_Pl_plan_17 (fun ce1 hc3 => ?_)
  obtain ⟨Fy, G2, rfl, hFy, hG2, hdp, hr2⟩ := hc3
  rw [hFy]
  rw [fU_hit] at hdp
  have e1 : prC G2 = prC G1 := by funext k j; unfold prC; rw [hG2 241 (by decide) (by decide)]
  have e2 : clC G2 = clC G1 := by funext k; unfold clC; rw [hG2 242 (by decide) (by decide)]
  rw [← e1, ← e2] at hdp
  have e222 : G2 222 = G 222 := (hG2 222 (by decide) (by decide)).trans (hG1.1 222 (by decide) (by decide))
  refine g_aload_n ok d_Pl_plan_20 rfl 0 rfl ?_
  refine g_aload_n ok d_Pl_plan_21 rfl 2 rfl ?_
  refine g_callVV (As := [.ref (ad 222)]) (st := []) ok _ (c_Pl_choose (fU F 238 5 t0) G2 (by rw [fU_hit]; exact ht) (by rw [fU_hit]; unfold ahOk at hah ⊢; rw [hG2 241 (by decide) (by decide), hG2 242 (by decide) (by decide)]; exact hah) (by rw [fU_hit, e222]; exact fun k q1 q2 => (hs k q1 q2).1) (by rw [fU_hit]; exact hdp) s0 a0 D t ad) k_608 k_10 k_605 cl_Pl (m_Pl (ad := ad) (t := t) (F := (fU F 238 5 t0)) (G := G2) rfl).1 (m_Pl rfl).2 k_607 s_Pl_choose q_Pl_choose (by decide) (Nat.le_of_ble_eq_true rfl) (by decide) d_Pl_plan_22 (fun ce1 hc4 => ?_)
  obtain ⟨Fz, G3, rfl, hFz, hG3, ks, hkl, hch, hpr⟩ := hc4
  rw [hFz]
  rw [fU_hit] at hkl hch
  refine g_iconst ok d_Pl_plan_25 ?_
  refine g_istore (lv' := [(4, .int (iI 0)), (0, .ref (ad 238)), (1, .ref (ad 1)), (2, .ref (ad 222)), (3, .int (iI t0))]) ok d_Pl_plan_26 (by decide) rfl ?_
  have L_i : ∀ (n_i : Nat) (i : Int) (G4 : Nat → Int → Int), (0 ≤ i ∧ i ≤ t0) → ((∀ a, a ≠ 222 → G4 a = G3 a) ∧ (∀ j : Int, 0 ≤ j → j < i → G4 222 j = G3 243 j) ∧ ∀ j : Int, ¬ (0 ≤ j ∧ j < i) → G4 222 j = G3 222 j) → (t0 + 1 - i) < (n_i : Int) → gW p l e R s m args below meth c (MQ below (gQi D A ad 265 (fun z ce' => ∃ F' G', ce' = mem ad t F' G' ∧ (fun z F' G' => F' = (fU F 238 5 t0) ∧ (∀ a, a ≠ 222 → a ≠ 239 → a ≠ 240 → a ≠ 241 → a ≠ 242 → a ≠ 243 → G' a = G a) ∧ (∀ T : Int, 0 ≤ T → T < 1024 → 0 ≤ G' 240 T ∧ G' 240 T < 256) ∧ (∀ i : Int, ¬ (0 ≤ i ∧ i < t0) → G' 222 i = G 222 i) ∧ ∃ few fri ks, (∀ T : Int, 0 ≤ T → T ≤ 2 ^ t0.toNat - 1 → dpS t0.toNat (prS F G) (clS F G) few fri T) ∧ (ks.length : Int) = t0 ∧ chn t0.toNat (prS F G) (clS F G) (vX few fri) 0 8 ks ∧ z = few 0 ∧ ∀ (i : Nat) (k : Nat), ks[i]? = some k → G' 222 (i : Int) = G 222 (k : Int)) z F' G')) args s 0 0 A) D A 5 (gZ) 0 0 ad 265 (mem ad t (fU F 238 5 t0) G4) 28 [(0, .ref (ad 238)), (1, .ref (ad 1)), (2, .ref (ad 222)), (3, .int (iI t0)), (4, .int (iI i))] [] := by
    intro n_i
    induction n_i with
    | zero =>
      intro i G4 hi hG4 hm_i
      exact absurd hm_i (by omega)
    | succ n_i ih_i =>
      intro i G4 hi hG4 hm_i
      refine g_iload ok d_Pl_plan_28 4 rfl ?_
      refine g_aload_n ok d_Pl_plan_30 rfl 0 rfl ?_
      refine gI_Pl_total ok _ rfl k_303 d_Pl_plan_31 ?_
      refine g_top (y := t0) (by show (fU F 238 5 t0) 238 5 = _; rw [fU_hit]) ?_
      refine g_icmp_ge ok 54 d_Pl_plan_34 (by decide) (by omega) (by omega) (fun h5 => ?_) (fun h5 => ?_)
      · rw [show i = t0 by omega] at hG4
        refine g_aload_n ok d_Pl_plan_54 rfl 0 rfl ?_
        refine gI_Pl_fewest ok _ rfl k_298 d_Pl_plan_55 ?_
        refine g_iconst ok d_Pl_plan_58 ?_
        refine h_iald ok _ a_239 (by omega) d_Pl_plan_59 ?_
        have hpr1 := ga_pr hG1
        rw [e1] at hdp hch
        rw [e2] at hdp hch
        rw [prS_up, clS_up] at hpr1
        exact g_iret ok d_Pl_plan_60 ⟨_, _, rfl, rfl, fun a z1 z2 z3 z4 z5 z6 => by rw [hG4.1 a z1, hG3 a z6, hG2 a z2 z3, hG1.1 a z4 z5], fun T z1 z2 => by rw [hG4.1 240 (by decide), hG3 240 (by decide)]; exact hr2 T z1 z2, fun i z => by rw [hG4.2.2 i (by omega), hG3 222 (by decide), e222], G2 239, G2 240, ks, fun T z1 z2 => dpS_pr hpr1.1 hpr1.2 (hdp T z1 z2), hkl, chn_pr hpr1.1 hpr1.2 hch, by rw [hG4.1 239 (by decide), hG3 239 (by decide)], fun i k hik => by have hil := (List.getElem?_eq_some_iff.mp hik).1; rw [hG4.2.1 (i : Int) (by omega) (by omega), hpr i k hik, e222]⟩
      · refine g_aload_n ok d_Pl_plan_37 rfl 2 rfl ?_
        refine g_iload ok d_Pl_plan_38 4 rfl ?_
        refine g_aload_n ok d_Pl_plan_40 rfl 0 rfl ?_
        refine gI_Pl_planned ok _ rfl k_302 d_Pl_plan_41 ?_
        refine g_iload ok d_Pl_plan_44 4 rfl ?_
        refine h_iald ok _ a_243 (by omega) d_Pl_plan_46 ?_
        refine h_iast ok _ a_222 (by omega) d_Pl_plan_47 ?_
        refine g_iinc (lv' := [(4, .int (iI (i + 1))), (0, .ref (ad 238)), (1, .ref (ad 1)), (2, .ref (ad 222)), (3, .int (iI t0))]) ok d_Pl_plan_48 4 rfl (by decide) rfl ?_
        refine g_goto ok 28 d_Pl_plan_51 (by decide) ?_
        refine g_lv [1, 2, 3, 4, 0] rfl ?_
        exact ih_i (i + 1) (gU G4 222 i (G4 243 i)) (by omega) (⟨fun a z => (gU_k _ _ _ z).trans (hG4.1 a z), fun j q1 q2 => by by_cases y : j = i; subst y; rw [gU_hit, hG4.1 243 (by decide)]; rw [gU_i y]; exact hG4.2.1 j q1 (by omega), fun j q => by rw [gU_i (by omega)]; exact hG4.2.2 j (by omega)⟩) (by omega)
  refine g_z ?_
  refine g_lv [1, 2, 3, 4, 0] rfl ?_
  exact L_i ((t0 + 1 - 0 : Int).toNat + 1) 0 G3 (by omega) (⟨fun _ _ => rfl, fun j q1 q2 => by omega, fun _ _ => rfl⟩) (by omega)
