/-- the edges of the rings before ring q -/
def oC (F : Nat → Nat → Int) (k : Nat) : Nat → Int
  | 0 => 0
  | q + 1 => oC F k q + F (k + 3 + 3 * q) 2
theorem oC_step {F : Nat → Nat → Int} {k : Nat} {r : Int} (h : 0 ≤ r) : oC F k (r + 1).toNat = oC F k r.toNat + F (k + 3 + 3 * r.toNat) 2 := by
  rw [show (r + 1).toNat = r.toNat + 1 by omega]
  rfl
def eAt (G : Nat → Int → Int) (z a b c d f : Int) : Prop := G 225 z = a ∧ G 226 z = b ∧ G 227 z = c ∧ G 228 z = d ∧ G 229 z = f
theorem eAt_new (G : Nat → Int → Int) (z a b c d f : Int) : eAt (gU (gU (gU (gU (gU G 225 z a) 226 z b) 227 z c) 228 z d) 229 z f) z a b c d f := by
  refine ⟨?_, ?_, ?_, ?_, ?_⟩
  · rw [gU_a (by decide), gU_a (by decide), gU_a (by decide), gU_a (by decide), gU_hit]
  · rw [gU_a (by decide), gU_a (by decide), gU_a (by decide), gU_hit]
  · rw [gU_a (by decide), gU_a (by decide), gU_hit]
  · rw [gU_a (by decide), gU_hit]
  · rw [gU_hit]
theorem eAt_old {G : Nat → Int → Int} {z w a b c d f : Int} (h : eAt G w a b c d f) (hw : w ≠ z) (a' b' c' d' f' : Int) : eAt (gU (gU (gU (gU (gU G 225 z a') 226 z b') 227 z c') 228 z d') 229 z f') w a b c d f := by
  obtain ⟨h1, h2, h3, h4, h5⟩ := h
  refine ⟨?_, ?_, ?_, ?_, ?_⟩
  · rw [gU_a (by decide), gU_a (by decide), gU_a (by decide), gU_a (by decide), gU_i hw, h1]
  · rw [gU_a (by decide), gU_a (by decide), gU_a (by decide), gU_i hw, gU_a (by decide), h2]
  · rw [gU_a (by decide), gU_a (by decide), gU_i hw, gU_a (by decide), gU_a (by decide), h3]
  · rw [gU_a (by decide), gU_i hw, gU_a (by decide), gU_a (by decide), gU_a (by decide), h4]
  · rw [gU_i hw, gU_a (by decide), gU_a (by decide), gU_a (by decide), gU_a (by decide), h5]
/-- edge i of ring q lies in the inspector's arrays -/
def gEdge (F : Nat → Nat → Int) (G : Nat → Int → Int) (k q : Nat) (i : Int) (G1 : Nat → Int → Int) : Prop := eAt G1 (oC F k q + i) (G (k + 3 + 3 * q + 1) i) (G (k + 3 + 3 * q + 2) i) (G (k + 3 + 3 * q + 1) (rJ (F (k + 3 + 3 * q) 2) i)) (G (k + 3 + 3 * q + 2) (rJ (F (k + 3 + 3 * q) 2) i)) (oC F k q + rJ (F (k + 3 + 3 * q) 2) i)
def gFr (G G1 : Nat → Int → Int) : Prop := ∀ a : Nat, (a < 225 ∨ 229 < a) → G1 a = G a
theorem gFr_set {G G1 : Nat → Int → Int} (h : gFr G G1) (z a b c d f : Int) : gFr G (gU (gU (gU (gU (gU G1 225 z a) 226 z b) 227 z c) 228 z d) 229 z f) := fun q hq => by
  rw [gU_k _ _ _ (by omega), gU_k _ _ _ (by omega), gU_k _ _ _ (by omega), gU_k _ _ _ (by omega), gU_k _ _ _ (by omega)]
  exact h q hq
def gRing (F : Nat → Nat → Int) (G : Nat → Int → Int) (k q : Nat) (n : Int) (G1 : Nat → Int → Int) : Prop := ∀ j : Int, 0 ≤ j → j < n → gEdge F G k q j G1
theorem oC_le {F : Nat → Nat → Int} {k : Nat} (h : ∀ q : Nat, q < 4 → 0 ≤ F (k + 3 + 3 * q) 2 ∧ F (k + 3 + 3 * q) 2 ≤ 24) : ∀ n : Nat, n ≤ 4 → 0 ≤ oC F k n ∧ oC F k n ≤ 24 * n
  | 0, _ => ⟨by unfold oC; omega, by unfold oC; omega⟩
  | n + 1, hn => by
    have := oC_le h n (by omega)
    have := h n (by omega)
    show 0 ≤ oC F k n + _ ∧ oC F k n + _ ≤ _
    omega
theorem oC_mono {F : Nat → Nat → Int} {k : Nat} (h : ∀ q : Nat, q < 4 → 0 ≤ F (k + 3 + 3 * q) 2) {a : Nat} : ∀ n : Nat, n ≤ 4 → a < n → oC F k a + F (k + 3 + 3 * a) 2 ≤ oC F k n
  | 0, _, h1 => by omega
  | n + 1, hn, h1 => by
    show _ ≤ oC F k n + _
    by_cases e : a = n
    · subst e
      exact Int.le_refl _
    · have := oC_mono h n (by omega) (a := a) (by omega)
      have := h n (by omega)
      omega
theorem oC_split {F : Nat → Nat → Int} {k : Nat} {z : Int} (hz : 0 ≤ z) : ∀ n : Nat, z < oC F k n → ∃ (q : Nat) (i : Int), q < n ∧ 0 ≤ i ∧ i < F (k + 3 + 3 * q) 2 ∧ z = oC F k q + i
  | 0, h => by
    change z < 0 at h
    omega
  | n + 1, h => by
    by_cases e : z < oC F k n
    · obtain ⟨q, i, h1, h2⟩ := oC_split hz n e
      exact ⟨q, i, by omega, h2⟩
    · change z < oC F k n + _ at h
      exact ⟨n, z - oC F k n, by omega, by omega, by omega, by omega⟩
theorem d_In_gatherEdges_0 : decode b_In_gatherEdges 0 = .ok (.aload_n 0, 1) := by decide +kernel
theorem d_In_gatherEdges_1 : decode b_In_gatherEdges 1 = .ok (.iconst 0, 1) := by decide +kernel
theorem d_In_gatherEdges_2 : decode b_In_gatherEdges 2 = .ok (.putfield 82, 3) := by decide +kernel
theorem d_In_gatherEdges_5 : decode b_In_gatherEdges 5 = .ok (.iconst 0, 1) := by decide +kernel
theorem d_In_gatherEdges_6 : decode b_In_gatherEdges 6 = .ok (.istore_n 2, 1) := by decide +kernel
theorem d_In_gatherEdges_7 : decode b_In_gatherEdges 7 = .ok (.iload_n 2, 1) := by decide +kernel
theorem d_In_gatherEdges_8 : decode b_In_gatherEdges 8 = .ok (.iconst 4, 1) := by decide +kernel
theorem d_In_gatherEdges_9 : decode b_In_gatherEdges 9 = .ok (.if_icmp .ge 145, 3) := by decide +kernel
theorem d_In_gatherEdges_12 : decode b_In_gatherEdges 12 = .ok (.aload_n 1, 1) := by decide +kernel
theorem d_In_gatherEdges_13 : decode b_In_gatherEdges 13 = .ok (.getfield 76, 3) := by decide +kernel
theorem d_In_gatherEdges_16 : decode b_In_gatherEdges 16 = .ok (.iload_n 2, 1) := by decide +kernel
theorem d_In_gatherEdges_17 : decode b_In_gatherEdges 17 = .ok (.aaload, 1) := by decide +kernel
theorem d_In_gatherEdges_18 : decode b_In_gatherEdges 18 = .ok (.astore_n 3, 1) := by decide +kernel
theorem d_In_gatherEdges_19 : decode b_In_gatherEdges 19 = .ok (.aload_n 0, 1) := by decide +kernel
theorem d_In_gatherEdges_20 : decode b_In_gatherEdges 20 = .ok (.getfield 82, 3) := by decide +kernel
theorem d_In_gatherEdges_23 : decode b_In_gatherEdges 23 = .ok (.istore 4, 2) := by decide +kernel
theorem d_In_gatherEdges_25 : decode b_In_gatherEdges 25 = .ok (.iconst 0, 1) := by decide +kernel
theorem d_In_gatherEdges_26 : decode b_In_gatherEdges 26 = .ok (.istore 5, 2) := by decide +kernel
theorem d_In_gatherEdges_28 : decode b_In_gatherEdges 28 = .ok (.iload 5, 2) := by decide +kernel
theorem d_In_gatherEdges_30 : decode b_In_gatherEdges 30 = .ok (.aload_n 3, 1) := by decide +kernel
theorem d_In_gatherEdges_31 : decode b_In_gatherEdges 31 = .ok (.getfield 53, 3) := by decide +kernel
theorem d_In_gatherEdges_34 : decode b_In_gatherEdges 34 = .ok (.if_icmp .ge 114, 3) := by decide +kernel
theorem d_In_gatherEdges_37 : decode b_In_gatherEdges 37 = .ok (.aload_n 0, 1) := by decide +kernel
theorem d_In_gatherEdges_38 : decode b_In_gatherEdges 38 = .ok (.getfield 82, 3) := by decide +kernel
theorem d_In_gatherEdges_41 : decode b_In_gatherEdges 41 = .ok (.bipush 96, 2) := by decide +kernel
theorem d_In_gatherEdges_43 : decode b_In_gatherEdges 43 = .ok (.if_icmp .ge 105, 3) := by decide +kernel
theorem d_In_gatherEdges_46 : decode b_In_gatherEdges 46 = .ok (.aload_n 3, 1) := by decide +kernel
theorem d_In_gatherEdges_47 : decode b_In_gatherEdges 47 = .ok (.iload 5, 2) := by decide +kernel
theorem d_In_gatherEdges_49 : decode b_In_gatherEdges 49 = .ok (.invokevirtual 85, 3) := by decide +kernel
theorem d_In_gatherEdges_52 : decode b_In_gatherEdges 52 = .ok (.istore 6, 2) := by decide +kernel
theorem d_In_gatherEdges_54 : decode b_In_gatherEdges 54 = .ok (.aload_n 0, 1) := by decide +kernel
theorem d_In_gatherEdges_55 : decode b_In_gatherEdges 55 = .ok (.getfield 9, 3) := by decide +kernel
theorem d_In_gatherEdges_58 : decode b_In_gatherEdges 58 = .ok (.aload_n 0, 1) := by decide +kernel
theorem d_In_gatherEdges_59 : decode b_In_gatherEdges 59 = .ok (.getfield 82, 3) := by decide +kernel
theorem d_In_gatherEdges_62 : decode b_In_gatherEdges 62 = .ok (.aload_n 3, 1) := by decide +kernel
theorem d_In_gatherEdges_63 : decode b_In_gatherEdges 63 = .ok (.getfield 89, 3) := by decide +kernel
theorem d_In_gatherEdges_66 : decode b_In_gatherEdges 66 = .ok (.iload 5, 2) := by decide +kernel
theorem d_In_gatherEdges_68 : decode b_In_gatherEdges 68 = .ok (.iaload, 1) := by decide +kernel
theorem d_In_gatherEdges_69 : decode b_In_gatherEdges 69 = .ok (.iastore, 1) := by decide +kernel
theorem d_In_gatherEdges_70 : decode b_In_gatherEdges 70 = .ok (.aload_n 0, 1) := by decide +kernel
theorem d_In_gatherEdges_71 : decode b_In_gatherEdges 71 = .ok (.getfield 15, 3) := by decide +kernel
theorem d_In_gatherEdges_74 : decode b_In_gatherEdges 74 = .ok (.aload_n 0, 1) := by decide +kernel
theorem d_In_gatherEdges_75 : decode b_In_gatherEdges 75 = .ok (.getfield 82, 3) := by decide +kernel
theorem d_In_gatherEdges_78 : decode b_In_gatherEdges 78 = .ok (.aload_n 3, 1) := by decide +kernel
theorem d_In_gatherEdges_79 : decode b_In_gatherEdges 79 = .ok (.getfield 92, 3) := by decide +kernel
theorem d_In_gatherEdges_82 : decode b_In_gatherEdges 82 = .ok (.iload 5, 2) := by decide +kernel
theorem d_In_gatherEdges_84 : decode b_In_gatherEdges 84 = .ok (.iaload, 1) := by decide +kernel
theorem d_In_gatherEdges_85 : decode b_In_gatherEdges 85 = .ok (.iastore, 1) := by decide +kernel
theorem d_In_gatherEdges_86 : decode b_In_gatherEdges 86 = .ok (.aload_n 0, 1) := by decide +kernel
theorem d_In_gatherEdges_87 : decode b_In_gatherEdges 87 = .ok (.getfield 18, 3) := by decide +kernel
theorem d_In_gatherEdges_90 : decode b_In_gatherEdges 90 = .ok (.aload_n 0, 1) := by decide +kernel
theorem d_In_gatherEdges_91 : decode b_In_gatherEdges 91 = .ok (.getfield 82, 3) := by decide +kernel
theorem d_In_gatherEdges_94 : decode b_In_gatherEdges 94 = .ok (.aload_n 3, 1) := by decide +kernel
theorem d_In_gatherEdges_95 : decode b_In_gatherEdges 95 = .ok (.getfield 89, 3) := by decide +kernel
theorem d_In_gatherEdges_98 : decode b_In_gatherEdges 98 = .ok (.iload 6, 2) := by decide +kernel
theorem d_In_gatherEdges_100 : decode b_In_gatherEdges 100 = .ok (.iaload, 1) := by decide +kernel
theorem d_In_gatherEdges_101 : decode b_In_gatherEdges 101 = .ok (.iastore, 1) := by decide +kernel
theorem d_In_gatherEdges_102 : decode b_In_gatherEdges 102 = .ok (.aload_n 0, 1) := by decide +kernel
theorem d_In_gatherEdges_103 : decode b_In_gatherEdges 103 = .ok (.getfield 21, 3) := by decide +kernel
theorem d_In_gatherEdges_106 : decode b_In_gatherEdges 106 = .ok (.aload_n 0, 1) := by decide +kernel
theorem d_In_gatherEdges_107 : decode b_In_gatherEdges 107 = .ok (.getfield 82, 3) := by decide +kernel
theorem d_In_gatherEdges_110 : decode b_In_gatherEdges 110 = .ok (.aload_n 3, 1) := by decide +kernel
theorem d_In_gatherEdges_111 : decode b_In_gatherEdges 111 = .ok (.getfield 92, 3) := by decide +kernel
theorem d_In_gatherEdges_114 : decode b_In_gatherEdges 114 = .ok (.iload 6, 2) := by decide +kernel
theorem d_In_gatherEdges_116 : decode b_In_gatherEdges 116 = .ok (.iaload, 1) := by decide +kernel
theorem d_In_gatherEdges_117 : decode b_In_gatherEdges 117 = .ok (.iastore, 1) := by decide +kernel
theorem d_In_gatherEdges_118 : decode b_In_gatherEdges 118 = .ok (.aload_n 0, 1) := by decide +kernel
theorem d_In_gatherEdges_119 : decode b_In_gatherEdges 119 = .ok (.getfield 24, 3) := by decide +kernel
theorem d_In_gatherEdges_122 : decode b_In_gatherEdges 122 = .ok (.aload_n 0, 1) := by decide +kernel
theorem d_In_gatherEdges_123 : decode b_In_gatherEdges 123 = .ok (.getfield 82, 3) := by decide +kernel
theorem d_In_gatherEdges_126 : decode b_In_gatherEdges 126 = .ok (.iload 4, 2) := by decide +kernel
theorem d_In_gatherEdges_128 : decode b_In_gatherEdges 128 = .ok (.iload 6, 2) := by decide +kernel
theorem d_In_gatherEdges_130 : decode b_In_gatherEdges 130 = .ok (.iadd, 1) := by decide +kernel
theorem d_In_gatherEdges_131 : decode b_In_gatherEdges 131 = .ok (.iastore, 1) := by decide +kernel
theorem d_In_gatherEdges_132 : decode b_In_gatherEdges 132 = .ok (.aload_n 0, 1) := by decide +kernel
theorem d_In_gatherEdges_133 : decode b_In_gatherEdges 133 = .ok (.dup, 1) := by decide +kernel
theorem d_In_gatherEdges_134 : decode b_In_gatherEdges 134 = .ok (.getfield 82, 3) := by decide +kernel
theorem d_In_gatherEdges_137 : decode b_In_gatherEdges 137 = .ok (.iconst 1, 1) := by decide +kernel
theorem d_In_gatherEdges_138 : decode b_In_gatherEdges 138 = .ok (.iadd, 1) := by decide +kernel
theorem d_In_gatherEdges_139 : decode b_In_gatherEdges 139 = .ok (.putfield 82, 3) := by decide +kernel
theorem d_In_gatherEdges_142 : decode b_In_gatherEdges 142 = .ok (.iinc 5 1, 3) := by decide +kernel
theorem d_In_gatherEdges_145 : decode b_In_gatherEdges 145 = .ok (.goto (-117), 3) := by decide +kernel
theorem d_In_gatherEdges_148 : decode b_In_gatherEdges 148 = .ok (.iinc 2 1, 3) := by decide +kernel
theorem d_In_gatherEdges_151 : decode b_In_gatherEdges 151 = .ok (.goto (-144), 3) := by decide +kernel
theorem d_In_gatherEdges_154 : decode b_In_gatherEdges 154 = .ok (.return_, 1) := by decide +kernel
set_option maxHeartbeats 4000000 in
set_option maxRecDepth 100000 in
theorem c_In_gatherEdges (F : Nat → Nat → Int) (G : Nat → Int → Int) (k : Nat) (hK : isSh k) (hRs : sRg F G k) (h24 : ∀ q : Nat, q < 4 → F (k + 3 + 3 * q) 2 ≤ 24) : cV y_In_gatherEdges b_In_gatherEdges 7 none 1 21 F G (fun ad => [.ref (ad 224), .ref (ad k)]) (fun F' G' => F' = fU F 224 5 (oC F k 4) ∧ gFr G G' ∧ ∀ q : Nat, q < 4 → gRing F G k q (F (k + 3 + 3 * q) 2) G') := by
  have hoc := oC_le (F := F) (k := k) (fun q hq => ⟨(hRs q hq).1.1, h24 q hq⟩)
  have hkk := hK
  unfold isSh at hkk
  intro s0 a0 D t ad
  refine g_startV (by decide +kernel) (Nat.le_of_ble_eq_true rfl) (fun p l e R s m args below meth c A ok => ?_)
  show gW p l e R s m args below meth c _ D A 7 (gZ0 s) 0 0 ad 265 (mem ad t F G) 0 [(0, .ref (ad 224)), (1, .ref (ad k))] []
  refine g_aload_n ok d_In_gatherEdges_0 rfl 0 rfl ?_
  refine g_iconst ok d_In_gatherEdges_1 ?_
  refine pI_In_edgeTotal ok _ rfl k_159 d_In_gatherEdges_2 ?_
  refine g_iconst ok d_In_gatherEdges_5 ?_
  refine g_istore_n (lv' := [(2, .int (iI 0)), (0, .ref (ad 224)), (1, .ref (ad k))]) ok d_In_gatherEdges_6 rfl (by decide) rfl ?_
  have L_r : ∀ (n_r : Nat) (r : Int) (E : Int) (G1 : Nat → Int → Int), (0 ≤ r ∧ r ≤ 4) → (E = oC F k r.toNat) → (gFr G G1 ∧ ∀ q : Nat, q < r.toNat → gRing F G k q (F (k + 3 + 3 * q) 2) G1) → (5 - r) < (n_r : Int) → gW p l e R s m args below meth c (MQ below (gQv D A ad 265 (fun ce' => ∃ F' G', ce' = mem ad t F' G' ∧ (fun F' G' => F' = fU F 224 5 (oC F k 4) ∧ gFr G G' ∧ ∀ q : Nat, q < 4 → gRing F G k q (F (k + 3 + 3 * q) 2) G') F' G')) args s 0 0 A) D A 7 (gZ) 0 0 ad 265 (mem ad t (fU F 224 5 E) G1) 7 [(0, .ref (ad 224)), (1, .ref (ad k)), (2, .int (iI r))] [] := by
    intro n_r
    induction n_r with
    | zero =>
      intro r E G1 hr hE0 hG hm_r
      exact absurd hm_r (by omega)
    | succ n_r ih_r =>
      intro r E G1 hr hE0 hG hm_r
      refine g_iload_n ok d_In_gatherEdges_7 rfl 2 rfl ?_
      refine g_iconst ok d_In_gatherEdges_8 ?_
      refine g_icmp_ge ok 154 d_In_gatherEdges_9 (by decide) (by omega) (by omega) (fun h1 => ?_) (fun h1 => ?_)
      · exact g_vret ok d_In_gatherEdges_154 ⟨_, _, rfl, by rw [hE0, show r.toNat = 4 by omega], hG.1, fun q h => hG.2 q (by omega)⟩
      · obtain ⟨hsz, hX⟩ := hRs r.toNat (by omega)
        have h24r := h24 r.toNat (by omega)
        have hocr := hoc r.toNat (by omega)
        have hr32 := rRoom_le ((k + 3 + 3 * r.toNat - 2) % 22)
        have a1 : isA (k + 3 + 3 * r.toNat + 1) (rRoom ((k + 3 + 3 * r.toNat - 2) % 22)) := a_rg (rg_of hK (by omega)) (Or.inl rfl) rfl
        have a2 : isA (k + 3 + 3 * r.toNat + 2) (rRoom ((k + 3 + 3 * r.toNat - 2) % 22)) := a_rg (rg_of hK (by omega)) (Or.inr rfl) rfl
        refine g_aload_n ok d_In_gatherEdges_12 rfl 1 rfl ?_
        refine gN_Sh_rings ok _ hK k_87 d_In_gatherEdges_13 ?_
        refine g_iload_n ok d_In_gatherEdges_16 rfl 2 rfl ?_
        refine h_rings ok _ hK (by omega) d_In_gatherEdges_17 ?_
        refine g_astore_n (lv' := [(3, .ref (ad (k + 3 + 3 * (r : Int).toNat))), (0, .ref (ad 224)), (1, .ref (ad k)), (2, .int (iI r))]) ok d_In_gatherEdges_18 rfl (by decide) rfl ?_
        refine g_aload_n ok d_In_gatherEdges_19 rfl 1 rfl ?_
        refine gI_In_edgeTotal ok _ rfl k_159 d_In_gatherEdges_20 ?_
        refine g_top (y := E) (by show (fU F 224 5 E) 224 5 = _; rw [fU_hit]) ?_
        refine g_istore (lv' := [(4, .int (iI E)), (3, .ref (ad (k + 3 + 3 * (r : Int).toNat))), (0, .ref (ad 224)), (1, .ref (ad k)), (2, .int (iI r))]) ok d_In_gatherEdges_23 (by decide) rfl ?_
        refine g_iconst ok d_In_gatherEdges_25 ?_
        refine g_istore (lv' := [(5, .int (iI 0)), (4, .int (iI E)), (3, .ref (ad (k + 3 + 3 * (r : Int).toNat))), (0, .ref (ad 224)), (1, .ref (ad k)), (2, .int (iI r))]) ok d_In_gatherEdges_26 (by decide) rfl ?_
        have L_i : ∀ (n_i : Nat) (i : Int) (E : Int) (B : Int) (G1 : Nat → Int → Int), (0 ≤ i ∧ i ≤ F (k + 3 + 3 * r.toNat) 2) → (B = oC F k r.toNat) → (E = B + i) → (gFr G G1 ∧ ∀ q : Nat, q < r.toNat → gRing F G k q (F (k + 3 + 3 * q) 2) G1) → (gRing F G k r.toNat i G1) → (F (k + 3 + 3 * r.toNat) 2 + 1 - i) < (n_i : Int) → gW p l e R s m args below meth c (MQ below (gQv D A ad 265 (fun ce' => ∃ F' G', ce' = mem ad t F' G' ∧ (fun F' G' => F' = fU F 224 5 (oC F k 4) ∧ gFr G G' ∧ ∀ q : Nat, q < 4 → gRing F G k q (F (k + 3 + 3 * q) 2) G') F' G')) args s 0 0 A) D A 7 (gZ) 0 0 ad 265 (mem ad t (fU F 224 5 E) G1) 28 [(0, .ref (ad 224)), (1, .ref (ad k)), (2, .int (iI r)), (3, .ref (ad (k + 3 + 3 * (r : Int).toNat))), (4, .int (iI B)), (5, .int (iI i))] [] := by
          intro n_i
          induction n_i with
          | zero =>
            intro i E B G1 hi hB hE hG hI hm_i
            exact absurd hm_i (by omega)
          | succ n_i ih_i =>
            intro i E B G1 hi hB hE hG hI hm_i
            refine g_iload ok d_In_gatherEdges_28 5 rfl ?_
            refine g_aload_n ok d_In_gatherEdges_30 rfl 3 rfl ?_
            refine gN_Rg_size ok _ (rg_of hK (by omega)) k_55 d_In_gatherEdges_31 ?_
            refine g_top (y := F (k + 3 + 3 * (r : Int).toNat) 2) (by show (fU F 224 5 E) (k + 3 + 3 * (r : Int).toNat) 2 = _; rw [fU_ja (show (2 : Nat) ≠ 5 by decide)]) ?_
            refine g_icmp_ge ok 148 d_In_gatherEdges_34 (by decide) (by omega) (by omega) (fun h2 => ?_) (fun h2 => ?_)
            · refine g_iinc (lv' := [(2, .int (iI (r + 1))), (0, .ref (ad 224)), (1, .ref (ad k)), (3, .ref (ad (k + 3 + 3 * (r : Int).toNat))), (4, .int (iI B)), (5, .int (iI i))]) ok d_In_gatherEdges_148 2 rfl (by decide) rfl ?_
              refine g_goto ok 7 d_In_gatherEdges_151 (by decide) ?_
              refine g_lv [1, 2, 0] rfl ?_
              exact ih_r (r + 1) E G1 (by omega) (by rw [oC_step hr.1]; omega) (⟨hG.1, fun q h => by by_cases e : q = r.toNat; subst e; rw [show i = F (k + 3 + 3 * r.toNat) 2 by omega] at hI; exact hI; exact hG.2 q (by omega)⟩) (by omega)
            · refine g_aload_n ok d_In_gatherEdges_37 rfl 0 rfl ?_
              refine gI_In_edgeTotal ok _ rfl k_159 d_In_gatherEdges_38 ?_
              refine g_top (y := E) (by show (fU F 224 5 E) 224 5 = _; rw [fU_hit]) ?_
              refine g_bipush ok (by decide) d_In_gatherEdges_41 ?_
              refine g_icmp_ge ok 148 d_In_gatherEdges_43 (by decide) (by omega) (by omega) (fun h3 => ?_) (fun h3 => ?_)
              · refine g_iinc (lv' := [(2, .int (iI (r + 1))), (0, .ref (ad 224)), (1, .ref (ad k)), (3, .ref (ad (k + 3 + 3 * (r : Int).toNat))), (4, .int (iI B)), (5, .int (iI i))]) ok d_In_gatherEdges_148 2 rfl (by decide) rfl ?_
                refine g_goto ok 7 d_In_gatherEdges_151 (by decide) ?_
                refine g_lv [1, 2, 0] rfl ?_
                exact ih_r (r + 1) E G1 (by omega) (by rw [oC_step hr.1]; omega) (⟨hG.1, fun q h => by by_cases e : q = r.toNat; subst e; rw [show i = F (k + 3 + 3 * r.toNat) 2 by omega] at hI; exact hI; exact hG.2 q (by omega)⟩) (by omega)
              · refine g_aload_n ok d_In_gatherEdges_46 rfl 3 rfl ?_
                refine g_iload ok d_In_gatherEdges_47 5 rfl ?_
                refine g_callPVN (As := [.int (iI i)]) (st := []) ok _ (c_Rg_next (fU F 224 5 E) G1 _ _ (rg_of hK (by omega)) (by omega) (by rw [fU_ja (by decide)]; omega) s0 a0 D t ad) k_421 k_3 k_838 cl_Rg (m_Rg (ad := ad) (t := t) (F := (fU F 224 5 E)) (G := G1) (rg_of hK (by omega))).1 (m_Rg (rg_of hK (by omega))).2 k_420 s_Rg_next q_Rg_next (by decide) (Nat.le_of_ble_eq_true rfl) (by decide) d_In_gatherEdges_49 (fun z4 hc4 => ?_)
                rw [fU_ja (by decide)] at hc4
                have hj : z4 = rJ (F (k + 3 + 3 * r.toNat) 2) i := hc4
                have hjr : 0 ≤ z4 ∧ z4 < F (k + 3 + 3 * r.toNat) 2 := by rw [hc4]; split <;> omega
                refine g_istore (lv' := [(6, .int (iI z4)), (0, .ref (ad 224)), (1, .ref (ad k)), (2, .int (iI r)), (3, .ref (ad (k + 3 + 3 * (r : Int).toNat))), (4, .int (iI B)), (5, .int (iI i))]) ok d_In_gatherEdges_52 (by decide) rfl ?_
                refine g_aload_n ok d_In_gatherEdges_54 rfl 1 rfl ?_
                refine gI_In_x1 ok _ rfl k_154 d_In_gatherEdges_55 ?_
                refine g_aload_n ok d_In_gatherEdges_58 rfl 1 rfl ?_
                refine gI_In_edgeTotal ok _ rfl k_159 d_In_gatherEdges_59 ?_
                refine g_top (y := E) (by show (fU F 224 5 E) 224 5 = _; rw [fU_hit]) ?_
                refine g_aload_n ok d_In_gatherEdges_62 rfl 4 rfl ?_
                refine gN_Rg_xs ok _ (rg_of hK (by omega)) k_48 d_In_gatherEdges_63 ?_
                refine g_iload ok d_In_gatherEdges_66 6 rfl ?_
                refine h_iald ok _ a1 (by omega) d_In_gatherEdges_68 ?_
                refine h_iast ok _ a_225 (by omega) d_In_gatherEdges_69 ?_
                refine g_aload_n ok d_In_gatherEdges_70 rfl 1 rfl ?_
                refine gI_In_y1 ok _ rfl k_155 d_In_gatherEdges_71 ?_
                refine g_aload_n ok d_In_gatherEdges_74 rfl 1 rfl ?_
                refine gI_In_edgeTotal ok _ rfl k_159 d_In_gatherEdges_75 ?_
                refine g_top (y := E) (by show (fU F 224 5 E) 224 5 = _; rw [fU_hit]) ?_
                refine g_aload_n ok d_In_gatherEdges_78 rfl 4 rfl ?_
                refine gN_Rg_ys ok _ (rg_of hK (by omega)) k_53 d_In_gatherEdges_79 ?_
                refine g_iload ok d_In_gatherEdges_82 6 rfl ?_
                refine h_iald ok _ a2 (by omega) d_In_gatherEdges_84 ?_
                refine g_top (y := G1 ((k + 3 + 3 * (r : Int).toNat) + 2) i) (by show (gU G1 225 E (G1 ((k + 3 + 3 * (r : Int).toNat) + 1) i)) ((k + 3 + 3 * (r : Int).toNat) + 2) i = _; rw [gU_a (show (k + 3 + 3 * (r : Int).toNat) + 2 ≠ 225 by omega)]) ?_
                refine h_iast ok _ a_226 (by omega) d_In_gatherEdges_85 ?_
                refine g_aload_n ok d_In_gatherEdges_86 rfl 1 rfl ?_
                refine gI_In_x2 ok _ rfl k_156 d_In_gatherEdges_87 ?_
                refine g_aload_n ok d_In_gatherEdges_90 rfl 1 rfl ?_
                refine gI_In_edgeTotal ok _ rfl k_159 d_In_gatherEdges_91 ?_
                refine g_top (y := E) (by show (fU F 224 5 E) 224 5 = _; rw [fU_hit]) ?_
                refine g_aload_n ok d_In_gatherEdges_94 rfl 4 rfl ?_
                refine gN_Rg_xs ok _ (rg_of hK (by omega)) k_48 d_In_gatherEdges_95 ?_
                refine g_iload ok d_In_gatherEdges_98 0 rfl ?_
                refine h_iald ok _ a1 (by omega) d_In_gatherEdges_100 ?_
                refine g_top (y := G1 ((k + 3 + 3 * (r : Int).toNat) + 1) z4) (by show (gU (gU G1 225 E (G1 ((k + 3 + 3 * (r : Int).toNat) + 1) i)) 226 E (G1 ((k + 3 + 3 * (r : Int).toNat) + 2) i)) ((k + 3 + 3 * (r : Int).toNat) + 1) z4 = _; rw [gU_a (show (k + 3 + 3 * (r : Int).toNat) + 1 ≠ 226 by omega), gU_a (show (k + 3 + 3 * (r : Int).toNat) + 1 ≠ 225 by omega)]) ?_
                refine h_iast ok _ a_227 (by omega) d_In_gatherEdges_101 ?_
                refine g_aload_n ok d_In_gatherEdges_102 rfl 1 rfl ?_
                refine gI_In_y2 ok _ rfl k_157 d_In_gatherEdges_103 ?_
                refine g_aload_n ok d_In_gatherEdges_106 rfl 1 rfl ?_
                refine gI_In_edgeTotal ok _ rfl k_159 d_In_gatherEdges_107 ?_
                refine g_top (y := E) (by show (fU F 224 5 E) 224 5 = _; rw [fU_hit]) ?_
                refine g_aload_n ok d_In_gatherEdges_110 rfl 4 rfl ?_
                refine gN_Rg_ys ok _ (rg_of hK (by omega)) k_53 d_In_gatherEdges_111 ?_
                refine g_iload ok d_In_gatherEdges_114 0 rfl ?_
                refine h_iald ok _ a2 (by omega) d_In_gatherEdges_116 ?_
                refine g_top (y := G1 ((k + 3 + 3 * (r : Int).toNat) + 2) z4) (by show (gU (gU (gU G1 225 E (G1 ((k + 3 + 3 * (r : Int).toNat) + 1) i)) 226 E (G1 ((k + 3 + 3 * (r : Int).toNat) + 2) i)) 227 E (G1 ((k + 3 + 3 * (r : Int).toNat) + 1) z4)) ((k + 3 + 3 * (r : Int).toNat) + 2) z4 = _; rw [gU_a (show (k + 3 + 3 * (r : Int).toNat) + 2 ≠ 227 by omega), gU_a (show (k + 3 + 3 * (r : Int).toNat) + 2 ≠ 226 by omega), gU_a (show (k + 3 + 3 * (r : Int).toNat) + 2 ≠ 225 by omega)]) ?_
                refine h_iast ok _ a_228 (by omega) d_In_gatherEdges_117 ?_
                refine g_aload_n ok d_In_gatherEdges_118 rfl 1 rfl ?_
                refine gI_In_follower ok _ rfl k_158 d_In_gatherEdges_119 ?_
                refine g_aload_n ok d_In_gatherEdges_122 rfl 1 rfl ?_
                refine gI_In_edgeTotal ok _ rfl k_159 d_In_gatherEdges_123 ?_
                refine g_top (y := E) (by show (fU F 224 5 E) 224 5 = _; rw [fU_hit]) ?_
                refine g_iload ok d_In_gatherEdges_126 5 rfl ?_
                refine g_iload ok d_In_gatherEdges_128 0 rfl ?_
                refine g_iadd ok d_In_gatherEdges_130 ?_
                refine h_iast ok _ a_229 (by omega) d_In_gatherEdges_131 ?_
                refine g_aload_n ok d_In_gatherEdges_132 rfl 1 rfl ?_
                refine g_dup ok d_In_gatherEdges_133 rfl ?_
                refine gI_In_edgeTotal ok _ rfl k_159 d_In_gatherEdges_134 ?_
                refine g_top (y := E) (by show (fU F 224 5 E) 224 5 = _; rw [fU_hit]) ?_
                refine g_iconst ok d_In_gatherEdges_137 ?_
                refine g_iadd ok d_In_gatherEdges_138 ?_
                refine pI_In_edgeTotal ok _ rfl k_159 d_In_gatherEdges_139 ?_
                refine g_iinc (lv' := [(5, .int (iI (i + 1))), (6, .int (iI z4)), (0, .ref (ad 224)), (1, .ref (ad k)), (2, .int (iI r)), (3, .ref (ad (k + 3 + 3 * (r : Int).toNat))), (4, .int (iI B))]) ok d_In_gatherEdges_142 6 rfl (by decide) rfl ?_
                refine g_goto ok 28 d_In_gatherEdges_145 (by decide) ?_
                refine g_lv [2, 3, 4, 5, 6, 0] rfl ?_
                rw [fU_fU]
                exact ih_i (i + 1) (E + 1) B (gU (gU (gU (gU (gU G1 225 E (G1 ((k + 3 + 3 * (r : Int).toNat) + 1) i)) 226 E (G1 ((k + 3 + 3 * (r : Int).toNat) + 2) i)) 227 E (G1 ((k + 3 + 3 * (r : Int).toNat) + 1) z4)) 228 E (G1 ((k + 3 + 3 * (r : Int).toNat) + 2) z4)) 229 E (B + z4)) (by omega) (by omega) (by omega) (⟨gFr_set hG.1 _ _ _ _ _ _, fun q h j h1 h2 => eAt_old (hG.2 q h j h1 h2) (by have := oC_mono (a := q) (fun q hq => (hRs q hq).1.1) r.toNat (by omega) h; omega) _ _ _ _ _⟩) (by intro j h1 h2; rcases Int.lt_or_eq_of_le (show j ≤ i by omega) with q | q; exact eAt_old (hI j h1 q) (by omega) _ _ _ _ _; subst q; unfold gEdge; rw [← hj, ← hB, ← hE, ← hG.1 (k + 3 + 3 * r.toNat + 1) (by omega), ← hG.1 (k + 3 + 3 * r.toNat + 2) (by omega)]; exact eAt_new _ _ _ _ _ _ _) (by omega)
        refine g_z ?_
        refine g_lv [3, 4, 5, 2, 1, 0] rfl ?_
        exact L_i ((F (k + 3 + 3 * r.toNat) 2 + 1 - 0 : Int).toNat + 1) 0 E E G1 (by omega) (by omega) (by omega) (hG) (fun j h1 h2 => absurd h1 (by omega)) (by omega)
  refine g_z ?_
  refine g_lv [1, 2, 0] rfl ?_
  exact L_r ((5 - 0 : Int).toNat + 1) 0 0 G (by omega) (rfl) (⟨fun _ _ => rfl, fun q h => absurd h (by omega)⟩) (by omega)
