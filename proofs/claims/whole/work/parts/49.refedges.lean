/-- the corners of ring q of the reference's shape s: how many, and where the i-th lies in cx and cy -/
def mSz (G : Nat → Int → Int) (s q : Int) : Int := if G 245 (4 * s + 1) = 1 then (if q = 0 then 2 * G 246 (4 * s) else 0) else G 246 (4 * s + q)
def mRc (G : Nat → Int → Int) (s i : Int) : Int := if i < G 246 (4 * s) then 96 * s + i else 96 * s + 24 + 2 * G 246 (4 * s) - 1 - i
def mAt (G : Nat → Int → Int) (s q i : Int) : Int := if G 245 (4 * s + 1) = 1 then mRc G s i else 96 * s + 24 * q + i
def oM (G : Nat → Int → Int) (s : Int) : Nat → Int
  | 0 => 0
  | q + 1 => oM G s q + mSz G s (q : Int)
theorem oM_step {G : Nat → Int → Int} {s r : Int} (h : 0 ≤ r) : oM G s (r + 1).toNat = oM G s r.toNat + mSz G s r := by
  rw [show (r + 1).toNat = r.toNat + 1 by omega]
  show oM G s r.toNat + mSz G s ((r.toNat : Nat) : Int) = _
  rw [Int.toNat_of_nonneg h]
def m6 (G : Nat → Int → Int) (z a b c d r i : Int) : Prop := G 251 z = a ∧ G 252 z = b ∧ G 253 z = c ∧ G 254 z = d ∧ G 255 z = r ∧ G 256 z = i
theorem m6_new (G : Nat → Int → Int) (z a b c d r i : Int) : m6 (gU (gU (gU (gU (gU (gU G 251 z a) 252 z b) 253 z c) 254 z d) 255 z r) 256 z i) z a b c d r i := by
  refine ⟨?_, ?_, ?_, ?_, ?_, ?_⟩
  · rw [gU_a (by decide), gU_a (by decide), gU_a (by decide), gU_a (by decide), gU_a (by decide), gU_hit]
  · rw [gU_a (by decide), gU_a (by decide), gU_a (by decide), gU_a (by decide), gU_hit]
  · rw [gU_a (by decide), gU_a (by decide), gU_a (by decide), gU_hit]
  · rw [gU_a (by decide), gU_a (by decide), gU_hit]
  · rw [gU_a (by decide), gU_hit]
  · rw [gU_hit]
theorem m6_old {G : Nat → Int → Int} {z w a b c d r i : Int} (h : m6 G w a b c d r i) (hw : w ≠ z) (a' b' c' d' r' i' : Int) : m6 (gU (gU (gU (gU (gU (gU G 251 z a') 252 z b') 253 z c') 254 z d') 255 z r') 256 z i') w a b c d r i := by
  obtain ⟨h1, h2, h3, h4, h5, h6⟩ := h
  refine ⟨?_, ?_, ?_, ?_, ?_, ?_⟩
  · rw [gU_a (by decide), gU_a (by decide), gU_a (by decide), gU_a (by decide), gU_a (by decide), gU_i hw, h1]
  · rw [gU_a (by decide), gU_a (by decide), gU_a (by decide), gU_a (by decide), gU_i hw, gU_a (by decide), h2]
  · rw [gU_a (by decide), gU_a (by decide), gU_a (by decide), gU_i hw, gU_a (by decide), gU_a (by decide), h3]
  · rw [gU_a (by decide), gU_a (by decide), gU_i hw, gU_a (by decide), gU_a (by decide), gU_a (by decide), h4]
  · rw [gU_a (by decide), gU_i hw, gU_a (by decide), gU_a (by decide), gU_a (by decide), gU_a (by decide), h5]
  · rw [gU_i hw, gU_a (by decide), gU_a (by decide), gU_a (by decide), gU_a (by decide), gU_a (by decide), h6]
def mFr (G G1 : Nat → Int → Int) : Prop := ∀ a : Nat, (a < 251 ∨ 256 < a) → G1 a = G a
theorem mFr_set {G G1 : Nat → Int → Int} (h : mFr G G1) (z a b c d r i : Int) : mFr G (gU (gU (gU (gU (gU (gU G1 251 z a) 252 z b) 253 z c) 254 z d) 255 z r) 256 z i) := fun q hq => by
  rw [gU_k _ _ _ (by omega), gU_k _ _ _ (by omega), gU_k _ _ _ (by omega), gU_k _ _ _ (by omega), gU_k _ _ _ (by omega), gU_k _ _ _ (by omega)]
  exact h q hq
/-- edge i of ring q of shape s lies in the reference's arrays -/
def mEdge (G : Nat → Int → Int) (s : Int) (q : Nat) (i : Int) (G1 : Nat → Int → Int) : Prop := m6 G1 (oM G s q + i) (G 247 (mAt G s q i)) (G 248 (mAt G s q i)) (G 247 (mAt G s q (rJ (mSz G s q) i))) (G 248 (mAt G s q (rJ (mSz G s q) i))) q i
def mRing (G : Nat → Int → Int) (s : Int) (q : Nat) (n : Int) (G1 : Nat → Int → Int) : Prop := ∀ j : Int, 0 ≤ j → j < n → mEdge G s q j G1
def mOk (G : Nat → Int → Int) (s : Int) : Prop := (0 ≤ s ∧ s ≤ 10) ∧ (∀ q : Int, 0 ≤ q → q < 4 → 0 ≤ G 246 (4 * s + q) ∧ G 246 (4 * s + q) ≤ 24) ∧ (0 ≤ G 245 (4 * s + 1) ∧ G 245 (4 * s + 1) ≤ 2) ∧ (G 245 (4 * s + 1) = 1 → G 246 (4 * s) ≤ 16)
theorem mSz_rng {G : Nat → Int → Int} {s : Int} (h : mOk G s) {q : Int} (hq : 0 ≤ q ∧ q < 4) : 0 ≤ mSz G s q ∧ mSz G s q ≤ 32 := by
  have a := h.2.1 q hq.1 hq.2
  have b := h.2.1 0 (by decide) (by decide)
  rw [Int.add_zero] at b
  have c := h.2.2.2
  unfold mSz
  split
  · rename_i e
    have := c e
    split <;> omega
  · omega
theorem oM_rng {G : Nat → Int → Int} {s : Int} (h : mOk G s) : ∀ n : Nat, n ≤ 4 → 0 ≤ oM G s n ∧ oM G s n ≤ (if G 245 (4 * s + 1) = 1 then 32 else 24 * (n : Int))
  | 0, _ => ⟨by unfold oM; omega, by unfold oM; split <;> omega⟩
  | n + 1, hn => by
    have i := oM_rng h n (by omega)
    have a := h.2.1 n (by omega) (by omega)
    have b := h.2.1 0 (by decide) (by decide)
    rw [Int.add_zero] at b
    have c := h.2.2.2
    show 0 ≤ oM G s n + mSz G s n ∧ oM G s n + mSz G s n ≤ _
    by_cases e : G 245 (4 * s + 1) = 1
    · have := c e
      rw [if_pos e] at i ⊢
      unfold mSz
      rw [if_pos e]
      by_cases z : n = 0
      · subst z
        have : oM G s 0 = 0 := rfl
        simp
        omega
      · rw [if_neg (by omega)]
        omega
    · rw [if_neg e] at i ⊢
      unfold mSz
      rw [if_neg e]
      omega
theorem oM_mono {G : Nat → Int → Int} {s : Int} (h : mOk G s) {a : Nat} : ∀ n : Nat, n ≤ 4 → a < n → oM G s a + mSz G s a ≤ oM G s n
  | 0, _, h1 => by omega
  | n + 1, hn, h1 => by
    show _ ≤ oM G s n + mSz G s n
    by_cases e : a = n
    · subst e
      exact Int.le_refl _
    · have := oM_mono h n (by omega) (a := a) (by omega)
      have := mSz_rng h (q := n) (by omega)
      omega
theorem oM_split {G : Nat → Int → Int} {s z : Int} (hz : 0 ≤ z) : ∀ n : Nat, z < oM G s n → ∃ (q : Nat) (i : Int), q < n ∧ 0 ≤ i ∧ i < mSz G s q ∧ z = oM G s q + i
  | 0, h => by
    change z < 0 at h
    omega
  | n + 1, h => by
    by_cases e : z < oM G s n
    · obtain ⟨q, i, h1, h2⟩ := oM_split hz n e
      exact ⟨q, i, by omega, h2⟩
    · change z < oM G s n + _ at h
      exact ⟨n, z - oM G s n, by omega, by omega, by omega, by omega⟩
theorem iI_remJ {k m : Int} (h : 0 ≤ k ∧ k < m) (hm : m < 2147483647) : iI (k + 1) - iI (k + 1) / iI m * iI m = iI (rJ m k) := by
  rw [iI_remN (by omega) (by omega)]
  congr 1
  unfold rJ
  split
  · exact Int.emod_eq_of_lt (by omega) (by omega)
  · rw [show k + 1 = m by omega, Int.emod_self]
theorem d_Mo_edge_0 : decode b_Mo_edge 0 = .ok (.aload_n 0, 1) := by decide +kernel
theorem d_Mo_edge_1 : decode b_Mo_edge 1 = .ok (.getfield 51, 3) := by decide +kernel
theorem d_Mo_edge_4 : decode b_Mo_edge 4 = .ok (.aload_n 0, 1) := by decide +kernel
theorem d_Mo_edge_5 : decode b_Mo_edge 5 = .ok (.getfield 48, 3) := by decide +kernel
theorem d_Mo_edge_8 : decode b_Mo_edge 8 = .ok (.iload_n 1, 1) := by decide +kernel
theorem d_Mo_edge_9 : decode b_Mo_edge 9 = .ok (.iastore, 1) := by decide +kernel
theorem d_Mo_edge_10 : decode b_Mo_edge 10 = .ok (.aload_n 0, 1) := by decide +kernel
theorem d_Mo_edge_11 : decode b_Mo_edge 11 = .ok (.getfield 54, 3) := by decide +kernel
theorem d_Mo_edge_14 : decode b_Mo_edge 14 = .ok (.aload_n 0, 1) := by decide +kernel
theorem d_Mo_edge_15 : decode b_Mo_edge 15 = .ok (.getfield 48, 3) := by decide +kernel
theorem d_Mo_edge_18 : decode b_Mo_edge 18 = .ok (.iload_n 2, 1) := by decide +kernel
theorem d_Mo_edge_19 : decode b_Mo_edge 19 = .ok (.iastore, 1) := by decide +kernel
theorem d_Mo_edge_20 : decode b_Mo_edge 20 = .ok (.aload_n 0, 1) := by decide +kernel
theorem d_Mo_edge_21 : decode b_Mo_edge 21 = .ok (.getfield 57, 3) := by decide +kernel
theorem d_Mo_edge_24 : decode b_Mo_edge 24 = .ok (.aload_n 0, 1) := by decide +kernel
theorem d_Mo_edge_25 : decode b_Mo_edge 25 = .ok (.getfield 48, 3) := by decide +kernel
theorem d_Mo_edge_28 : decode b_Mo_edge 28 = .ok (.iload_n 3, 1) := by decide +kernel
theorem d_Mo_edge_29 : decode b_Mo_edge 29 = .ok (.iastore, 1) := by decide +kernel
theorem d_Mo_edge_30 : decode b_Mo_edge 30 = .ok (.aload_n 0, 1) := by decide +kernel
theorem d_Mo_edge_31 : decode b_Mo_edge 31 = .ok (.getfield 60, 3) := by decide +kernel
theorem d_Mo_edge_34 : decode b_Mo_edge 34 = .ok (.aload_n 0, 1) := by decide +kernel
theorem d_Mo_edge_35 : decode b_Mo_edge 35 = .ok (.getfield 48, 3) := by decide +kernel
theorem d_Mo_edge_38 : decode b_Mo_edge 38 = .ok (.iload 4, 2) := by decide +kernel
theorem d_Mo_edge_40 : decode b_Mo_edge 40 = .ok (.iastore, 1) := by decide +kernel
theorem d_Mo_edge_41 : decode b_Mo_edge 41 = .ok (.aload_n 0, 1) := by decide +kernel
theorem d_Mo_edge_42 : decode b_Mo_edge 42 = .ok (.getfield 63, 3) := by decide +kernel
theorem d_Mo_edge_45 : decode b_Mo_edge 45 = .ok (.aload_n 0, 1) := by decide +kernel
theorem d_Mo_edge_46 : decode b_Mo_edge 46 = .ok (.getfield 48, 3) := by decide +kernel
theorem d_Mo_edge_49 : decode b_Mo_edge 49 = .ok (.iload 5, 2) := by decide +kernel
theorem d_Mo_edge_51 : decode b_Mo_edge 51 = .ok (.iastore, 1) := by decide +kernel
theorem d_Mo_edge_52 : decode b_Mo_edge 52 = .ok (.aload_n 0, 1) := by decide +kernel
theorem d_Mo_edge_53 : decode b_Mo_edge 53 = .ok (.getfield 66, 3) := by decide +kernel
theorem d_Mo_edge_56 : decode b_Mo_edge 56 = .ok (.aload_n 0, 1) := by decide +kernel
theorem d_Mo_edge_57 : decode b_Mo_edge 57 = .ok (.getfield 48, 3) := by decide +kernel
theorem d_Mo_edge_60 : decode b_Mo_edge 60 = .ok (.iload 6, 2) := by decide +kernel
theorem d_Mo_edge_62 : decode b_Mo_edge 62 = .ok (.iastore, 1) := by decide +kernel
theorem d_Mo_edge_63 : decode b_Mo_edge 63 = .ok (.aload_n 0, 1) := by decide +kernel
theorem d_Mo_edge_64 : decode b_Mo_edge 64 = .ok (.dup, 1) := by decide +kernel
theorem d_Mo_edge_65 : decode b_Mo_edge 65 = .ok (.getfield 48, 3) := by decide +kernel
theorem d_Mo_edge_68 : decode b_Mo_edge 68 = .ok (.iconst 1, 1) := by decide +kernel
theorem d_Mo_edge_69 : decode b_Mo_edge 69 = .ok (.iadd, 1) := by decide +kernel
theorem d_Mo_edge_70 : decode b_Mo_edge 70 = .ok (.putfield 48, 3) := by decide +kernel
theorem d_Mo_edge_73 : decode b_Mo_edge 73 = .ok (.return_, 1) := by decide +kernel
set_option maxHeartbeats 1000000 in
set_option maxRecDepth 100000 in
theorem c_Mo_edge (F : Nat → Nat → Int) (G : Nat → Int → Int) (x y u v r i : Int) (he : 0 ≤ F 244 12 ∧ F 244 12 < 100) : cV y_Mo_edge b_Mo_edge 7 none 0 0 F G (fun ad => [.ref (ad 244), .int (iI x), .int (iI y), .int (iI u), .int (iI v), .int (iI r), .int (iI i)]) (fun F' G' => F' = fU F 244 12 (F 244 12 + 1) ∧ G' = (gU (gU (gU (gU (gU (gU G 251 (F 244 12) x) 252 (F 244 12) y) 253 (F 244 12) u) 254 (F 244 12) v) 255 (F 244 12) r) 256 (F 244 12) i)) := by
  intro s0 a0 D t ad
  refine g_startV (by decide +kernel) (Nat.le_of_ble_eq_true rfl) (fun p l e R s m args below meth c A ok => ?_)
  show gW p l e R s m args below meth c _ D A 7 (gZ0 s) 0 0 ad 265 (mem ad t F G) 0 [(0, .ref (ad 244)), (1, .int (iI x)), (2, .int (iI y)), (3, .int (iI u)), (4, .int (iI v)), (5, .int (iI r)), (6, .int (iI i))] []
  refine g_aload_n ok d_Mo_edge_0 rfl 0 rfl ?_
  refine gI_Mo_ex ok _ rfl k_1002 d_Mo_edge_1 ?_
  refine g_aload_n ok d_Mo_edge_4 rfl 0 rfl ?_
  refine gI_Mo_edges ok _ rfl k_1001 d_Mo_edge_5 ?_
  refine g_iload_n ok d_Mo_edge_8 rfl 1 rfl ?_
  refine h_iast ok _ a_251 (by omega) d_Mo_edge_9 ?_
  refine g_aload_n ok d_Mo_edge_10 rfl 0 rfl ?_
  refine gI_Mo_ey ok _ rfl k_1003 d_Mo_edge_11 ?_
  refine g_aload_n ok d_Mo_edge_14 rfl 0 rfl ?_
  refine gI_Mo_edges ok _ rfl k_1001 d_Mo_edge_15 ?_
  refine g_iload_n ok d_Mo_edge_18 rfl 2 rfl ?_
  refine h_iast ok _ a_252 (by omega) d_Mo_edge_19 ?_
  refine g_aload_n ok d_Mo_edge_20 rfl 0 rfl ?_
  refine gI_Mo_fx ok _ rfl k_1004 d_Mo_edge_21 ?_
  refine g_aload_n ok d_Mo_edge_24 rfl 0 rfl ?_
  refine gI_Mo_edges ok _ rfl k_1001 d_Mo_edge_25 ?_
  refine g_iload_n ok d_Mo_edge_28 rfl 3 rfl ?_
  refine h_iast ok _ a_253 (by omega) d_Mo_edge_29 ?_
  refine g_aload_n ok d_Mo_edge_30 rfl 0 rfl ?_
  refine gI_Mo_fy ok _ rfl k_1005 d_Mo_edge_31 ?_
  refine g_aload_n ok d_Mo_edge_34 rfl 0 rfl ?_
  refine gI_Mo_edges ok _ rfl k_1001 d_Mo_edge_35 ?_
  refine g_iload ok d_Mo_edge_38 4 rfl ?_
  refine h_iast ok _ a_254 (by omega) d_Mo_edge_40 ?_
  refine g_aload_n ok d_Mo_edge_41 rfl 0 rfl ?_
  refine gI_Mo_ring ok _ rfl k_1006 d_Mo_edge_42 ?_
  refine g_aload_n ok d_Mo_edge_45 rfl 0 rfl ?_
  refine gI_Mo_edges ok _ rfl k_1001 d_Mo_edge_46 ?_
  refine g_iload ok d_Mo_edge_49 5 rfl ?_
  refine h_iast ok _ a_255 (by omega) d_Mo_edge_51 ?_
  refine g_aload_n ok d_Mo_edge_52 rfl 0 rfl ?_
  refine gI_Mo_place ok _ rfl k_1007 d_Mo_edge_53 ?_
  refine g_aload_n ok d_Mo_edge_56 rfl 0 rfl ?_
  refine gI_Mo_edges ok _ rfl k_1001 d_Mo_edge_57 ?_
  refine g_iload ok d_Mo_edge_60 6 rfl ?_
  refine h_iast ok _ a_256 (by omega) d_Mo_edge_62 ?_
  refine g_aload_n ok d_Mo_edge_63 rfl 0 rfl ?_
  refine g_dup ok d_Mo_edge_64 rfl ?_
  refine gI_Mo_edges ok _ rfl k_1001 d_Mo_edge_65 ?_
  refine g_iconst ok d_Mo_edge_68 ?_
  refine g_iadd ok d_Mo_edge_69 ?_
  refine pI_Mo_edges ok _ rfl k_1001 d_Mo_edge_70 ?_
  exact g_vret ok d_Mo_edge_73 ⟨_, _, rfl, rfl, rfl⟩
theorem d_Mo_railCorner_0 : decode b_Mo_railCorner 0 = .ok (.aload_n 0, 1) := by decide +kernel
theorem d_Mo_railCorner_1 : decode b_Mo_railCorner 1 = .ok (.getfield 24, 3) := by decide +kernel
theorem d_Mo_railCorner_4 : decode b_Mo_railCorner 4 = .ok (.iconst 4, 1) := by decide +kernel
theorem d_Mo_railCorner_5 : decode b_Mo_railCorner 5 = .ok (.iload_n 1, 1) := by decide +kernel
theorem d_Mo_railCorner_6 : decode b_Mo_railCorner 6 = .ok (.imul, 1) := by decide +kernel
theorem d_Mo_railCorner_7 : decode b_Mo_railCorner 7 = .ok (.iaload, 1) := by decide +kernel
theorem d_Mo_railCorner_8 : decode b_Mo_railCorner 8 = .ok (.istore_n 3, 1) := by decide +kernel
theorem d_Mo_railCorner_9 : decode b_Mo_railCorner 9 = .ok (.iload_n 2, 1) := by decide +kernel
theorem d_Mo_railCorner_10 : decode b_Mo_railCorner 10 = .ok (.iload_n 3, 1) := by decide +kernel
theorem d_Mo_railCorner_11 : decode b_Mo_railCorner 11 = .ok (.if_icmp .ge 12, 3) := by decide +kernel
theorem d_Mo_railCorner_14 : decode b_Mo_railCorner 14 = .ok (.bipush 96, 2) := by decide +kernel
theorem d_Mo_railCorner_16 : decode b_Mo_railCorner 16 = .ok (.iload_n 1, 1) := by decide +kernel
theorem d_Mo_railCorner_17 : decode b_Mo_railCorner 17 = .ok (.imul, 1) := by decide +kernel
theorem d_Mo_railCorner_18 : decode b_Mo_railCorner 18 = .ok (.iload_n 2, 1) := by decide +kernel
theorem d_Mo_railCorner_19 : decode b_Mo_railCorner 19 = .ok (.iadd, 1) := by decide +kernel
theorem d_Mo_railCorner_20 : decode b_Mo_railCorner 20 = .ok (.goto 18, 3) := by decide +kernel
theorem d_Mo_railCorner_23 : decode b_Mo_railCorner 23 = .ok (.bipush 96, 2) := by decide +kernel
theorem d_Mo_railCorner_25 : decode b_Mo_railCorner 25 = .ok (.iload_n 1, 1) := by decide +kernel
theorem d_Mo_railCorner_26 : decode b_Mo_railCorner 26 = .ok (.imul, 1) := by decide +kernel
theorem d_Mo_railCorner_27 : decode b_Mo_railCorner 27 = .ok (.bipush 24, 2) := by decide +kernel
theorem d_Mo_railCorner_29 : decode b_Mo_railCorner 29 = .ok (.iadd, 1) := by decide +kernel
theorem d_Mo_railCorner_30 : decode b_Mo_railCorner 30 = .ok (.iconst 2, 1) := by decide +kernel
theorem d_Mo_railCorner_31 : decode b_Mo_railCorner 31 = .ok (.iload_n 3, 1) := by decide +kernel
theorem d_Mo_railCorner_32 : decode b_Mo_railCorner 32 = .ok (.imul, 1) := by decide +kernel
theorem d_Mo_railCorner_33 : decode b_Mo_railCorner 33 = .ok (.iadd, 1) := by decide +kernel
theorem d_Mo_railCorner_34 : decode b_Mo_railCorner 34 = .ok (.iconst 1, 1) := by decide +kernel
theorem d_Mo_railCorner_35 : decode b_Mo_railCorner 35 = .ok (.isub, 1) := by decide +kernel
theorem d_Mo_railCorner_36 : decode b_Mo_railCorner 36 = .ok (.iload_n 2, 1) := by decide +kernel
theorem d_Mo_railCorner_37 : decode b_Mo_railCorner 37 = .ok (.isub, 1) := by decide +kernel
theorem d_Mo_railCorner_38 : decode b_Mo_railCorner 38 = .ok (.ireturn, 1) := by decide +kernel
set_option maxHeartbeats 1000000 in
set_option maxRecDepth 100000 in
theorem c_Mo_railCorner (F : Nat → Nat → Int) (G : Nat → Int → Int) (s1 i : Int) (hs : 0 ≤ s1 ∧ s1 ≤ 10) (hi : 0 ≤ i ∧ i < 64) (hn : 0 ≤ G 246 (4 * s1) ∧ G 246 (4 * s1) ≤ 16) : cP y_Mo_railCorner b_Mo_railCorner 4 (some .int) 0 0 F G (fun ad => [.ref (ad 244), .int (iI s1), .int (iI i)]) (fun r => r = mRc G s1 i) := by
  intro s0 a0 D t ad
  refine g_startP (by decide +kernel) (Nat.le_of_ble_eq_true rfl) (fun p l e R s m args below meth c A ok => ?_)
  show gW p l e R s m args below meth c _ D A 4 (gZ0 s) 0 0 ad 265 (mem ad t F G) 0 [(0, .ref (ad 244)), (1, .int (iI s1)), (2, .int (iI i))] []
  refine g_aload_n ok d_Mo_railCorner_0 rfl 0 rfl ?_
  refine gI_Mo_corners ok _ rfl k_993 d_Mo_railCorner_1 ?_
  refine g_iconst ok d_Mo_railCorner_4 ?_
  refine g_iload_n ok d_Mo_railCorner_5 rfl 1 rfl ?_
  refine g_imul ok d_Mo_railCorner_6 ?_
  refine h_iald ok _ a_246 (by omega) d_Mo_railCorner_7 ?_
  refine g_istore_n (lv' := [(3, .int (iI (G 246 (4 * s1)))), (0, .ref (ad 244)), (1, .int (iI s1)), (2, .int (iI i))]) ok d_Mo_railCorner_8 rfl (by decide) rfl ?_
  refine g_iload_n ok d_Mo_railCorner_9 rfl 3 rfl ?_
  refine g_iload_n ok d_Mo_railCorner_10 rfl 0 rfl ?_
  refine g_icmp_ge ok 23 d_Mo_railCorner_11 (by decide) (by omega) (by omega) (fun h1 => ?_) (fun h1 => ?_)
  · refine g_bipush ok (by decide) d_Mo_railCorner_23 ?_
    refine g_iload_n ok d_Mo_railCorner_25 rfl 2 rfl ?_
    refine g_imul ok d_Mo_railCorner_26 ?_
    refine g_bipush ok (by decide) d_Mo_railCorner_27 ?_
    refine g_iadd ok d_Mo_railCorner_29 ?_
    refine g_iconst ok d_Mo_railCorner_30 ?_
    refine g_iload_n ok d_Mo_railCorner_31 rfl 0 rfl ?_
    refine g_imul ok d_Mo_railCorner_32 ?_
    refine g_iadd ok d_Mo_railCorner_33 ?_
    refine g_iconst ok d_Mo_railCorner_34 ?_
    refine g_isub ok d_Mo_railCorner_35 ?_
    refine g_iload_n ok d_Mo_railCorner_36 rfl 3 rfl ?_
    refine g_isub ok d_Mo_railCorner_37 ?_
    exact g_ipret ok d_Mo_railCorner_38 (by unfold mRc; split <;> omega)
  · refine g_bipush ok (by decide) d_Mo_railCorner_14 ?_
    refine g_iload_n ok d_Mo_railCorner_16 rfl 2 rfl ?_
    refine g_imul ok d_Mo_railCorner_17 ?_
    refine g_iload_n ok d_Mo_railCorner_18 rfl 3 rfl ?_
    refine g_iadd ok d_Mo_railCorner_19 ?_
    refine g_goto ok 38 d_Mo_railCorner_20 (by decide) ?_
    exact g_ipret ok d_Mo_railCorner_38 (by unfold mRc; split <;> omega)
theorem d_Mo_edgesOf_0 : decode b_Mo_edgesOf 0 = .ok (.aload_n 0, 1) := by decide +kernel
theorem d_Mo_edgesOf_1 : decode b_Mo_edgesOf 1 = .ok (.iconst 0, 1) := by decide +kernel
theorem d_Mo_edgesOf_2 : decode b_Mo_edgesOf 2 = .ok (.putfield 48, 3) := by decide +kernel
theorem d_Mo_edgesOf_5 : decode b_Mo_edgesOf 5 = .ok (.aload_n 0, 1) := by decide +kernel
theorem d_Mo_edgesOf_6 : decode b_Mo_edgesOf 6 = .ok (.getfield 20, 3) := by decide +kernel
theorem d_Mo_edgesOf_9 : decode b_Mo_edgesOf 9 = .ok (.iconst 4, 1) := by decide +kernel
theorem d_Mo_edgesOf_10 : decode b_Mo_edgesOf 10 = .ok (.iload_n 1, 1) := by decide +kernel
theorem d_Mo_edgesOf_11 : decode b_Mo_edgesOf 11 = .ok (.imul, 1) := by decide +kernel
theorem d_Mo_edgesOf_12 : decode b_Mo_edgesOf 12 = .ok (.iconst 1, 1) := by decide +kernel
theorem d_Mo_edgesOf_13 : decode b_Mo_edgesOf 13 = .ok (.iadd, 1) := by decide +kernel
theorem d_Mo_edgesOf_14 : decode b_Mo_edgesOf 14 = .ok (.iaload, 1) := by decide +kernel
theorem d_Mo_edgesOf_15 : decode b_Mo_edgesOf 15 = .ok (.iconst 1, 1) := by decide +kernel
theorem d_Mo_edgesOf_16 : decode b_Mo_edgesOf 16 = .ok (.if_icmp .ne 84, 3) := by decide +kernel
theorem d_Mo_edgesOf_19 : decode b_Mo_edgesOf 19 = .ok (.aload_n 0, 1) := by decide +kernel
theorem d_Mo_edgesOf_20 : decode b_Mo_edgesOf 20 = .ok (.getfield 24, 3) := by decide +kernel
theorem d_Mo_edgesOf_23 : decode b_Mo_edgesOf 23 = .ok (.iconst 4, 1) := by decide +kernel
theorem d_Mo_edgesOf_24 : decode b_Mo_edgesOf 24 = .ok (.iload_n 1, 1) := by decide +kernel
theorem d_Mo_edgesOf_25 : decode b_Mo_edgesOf 25 = .ok (.imul, 1) := by decide +kernel
theorem d_Mo_edgesOf_26 : decode b_Mo_edgesOf 26 = .ok (.iaload, 1) := by decide +kernel
theorem d_Mo_edgesOf_27 : decode b_Mo_edgesOf 27 = .ok (.istore_n 2, 1) := by decide +kernel
theorem d_Mo_edgesOf_28 : decode b_Mo_edgesOf 28 = .ok (.iconst 0, 1) := by decide +kernel
theorem d_Mo_edgesOf_29 : decode b_Mo_edgesOf 29 = .ok (.istore_n 3, 1) := by decide +kernel
theorem d_Mo_edgesOf_30 : decode b_Mo_edgesOf 30 = .ok (.iload_n 3, 1) := by decide +kernel
theorem d_Mo_edgesOf_31 : decode b_Mo_edgesOf 31 = .ok (.iconst 2, 1) := by decide +kernel
theorem d_Mo_edgesOf_32 : decode b_Mo_edgesOf 32 = .ok (.iload_n 2, 1) := by decide +kernel
theorem d_Mo_edgesOf_33 : decode b_Mo_edgesOf 33 = .ok (.imul, 1) := by decide +kernel
theorem d_Mo_edgesOf_34 : decode b_Mo_edgesOf 34 = .ok (.if_icmp .ge 65, 3) := by decide +kernel
theorem d_Mo_edgesOf_37 : decode b_Mo_edgesOf 37 = .ok (.aload_n 0, 1) := by decide +kernel
theorem d_Mo_edgesOf_38 : decode b_Mo_edgesOf 38 = .ok (.iload_n 1, 1) := by decide +kernel
theorem d_Mo_edgesOf_39 : decode b_Mo_edgesOf 39 = .ok (.iload_n 3, 1) := by decide +kernel
theorem d_Mo_edgesOf_40 : decode b_Mo_edgesOf 40 = .ok (.invokevirtual 115, 3) := by decide +kernel
theorem d_Mo_edgesOf_43 : decode b_Mo_edgesOf 43 = .ok (.istore 4, 2) := by decide +kernel
theorem d_Mo_edgesOf_45 : decode b_Mo_edgesOf 45 = .ok (.aload_n 0, 1) := by decide +kernel
theorem d_Mo_edgesOf_46 : decode b_Mo_edgesOf 46 = .ok (.iload_n 1, 1) := by decide +kernel
theorem d_Mo_edgesOf_47 : decode b_Mo_edgesOf 47 = .ok (.iload_n 3, 1) := by decide +kernel
theorem d_Mo_edgesOf_48 : decode b_Mo_edgesOf 48 = .ok (.iconst 1, 1) := by decide +kernel
theorem d_Mo_edgesOf_49 : decode b_Mo_edgesOf 49 = .ok (.iadd, 1) := by decide +kernel
theorem d_Mo_edgesOf_50 : decode b_Mo_edgesOf 50 = .ok (.iconst 2, 1) := by decide +kernel
theorem d_Mo_edgesOf_51 : decode b_Mo_edgesOf 51 = .ok (.iload_n 2, 1) := by decide +kernel
theorem d_Mo_edgesOf_52 : decode b_Mo_edgesOf 52 = .ok (.imul, 1) := by decide +kernel
theorem d_Mo_edgesOf_53 : decode b_Mo_edgesOf 53 = .ok (.irem, 1) := by decide +kernel
theorem d_Mo_edgesOf_54 : decode b_Mo_edgesOf 54 = .ok (.invokevirtual 115, 3) := by decide +kernel
theorem d_Mo_edgesOf_57 : decode b_Mo_edgesOf 57 = .ok (.istore 5, 2) := by decide +kernel
theorem d_Mo_edgesOf_59 : decode b_Mo_edgesOf 59 = .ok (.aload_n 0, 1) := by decide +kernel
theorem d_Mo_edgesOf_60 : decode b_Mo_edgesOf 60 = .ok (.aload_n 0, 1) := by decide +kernel
theorem d_Mo_edgesOf_61 : decode b_Mo_edgesOf 61 = .ok (.getfield 27, 3) := by decide +kernel
theorem d_Mo_edgesOf_64 : decode b_Mo_edgesOf 64 = .ok (.iload 4, 2) := by decide +kernel
theorem d_Mo_edgesOf_66 : decode b_Mo_edgesOf 66 = .ok (.iaload, 1) := by decide +kernel
theorem d_Mo_edgesOf_67 : decode b_Mo_edgesOf 67 = .ok (.aload_n 0, 1) := by decide +kernel
theorem d_Mo_edgesOf_68 : decode b_Mo_edgesOf 68 = .ok (.getfield 30, 3) := by decide +kernel
theorem d_Mo_edgesOf_71 : decode b_Mo_edgesOf 71 = .ok (.iload 4, 2) := by decide +kernel
theorem d_Mo_edgesOf_73 : decode b_Mo_edgesOf 73 = .ok (.iaload, 1) := by decide +kernel
theorem d_Mo_edgesOf_74 : decode b_Mo_edgesOf 74 = .ok (.aload_n 0, 1) := by decide +kernel
theorem d_Mo_edgesOf_75 : decode b_Mo_edgesOf 75 = .ok (.getfield 27, 3) := by decide +kernel
theorem d_Mo_edgesOf_78 : decode b_Mo_edgesOf 78 = .ok (.iload 5, 2) := by decide +kernel
theorem d_Mo_edgesOf_80 : decode b_Mo_edgesOf 80 = .ok (.iaload, 1) := by decide +kernel
theorem d_Mo_edgesOf_81 : decode b_Mo_edgesOf 81 = .ok (.aload_n 0, 1) := by decide +kernel
theorem d_Mo_edgesOf_82 : decode b_Mo_edgesOf 82 = .ok (.getfield 30, 3) := by decide +kernel
theorem d_Mo_edgesOf_85 : decode b_Mo_edgesOf 85 = .ok (.iload 5, 2) := by decide +kernel
theorem d_Mo_edgesOf_87 : decode b_Mo_edgesOf 87 = .ok (.iaload, 1) := by decide +kernel
theorem d_Mo_edgesOf_88 : decode b_Mo_edgesOf 88 = .ok (.iconst 0, 1) := by decide +kernel
theorem d_Mo_edgesOf_89 : decode b_Mo_edgesOf 89 = .ok (.iload_n 3, 1) := by decide +kernel
theorem d_Mo_edgesOf_90 : decode b_Mo_edgesOf 90 = .ok (.invokevirtual 119, 3) := by decide +kernel
theorem d_Mo_edgesOf_93 : decode b_Mo_edgesOf 93 = .ok (.iinc 3 1, 3) := by decide +kernel
theorem d_Mo_edgesOf_96 : decode b_Mo_edgesOf 96 = .ok (.goto (-66), 3) := by decide +kernel
theorem d_Mo_edgesOf_99 : decode b_Mo_edgesOf 99 = .ok (.return_, 1) := by decide +kernel
theorem d_Mo_edgesOf_100 : decode b_Mo_edgesOf 100 = .ok (.iconst 0, 1) := by decide +kernel
theorem d_Mo_edgesOf_101 : decode b_Mo_edgesOf 101 = .ok (.istore_n 2, 1) := by decide +kernel
theorem d_Mo_edgesOf_102 : decode b_Mo_edgesOf 102 = .ok (.iload_n 2, 1) := by decide +kernel
theorem d_Mo_edgesOf_103 : decode b_Mo_edgesOf 103 = .ok (.iconst 4, 1) := by decide +kernel
theorem d_Mo_edgesOf_104 : decode b_Mo_edgesOf 104 = .ok (.if_icmp .ge 98, 3) := by decide +kernel
theorem d_Mo_edgesOf_107 : decode b_Mo_edgesOf 107 = .ok (.aload_n 0, 1) := by decide +kernel
theorem d_Mo_edgesOf_108 : decode b_Mo_edgesOf 108 = .ok (.getfield 24, 3) := by decide +kernel
theorem d_Mo_edgesOf_111 : decode b_Mo_edgesOf 111 = .ok (.iconst 4, 1) := by decide +kernel
theorem d_Mo_edgesOf_112 : decode b_Mo_edgesOf 112 = .ok (.iload_n 1, 1) := by decide +kernel
theorem d_Mo_edgesOf_113 : decode b_Mo_edgesOf 113 = .ok (.imul, 1) := by decide +kernel
theorem d_Mo_edgesOf_114 : decode b_Mo_edgesOf 114 = .ok (.iload_n 2, 1) := by decide +kernel
theorem d_Mo_edgesOf_115 : decode b_Mo_edgesOf 115 = .ok (.iadd, 1) := by decide +kernel
theorem d_Mo_edgesOf_116 : decode b_Mo_edgesOf 116 = .ok (.iaload, 1) := by decide +kernel
theorem d_Mo_edgesOf_117 : decode b_Mo_edgesOf 117 = .ok (.istore_n 3, 1) := by decide +kernel
theorem d_Mo_edgesOf_118 : decode b_Mo_edgesOf 118 = .ok (.bipush 96, 2) := by decide +kernel
theorem d_Mo_edgesOf_120 : decode b_Mo_edgesOf 120 = .ok (.iload_n 1, 1) := by decide +kernel
theorem d_Mo_edgesOf_121 : decode b_Mo_edgesOf 121 = .ok (.imul, 1) := by decide +kernel
theorem d_Mo_edgesOf_122 : decode b_Mo_edgesOf 122 = .ok (.bipush 24, 2) := by decide +kernel
theorem d_Mo_edgesOf_124 : decode b_Mo_edgesOf 124 = .ok (.iload_n 2, 1) := by decide +kernel
theorem d_Mo_edgesOf_125 : decode b_Mo_edgesOf 125 = .ok (.imul, 1) := by decide +kernel
theorem d_Mo_edgesOf_126 : decode b_Mo_edgesOf 126 = .ok (.iadd, 1) := by decide +kernel
theorem d_Mo_edgesOf_127 : decode b_Mo_edgesOf 127 = .ok (.istore 4, 2) := by decide +kernel
theorem d_Mo_edgesOf_129 : decode b_Mo_edgesOf 129 = .ok (.iconst 0, 1) := by decide +kernel
theorem d_Mo_edgesOf_130 : decode b_Mo_edgesOf 130 = .ok (.istore 5, 2) := by decide +kernel
theorem d_Mo_edgesOf_132 : decode b_Mo_edgesOf 132 = .ok (.iload 5, 2) := by decide +kernel
theorem d_Mo_edgesOf_134 : decode b_Mo_edgesOf 134 = .ok (.iload_n 3, 1) := by decide +kernel
theorem d_Mo_edgesOf_135 : decode b_Mo_edgesOf 135 = .ok (.if_icmp .ge 61, 3) := by decide +kernel
theorem d_Mo_edgesOf_138 : decode b_Mo_edgesOf 138 = .ok (.iload 4, 2) := by decide +kernel
theorem d_Mo_edgesOf_140 : decode b_Mo_edgesOf 140 = .ok (.iload 5, 2) := by decide +kernel
theorem d_Mo_edgesOf_142 : decode b_Mo_edgesOf 142 = .ok (.iconst 1, 1) := by decide +kernel
theorem d_Mo_edgesOf_143 : decode b_Mo_edgesOf 143 = .ok (.iadd, 1) := by decide +kernel
theorem d_Mo_edgesOf_144 : decode b_Mo_edgesOf 144 = .ok (.iload_n 3, 1) := by decide +kernel
theorem d_Mo_edgesOf_145 : decode b_Mo_edgesOf 145 = .ok (.irem, 1) := by decide +kernel
theorem d_Mo_edgesOf_146 : decode b_Mo_edgesOf 146 = .ok (.iadd, 1) := by decide +kernel
theorem d_Mo_edgesOf_147 : decode b_Mo_edgesOf 147 = .ok (.istore 6, 2) := by decide +kernel
theorem d_Mo_edgesOf_149 : decode b_Mo_edgesOf 149 = .ok (.aload_n 0, 1) := by decide +kernel
theorem d_Mo_edgesOf_150 : decode b_Mo_edgesOf 150 = .ok (.aload_n 0, 1) := by decide +kernel
theorem d_Mo_edgesOf_151 : decode b_Mo_edgesOf 151 = .ok (.getfield 27, 3) := by decide +kernel
theorem d_Mo_edgesOf_154 : decode b_Mo_edgesOf 154 = .ok (.iload 4, 2) := by decide +kernel
theorem d_Mo_edgesOf_156 : decode b_Mo_edgesOf 156 = .ok (.iload 5, 2) := by decide +kernel
theorem d_Mo_edgesOf_158 : decode b_Mo_edgesOf 158 = .ok (.iadd, 1) := by decide +kernel
theorem d_Mo_edgesOf_159 : decode b_Mo_edgesOf 159 = .ok (.iaload, 1) := by decide +kernel
theorem d_Mo_edgesOf_160 : decode b_Mo_edgesOf 160 = .ok (.aload_n 0, 1) := by decide +kernel
theorem d_Mo_edgesOf_161 : decode b_Mo_edgesOf 161 = .ok (.getfield 30, 3) := by decide +kernel
theorem d_Mo_edgesOf_164 : decode b_Mo_edgesOf 164 = .ok (.iload 4, 2) := by decide +kernel
theorem d_Mo_edgesOf_166 : decode b_Mo_edgesOf 166 = .ok (.iload 5, 2) := by decide +kernel
theorem d_Mo_edgesOf_168 : decode b_Mo_edgesOf 168 = .ok (.iadd, 1) := by decide +kernel
theorem d_Mo_edgesOf_169 : decode b_Mo_edgesOf 169 = .ok (.iaload, 1) := by decide +kernel
theorem d_Mo_edgesOf_170 : decode b_Mo_edgesOf 170 = .ok (.aload_n 0, 1) := by decide +kernel
theorem d_Mo_edgesOf_171 : decode b_Mo_edgesOf 171 = .ok (.getfield 27, 3) := by decide +kernel
theorem d_Mo_edgesOf_174 : decode b_Mo_edgesOf 174 = .ok (.iload 6, 2) := by decide +kernel
theorem d_Mo_edgesOf_176 : decode b_Mo_edgesOf 176 = .ok (.iaload, 1) := by decide +kernel
theorem d_Mo_edgesOf_177 : decode b_Mo_edgesOf 177 = .ok (.aload_n 0, 1) := by decide +kernel
theorem d_Mo_edgesOf_178 : decode b_Mo_edgesOf 178 = .ok (.getfield 30, 3) := by decide +kernel
theorem d_Mo_edgesOf_181 : decode b_Mo_edgesOf 181 = .ok (.iload 6, 2) := by decide +kernel
theorem d_Mo_edgesOf_183 : decode b_Mo_edgesOf 183 = .ok (.iaload, 1) := by decide +kernel
theorem d_Mo_edgesOf_184 : decode b_Mo_edgesOf 184 = .ok (.iload_n 2, 1) := by decide +kernel
theorem d_Mo_edgesOf_185 : decode b_Mo_edgesOf 185 = .ok (.iload 5, 2) := by decide +kernel
theorem d_Mo_edgesOf_187 : decode b_Mo_edgesOf 187 = .ok (.invokevirtual 119, 3) := by decide +kernel
theorem d_Mo_edgesOf_190 : decode b_Mo_edgesOf 190 = .ok (.iinc 5 1, 3) := by decide +kernel
theorem d_Mo_edgesOf_193 : decode b_Mo_edgesOf 193 = .ok (.goto (-61), 3) := by decide +kernel
theorem d_Mo_edgesOf_196 : decode b_Mo_edgesOf 196 = .ok (.iinc 2 1, 3) := by decide +kernel
theorem d_Mo_edgesOf_199 : decode b_Mo_edgesOf 199 = .ok (.goto (-97), 3) := by decide +kernel
theorem d_Mo_edgesOf_202 : decode b_Mo_edgesOf 202 = .ok (.return_, 1) := by decide +kernel
set_option maxHeartbeats 1000000 in
set_option maxRecDepth 100000 in
theorem c_Mo_edgesOf (F : Nat → Nat → Int) (G : Nat → Int → Int) (s1 : Int) (hO : mOk G s1) : cV y_Mo_edgesOf b_Mo_edgesOf 7 none 1 26 F G (fun ad => [.ref (ad 244), .int (iI s1)]) (fun F' G' => F' = fU F 244 12 (oM G s1 4) ∧ mFr G G' ∧ ∀ q : Nat, q < 4 → mRing G s1 q (mSz G s1 q) G') := by
  have hs := hO.1
  have hf := hO.2.2.1
  have hn0 := hO.2.1 0 (by decide) (by decide)
  rw [Int.add_zero] at hn0
  have hor := oM_rng hO
  intro s0 a0 D t ad
  refine g_startV (by decide +kernel) (Nat.le_of_ble_eq_true rfl) (fun p l e R s m args below meth c A ok => ?_)
  show gW p l e R s m args below meth c _ D A 7 (gZ0 s) 0 0 ad 265 (mem ad t F G) 0 [(0, .ref (ad 244)), (1, .int (iI s1))] []
  refine g_aload_n ok d_Mo_edgesOf_0 rfl 0 rfl ?_
  refine g_iconst ok d_Mo_edgesOf_1 ?_
  refine pI_Mo_edges ok _ rfl k_1001 d_Mo_edgesOf_2 ?_
  refine g_aload_n ok d_Mo_edgesOf_5 rfl 0 rfl ?_
  refine gI_Mo_told ok _ rfl k_992 d_Mo_edgesOf_6 ?_
  refine g_iconst ok d_Mo_edgesOf_9 ?_
  refine g_iload_n ok d_Mo_edgesOf_10 rfl 1 rfl ?_
  refine g_imul ok d_Mo_edgesOf_11 ?_
  refine g_iconst ok d_Mo_edgesOf_12 ?_
  refine g_iadd ok d_Mo_edgesOf_13 ?_
  refine h_iald ok _ a_245 (by omega) d_Mo_edgesOf_14 ?_
  refine g_iconst ok d_Mo_edgesOf_15 ?_
  refine g_icmp_ne ok 100 d_Mo_edgesOf_16 (by decide) (by omega) (by omega) (fun h1 => ?_) (fun h1 => ?_)
  · have hsat : ¬ G 245 (4 * s1 + 1) = 1 := by omega
    have hsz : ∀ q : Int, mSz G s1 q = G 246 (4 * s1 + q) := fun q => by unfold mSz; rw [if_neg hsat]
    have hat : ∀ q i : Int, mAt G s1 q i = 96 * s1 + 24 * q + i := fun q i => by unfold mAt; rw [if_neg hsat]
    refine g_iconst ok d_Mo_edgesOf_100 ?_
    refine g_istore_n (lv' := [(2, .int (iI 0)), (0, .ref (ad 244)), (1, .int (iI s1))]) ok d_Mo_edgesOf_101 rfl (by decide) rfl ?_
    have L_r : ∀ (n_r : Nat) (r : Int) (E : Int) (G1 : Nat → Int → Int), (0 ≤ r ∧ r ≤ 4) → (E = oM G s1 r.toNat) → (mFr G G1 ∧ ∀ q : Nat, q < r.toNat → mRing G s1 q (mSz G s1 q) G1) → (5 - r) < (n_r : Int) → gW p l e R s m args below meth c (MQ below (gQv D A ad 265 (fun ce' => ∃ F' G', ce' = mem ad t F' G' ∧ (fun F' G' => F' = fU F 244 12 (oM G s1 4) ∧ mFr G G' ∧ ∀ q : Nat, q < 4 → mRing G s1 q (mSz G s1 q) G') F' G')) args s 0 0 A) D A 7 (gZ) 0 0 ad 265 (mem ad t (fU F 244 12 E) G1) 102 [(0, .ref (ad 244)), (1, .int (iI s1)), (2, .int (iI r))] [] := by
      intro n_r
      induction n_r with
      | zero =>
        intro r E G1 hr hE0 hG hm_r
        exact absurd hm_r (by omega)
      | succ n_r ih_r =>
        intro r E G1 hr hE0 hG hm_r
        refine g_iload_n ok d_Mo_edgesOf_102 rfl 2 rfl ?_
        refine g_iconst ok d_Mo_edgesOf_103 ?_
        refine g_icmp_ge ok 202 d_Mo_edgesOf_104 (by decide) (by omega) (by omega) (fun h2 => ?_) (fun h2 => ?_)
        · exact g_vret ok d_Mo_edgesOf_202 ⟨_, _, rfl, by rw [hE0, show r.toNat = 4 by omega], hG.1, fun q h => hG.2 q (by omega)⟩
        · have hnr := hO.2.1 r hr.1 (by omega)
          have horr := hor r.toNat (by omega)
          rw [if_neg hsat] at horr
          refine g_aload_n ok d_Mo_edgesOf_107 rfl 0 rfl ?_
          refine gI_Mo_corners ok _ rfl k_993 d_Mo_edgesOf_108 ?_
          refine g_iconst ok d_Mo_edgesOf_111 ?_
          refine g_iload_n ok d_Mo_edgesOf_112 rfl 1 rfl ?_
          refine g_imul ok d_Mo_edgesOf_113 ?_
          refine g_iload_n ok d_Mo_edgesOf_114 rfl 2 rfl ?_
          refine g_iadd ok d_Mo_edgesOf_115 ?_
          refine h_iald ok _ a_246 (by omega) d_Mo_edgesOf_116 ?_
          refine g_top (y := G 246 (4 * s1 + r)) (by rw [hG.1 246 (by decide)]) ?_
          refine g_istore_n (lv' := [(3, .int (iI (G 246 (4 * s1 + r)))), (0, .ref (ad 244)), (1, .int (iI s1)), (2, .int (iI r))]) ok d_Mo_edgesOf_117 rfl (by decide) rfl ?_
          refine g_bipush ok (by decide) d_Mo_edgesOf_118 ?_
          refine g_iload_n ok d_Mo_edgesOf_120 rfl 2 rfl ?_
          refine g_imul ok d_Mo_edgesOf_121 ?_
          refine g_bipush ok (by decide) d_Mo_edgesOf_122 ?_
          refine g_iload_n ok d_Mo_edgesOf_124 rfl 3 rfl ?_
          refine g_imul ok d_Mo_edgesOf_125 ?_
          refine g_iadd ok d_Mo_edgesOf_126 ?_
          refine g_istore (lv' := [(4, .int (iI ((96 * s1) + (24 * r)))), (3, .int (iI (G 246 (4 * s1 + r)))), (0, .ref (ad 244)), (1, .int (iI s1)), (2, .int (iI r))]) ok d_Mo_edgesOf_127 (by decide) rfl ?_
          refine g_iconst ok d_Mo_edgesOf_129 ?_
          refine g_istore (lv' := [(5, .int (iI 0)), (4, .int (iI ((96 * s1) + (24 * r)))), (3, .int (iI (G 246 (4 * s1 + r)))), (0, .ref (ad 244)), (1, .int (iI s1)), (2, .int (iI r))]) ok d_Mo_edgesOf_130 (by decide) rfl ?_
          have L_i : ∀ (n_i : Nat) (i : Int) (E : Int) (G1 : Nat → Int → Int), (0 ≤ i ∧ i ≤ G 246 (4 * s1 + r)) → (E = oM G s1 r.toNat + i) → (mFr G G1 ∧ ∀ q : Nat, q < r.toNat → mRing G s1 q (mSz G s1 q) G1) → (mRing G s1 r.toNat i G1) → (G 246 (4 * s1 + r) + 1 - i) < (n_i : Int) → gW p l e R s m args below meth c (MQ below (gQv D A ad 265 (fun ce' => ∃ F' G', ce' = mem ad t F' G' ∧ (fun F' G' => F' = fU F 244 12 (oM G s1 4) ∧ mFr G G' ∧ ∀ q : Nat, q < 4 → mRing G s1 q (mSz G s1 q) G') F' G')) args s 0 0 A) D A 7 (gZ) 0 0 ad 265 (mem ad t (fU F 244 12 E) G1) 132 [(0, .ref (ad 244)), (1, .int (iI s1)), (2, .int (iI r)), (3, .int (iI (G 246 (4 * s1 + r)))), (4, .int (iI ((96 * s1) + (24 * r)))), (5, .int (iI i))] [] := by
            intro n_i
            induction n_i with
            | zero =>
              intro i E G1 hi hE hG hI hm_i
              exact absurd hm_i (by omega)
            | succ n_i ih_i =>
              intro i E G1 hi hE hG hI hm_i
              refine g_iload ok d_Mo_edgesOf_132 5 rfl ?_
              refine g_iload_n ok d_Mo_edgesOf_134 rfl 3 rfl ?_
              refine g_icmp_ge ok 196 d_Mo_edgesOf_135 (by decide) (by omega) (by omega) (fun h3 => ?_) (fun h3 => ?_)
              · refine g_iinc (lv' := [(2, .int (iI (r + 1))), (0, .ref (ad 244)), (1, .int (iI s1)), (3, .int (iI (G 246 (4 * s1 + r)))), (4, .int (iI ((96 * s1) + (24 * r)))), (5, .int (iI i))]) ok d_Mo_edgesOf_196 2 rfl (by decide) rfl ?_
                refine g_goto ok 102 d_Mo_edgesOf_199 (by decide) ?_
                refine g_lv [1, 2, 0] rfl ?_
                exact ih_r (r + 1) E G1 (by omega) (by rw [oM_step hr.1, hsz]; omega) (⟨hG.1, fun q h => by by_cases e : q = r.toNat; subst e; rw [hsz, Int.toNat_of_nonneg hr.1, show G 246 (4 * s1 + r) = i by omega]; exact hI; exact hG.2 q (by omega)⟩) (by omega)
              · have hjr := rJ_rng (n := G 246 (4 * s1 + r)) (i := i) (by omega)
                refine g_iload ok d_Mo_edgesOf_138 4 rfl ?_
                refine g_iload ok d_Mo_edgesOf_140 5 rfl ?_
                refine g_iconst ok d_Mo_edgesOf_142 ?_
                refine g_iadd ok d_Mo_edgesOf_143 ?_
                refine g_iload_n ok d_Mo_edgesOf_144 rfl 3 rfl ?_
                refine g_irem (z := rJ (G 246 (4 * s1 + r)) i) ok (iI_ne0 (by omega)) (iI_remJ (by omega) (by omega)) d_Mo_edgesOf_145 ?_
                refine g_iadd ok d_Mo_edgesOf_146 ?_
                refine g_istore (lv' := [(6, .int (iI (((96 * s1) + (24 * r)) + (rJ (G 246 (4 * s1 + r)) i)))), (0, .ref (ad 244)), (1, .int (iI s1)), (2, .int (iI r)), (3, .int (iI (G 246 (4 * s1 + r)))), (4, .int (iI ((96 * s1) + (24 * r)))), (5, .int (iI i))]) ok d_Mo_edgesOf_147 (by decide) rfl ?_
                refine g_aload_n ok d_Mo_edgesOf_149 rfl 1 rfl ?_
                refine g_aload_n ok d_Mo_edgesOf_150 rfl 1 rfl ?_
                refine gI_Mo_cx ok _ rfl k_994 d_Mo_edgesOf_151 ?_
                refine g_iload ok d_Mo_edgesOf_154 5 rfl ?_
                refine g_iload ok d_Mo_edgesOf_156 6 rfl ?_
                refine g_iadd ok d_Mo_edgesOf_158 ?_
                refine h_iald ok _ a_247 (by omega) d_Mo_edgesOf_159 ?_
                refine g_aload_n ok d_Mo_edgesOf_160 rfl 1 rfl ?_
                refine gI_Mo_cy ok _ rfl k_995 d_Mo_edgesOf_161 ?_
                refine g_iload ok d_Mo_edgesOf_164 5 rfl ?_
                refine g_iload ok d_Mo_edgesOf_166 6 rfl ?_
                refine g_iadd ok d_Mo_edgesOf_168 ?_
                refine h_iald ok _ a_248 (by omega) d_Mo_edgesOf_169 ?_
                refine g_aload_n ok d_Mo_edgesOf_170 rfl 1 rfl ?_
                refine gI_Mo_cx ok _ rfl k_994 d_Mo_edgesOf_171 ?_
                refine g_iload ok d_Mo_edgesOf_174 0 rfl ?_
                refine h_iald ok _ a_247 (by omega) d_Mo_edgesOf_176 ?_
                refine g_aload_n ok d_Mo_edgesOf_177 rfl 1 rfl ?_
                refine gI_Mo_cy ok _ rfl k_995 d_Mo_edgesOf_178 ?_
                refine g_iload ok d_Mo_edgesOf_181 0 rfl ?_
                refine h_iald ok _ a_248 (by omega) d_Mo_edgesOf_183 ?_
                refine g_iload_n ok d_Mo_edgesOf_184 rfl 3 rfl ?_
                refine g_iload ok d_Mo_edgesOf_185 6 rfl ?_
                refine g_callVV (As := [.int (iI (G1 247 (((96 * s1) + (24 * r)) + i))), .int (iI (G1 248 (((96 * s1) + (24 * r)) + i))), .int (iI (G1 247 (((96 * s1) + (24 * r)) + (rJ (G 246 (4 * s1 + r)) i)))), .int (iI (G1 248 (((96 * s1) + (24 * r)) + (rJ (G 246 (4 * s1 + r)) i)))), .int (iI r), .int (iI i)]) (st := []) ok _ (c_Mo_edge (fU F 244 12 E) G1 _ _ _ _ _ _ (by rw [fU_hit]; omega) s0 a0 D t ad) k_1142 k_11 k_1139 cl_Mo (m_Mo (ad := ad) (t := t) (F := (fU F 244 12 E)) (G := G1) rfl).1 (m_Mo rfl).2 k_1141 s_Mo_edge q_Mo_edge (by decide) (Nat.le_of_ble_eq_true rfl) (by decide) d_Mo_edgesOf_187 (fun ce1 hc4 => ?_)
                obtain ⟨Fq, Gq, rfl, hFq, hGq⟩ := hc4
                rw [hFq, hGq]
                clear hFq hGq
                rw [fU_hit, fU_fU]
                refine g_iinc (lv' := [(5, .int (iI (i + 1))), (6, .int (iI (((96 * s1) + (24 * r)) + (rJ (G 246 (4 * s1 + r)) i)))), (0, .ref (ad 244)), (1, .int (iI s1)), (2, .int (iI r)), (3, .int (iI (G 246 (4 * s1 + r)))), (4, .int (iI ((96 * s1) + (24 * r))))]) ok d_Mo_edgesOf_190 6 rfl (by decide) rfl ?_
                refine g_goto ok 132 d_Mo_edgesOf_193 (by decide) ?_
                refine g_lv [2, 3, 4, 5, 6, 0] rfl ?_
                exact ih_i (i + 1) (E + 1) (gU (gU (gU (gU (gU (gU G1 251 E (G1 247 (((96 * s1) + (24 * r)) + i))) 252 E (G1 248 (((96 * s1) + (24 * r)) + i))) 253 E (G1 247 (((96 * s1) + (24 * r)) + (rJ (G 246 (4 * s1 + r)) i)))) 254 E (G1 248 (((96 * s1) + (24 * r)) + (rJ (G 246 (4 * s1 + r)) i)))) 255 E r) 256 E i) (by omega) (by omega) (⟨mFr_set hG.1 _ _ _ _ _ _ _, fun q h j h1 h2 => m6_old (hG.2 q h j h1 h2) (by have := oM_mono hO (a := q) r.toNat (by omega) h; omega) _ _ _ _ _ _⟩) (fun j h1 h2 => by rcases Int.lt_or_eq_of_le (show j ≤ i by omega) with q | q; exact m6_old (hI j h1 q) (by omega) _ _ _ _ _ _; subst q; unfold mEdge; rw [hat, hat, hsz, ← hE, Int.toNat_of_nonneg hr.1, ← hG.1 247 (by decide), ← hG.1 248 (by decide)]; exact m6_new _ _ _ _ _ _ _ _) (by omega)
          refine g_z ?_
          refine g_lv [3, 4, 5, 2, 1, 0] rfl ?_
          exact L_i ((G 246 (4 * s1 + r) + 1 - 0 : Int).toNat + 1) 0 E G1 (by omega) (by omega) (hG) (fun j h1 h2 => absurd h1 (by omega)) (by omega)
    refine g_z ?_
    refine g_lv [1, 2, 0] rfl ?_
    exact L_r ((5 - 0 : Int).toNat + 1) 0 0 G (by omega) (rfl) (⟨fun _ _ => rfl, fun q h => absurd h (by omega)⟩) (by omega)
  · have hsat : G 245 (4 * s1 + 1) = 1 := by omega
    have h16 := hO.2.2.2 hsat
    have hz0 : mSz G s1 ((0 : Nat) : Int) = 2 * G 246 (4 * s1) := by unfold mSz; rw [if_pos hsat, if_pos (show ((0 : Nat) : Int) = 0 from rfl)]
    have hzn : ∀ q : Int, ¬ q = 0 → mSz G s1 q = 0 := fun q hq => by unfold mSz; rw [if_pos hsat, if_neg hq]
    have hat : ∀ q i : Int, mAt G s1 q i = mRc G s1 i := fun q i => by unfold mAt; rw [if_pos hsat]
    refine g_aload_n ok d_Mo_edgesOf_19 rfl 0 rfl ?_
    refine gI_Mo_corners ok _ rfl k_993 d_Mo_edgesOf_20 ?_
    refine g_iconst ok d_Mo_edgesOf_23 ?_
    refine g_iload_n ok d_Mo_edgesOf_24 rfl 1 rfl ?_
    refine g_imul ok d_Mo_edgesOf_25 ?_
    refine h_iald ok _ a_246 (by omega) d_Mo_edgesOf_26 ?_
    refine g_istore_n (lv' := [(2, .int (iI (G 246 (4 * s1)))), (0, .ref (ad 244)), (1, .int (iI s1))]) ok d_Mo_edgesOf_27 rfl (by decide) rfl ?_
    refine g_iconst ok d_Mo_edgesOf_28 ?_
    refine g_istore_n (lv' := [(3, .int (iI 0)), (2, .int (iI (G 246 (4 * s1)))), (0, .ref (ad 244)), (1, .int (iI s1))]) ok d_Mo_edgesOf_29 rfl (by decide) rfl ?_
    have L_k : ∀ (n_k : Nat) (k : Int) (E : Int) (G1 : Nat → Int → Int), (0 ≤ k ∧ k ≤ 2 * G 246 (4 * s1)) → (E = k) → (mFr G G1 ∧ mRing G s1 0 k G1) → (2 * G 246 (4 * s1) + 1 - k) < (n_k : Int) → gW p l e R s m args below meth c (MQ below (gQv D A ad 265 (fun ce' => ∃ F' G', ce' = mem ad t F' G' ∧ (fun F' G' => F' = fU F 244 12 (oM G s1 4) ∧ mFr G G' ∧ ∀ q : Nat, q < 4 → mRing G s1 q (mSz G s1 q) G') F' G')) args s 0 0 A) D A 7 (gZ) 0 0 ad 265 (mem ad t (fU F 244 12 E) G1) 30 [(0, .ref (ad 244)), (1, .int (iI s1)), (2, .int (iI (G 246 (4 * s1)))), (3, .int (iI k))] [] := by
      intro n_k
      induction n_k with
      | zero =>
        intro k E G1 hk hE hG hm_k
        exact absurd hm_k (by omega)
      | succ n_k ih_k =>
        intro k E G1 hk hE hG hm_k
        refine g_iload_n ok d_Mo_edgesOf_30 rfl 3 rfl ?_
        refine g_iconst ok d_Mo_edgesOf_31 ?_
        refine g_iload_n ok d_Mo_edgesOf_32 rfl 2 rfl ?_
        refine g_imul ok d_Mo_edgesOf_33 ?_
        refine g_icmp_ge ok 99 d_Mo_edgesOf_34 (by decide) (by omega) (by omega) (fun h5 => ?_) (fun h5 => ?_)
        · exact g_vret ok d_Mo_edgesOf_99 ⟨_, _, rfl, by rw [show oM G s1 4 = E by show 0 + mSz G s1 ((0 : Nat) : Int) + mSz G s1 ((1 : Nat) : Int) + mSz G s1 ((2 : Nat) : Int) + mSz G s1 ((3 : Nat) : Int) = E; rw [hz0, hzn _ (by decide), hzn _ (by decide), hzn _ (by decide)]; omega], hG.1, fun q h j h1 h2 => by by_cases e : q = 0; subst e; exact hG.2 j h1 (by rw [hz0] at h2; omega); rw [hzn _ (by omega)] at h2; omega⟩
        · have hjk := rJ_rng (n := 2 * G 246 (4 * s1)) (i := k) (by omega)
          refine g_aload_n ok d_Mo_edgesOf_37 rfl 0 rfl ?_
          refine g_iload_n ok d_Mo_edgesOf_38 rfl 1 rfl ?_
          refine g_iload_n ok d_Mo_edgesOf_39 rfl 3 rfl ?_
          refine g_callPV (As := [.int (iI s1), .int (iI k)]) (st := []) ok _ (c_Mo_railCorner (fU F 244 12 E) G1 _ _ (by omega) (by omega) (by rw [hG.1 246 (by decide)]; omega) s0 a0 D t ad) k_1138 k_11 k_1135 cl_Mo (m_Mo (ad := ad) (t := t) (F := (fU F 244 12 E)) (G := G1) rfl).1 (m_Mo rfl).2 k_1137 s_Mo_railCorner q_Mo_railCorner (by decide) (Nat.le_of_ble_eq_true rfl) (by decide) d_Mo_edgesOf_40 (fun z6 hc6 => ?_)
          subst hc6
          refine g_top (y := mRc G s1 k) (by unfold mRc; rw [hG.1 246 (by decide)]) ?_
          have hrc6 : 0 ≤ mRc G s1 k ∧ mRc G s1 k < 1056 := by unfold mRc; split <;> omega
          refine g_istore (lv' := [(4, .int (iI (mRc G s1 k))), (0, .ref (ad 244)), (1, .int (iI s1)), (2, .int (iI (G 246 (4 * s1)))), (3, .int (iI k))]) ok d_Mo_edgesOf_43 (by decide) rfl ?_
          refine g_aload_n ok d_Mo_edgesOf_45 rfl 1 rfl ?_
          refine g_iload_n ok d_Mo_edgesOf_46 rfl 2 rfl ?_
          refine g_iload_n ok d_Mo_edgesOf_47 rfl 4 rfl ?_
          refine g_iconst ok d_Mo_edgesOf_48 ?_
          refine g_iadd ok d_Mo_edgesOf_49 ?_
          refine g_iconst ok d_Mo_edgesOf_50 ?_
          refine g_iload_n ok d_Mo_edgesOf_51 rfl 3 rfl ?_
          refine g_imul ok d_Mo_edgesOf_52 ?_
          refine g_irem (z := rJ (2 * G 246 (4 * s1)) k) ok (iI_ne0 (by omega)) (iI_remJ (by omega) (by omega)) d_Mo_edgesOf_53 ?_
          refine g_callPV (As := [.int (iI s1), .int (iI (rJ (2 * G 246 (4 * s1)) k))]) (st := []) ok _ (c_Mo_railCorner (fU F 244 12 E) G1 _ _ (by omega) (by omega) (by rw [hG.1 246 (by decide)]; omega) s0 a0 D t ad) k_1138 k_11 k_1135 cl_Mo (m_Mo (ad := ad) (t := t) (F := (fU F 244 12 E)) (G := G1) rfl).1 (m_Mo rfl).2 k_1137 s_Mo_railCorner q_Mo_railCorner (by decide) (Nat.le_of_ble_eq_true rfl) (by decide) d_Mo_edgesOf_54 (fun z7 hc7 => ?_)
          subst hc7
          refine g_top (y := mRc G s1 (rJ (2 * G 246 (4 * s1)) k)) (by unfold mRc; rw [hG.1 246 (by decide)]) ?_
          have hrc7 : 0 ≤ mRc G s1 (rJ (2 * G 246 (4 * s1)) k) ∧ mRc G s1 (rJ (2 * G 246 (4 * s1)) k) < 1056 := by unfold mRc; split <;> omega
          refine g_istore (lv' := [(5, .int (iI (mRc G s1 (rJ (2 * G 246 (4 * s1)) k)))), (4, .int (iI (mRc G s1 k))), (0, .ref (ad 244)), (1, .int (iI s1)), (2, .int (iI (G 246 (4 * s1)))), (3, .int (iI k))]) ok d_Mo_edgesOf_57 (by decide) rfl ?_
          refine g_aload_n ok d_Mo_edgesOf_59 rfl 2 rfl ?_
          refine g_aload_n ok d_Mo_edgesOf_60 rfl 2 rfl ?_
          refine gI_Mo_cx ok _ rfl k_994 d_Mo_edgesOf_61 ?_
          refine g_iload ok d_Mo_edgesOf_64 1 rfl ?_
          refine h_iald ok _ a_247 (by omega) d_Mo_edgesOf_66 ?_
          refine g_aload_n ok d_Mo_edgesOf_67 rfl 2 rfl ?_
          refine gI_Mo_cy ok _ rfl k_995 d_Mo_edgesOf_68 ?_
          refine g_iload ok d_Mo_edgesOf_71 1 rfl ?_
          refine h_iald ok _ a_248 (by omega) d_Mo_edgesOf_73 ?_
          refine g_aload_n ok d_Mo_edgesOf_74 rfl 2 rfl ?_
          refine gI_Mo_cx ok _ rfl k_994 d_Mo_edgesOf_75 ?_
          refine g_iload ok d_Mo_edgesOf_78 0 rfl ?_
          refine h_iald ok _ a_247 (by omega) d_Mo_edgesOf_80 ?_
          refine g_aload_n ok d_Mo_edgesOf_81 rfl 2 rfl ?_
          refine gI_Mo_cy ok _ rfl k_995 d_Mo_edgesOf_82 ?_
          refine g_iload ok d_Mo_edgesOf_85 0 rfl ?_
          refine h_iald ok _ a_248 (by omega) d_Mo_edgesOf_87 ?_
          refine g_iconst ok d_Mo_edgesOf_88 ?_
          refine g_iload_n ok d_Mo_edgesOf_89 rfl 5 rfl ?_
          refine g_callVV (As := [.int (iI (G1 247 (mRc G s1 k))), .int (iI (G1 248 (mRc G s1 k))), .int (iI (G1 247 (mRc G s1 (rJ (2 * G 246 (4 * s1)) k)))), .int (iI (G1 248 (mRc G s1 (rJ (2 * G 246 (4 * s1)) k)))), .int (iI 0), .int (iI k)]) (st := []) ok _ (c_Mo_edge (fU F 244 12 E) G1 _ _ _ _ _ _ (by rw [fU_hit]; omega) s0 a0 D t ad) k_1142 k_11 k_1139 cl_Mo (m_Mo (ad := ad) (t := t) (F := (fU F 244 12 E)) (G := G1) rfl).1 (m_Mo rfl).2 k_1141 s_Mo_edge q_Mo_edge (by decide) (Nat.le_of_ble_eq_true rfl) (by decide) d_Mo_edgesOf_90 (fun ce1 hc8 => ?_)
          obtain ⟨Fq, Gq, rfl, hFq, hGq⟩ := hc8
          rw [hFq, hGq]
          clear hFq hGq
          rw [fU_hit, fU_fU]
          refine g_iinc (lv' := [(3, .int (iI (k + 1))), (5, .int (iI (mRc G s1 (rJ (2 * G 246 (4 * s1)) k)))), (4, .int (iI (mRc G s1 k))), (0, .ref (ad 244)), (1, .int (iI s1)), (2, .int (iI (G 246 (4 * s1))))]) ok d_Mo_edgesOf_93 5 rfl (by decide) rfl ?_
          refine g_goto ok 30 d_Mo_edgesOf_96 (by decide) ?_
          refine g_lv [3, 4, 5, 0] rfl ?_
          exact ih_k (k + 1) (E + 1) (gU (gU (gU (gU (gU (gU G1 251 E (G1 247 (mRc G s1 k))) 252 E (G1 248 (mRc G s1 k))) 253 E (G1 247 (mRc G s1 (rJ (2 * G 246 (4 * s1)) k)))) 254 E (G1 248 (mRc G s1 (rJ (2 * G 246 (4 * s1)) k)))) 255 E 0) 256 E k) (by omega) (by omega) (⟨mFr_set hG.1 _ _ _ _ _ _ _, fun j h1 h2 => by rcases Int.lt_or_eq_of_le (show j ≤ k by omega) with q | q; exact m6_old (hG.2 j h1 q) (by show oM G s1 0 + j ≠ E; have : oM G s1 0 = 0 := rfl; omega) _ _ _ _ _ _; subst q; unfold mEdge; rw [hat, hat, hz0, show oM G s1 0 = 0 from rfl, show (0 : Int) + j = E by omega, ← hG.1 247 (by decide), ← hG.1 248 (by decide)]; exact m6_new _ _ _ _ _ _ _ _⟩) (by omega)
    refine g_z ?_
    refine g_lv [2, 3, 1, 0] rfl ?_
    exact L_k ((2 * G 246 (4 * s1) + 1 - 0 : Int).toNat + 1) 0 0 G (by omega) (rfl) (⟨fun _ _ => rfl, fun j h1 h2 => by omega⟩) (by omega)
