def mNext (G : Nat → Int → Int) (a b : Int) : Prop := if G 256 b = rJ (G 246 (40 + G 255 a)) (G 256 a) then mBack G a b else if G 256 a = rJ (G 246 (40 + G 255 a)) (G 256 b) then mBack G b a else True
def mCross (G : Nat → Int → Int) (a b : Int) : Prop := mTouch G a b ∧ (¬ G 255 a = G 255 b ∨ mNext G a b)
def mPos (G : Nat → Int → Int) (n : Int) : Prop := ∀ e : Int, 0 ≤ e → e < n → 0 ≤ G 256 e ∧ G 256 e < G 246 (40 + G 255 e) ∧ G 246 (40 + G 255 e) ≤ 24
theorem d_Mo_crossed_0 : decode b_Mo_crossed 0 = .ok (.aload_n 0, 1) := by decide +kernel
theorem d_Mo_crossed_1 : decode b_Mo_crossed 1 = .ok (.iload_n 1, 1) := by decide +kernel
theorem d_Mo_crossed_2 : decode b_Mo_crossed 2 = .ok (.iload_n 2, 1) := by decide +kernel
theorem d_Mo_crossed_3 : decode b_Mo_crossed 3 = .ok (.invokevirtual 141, 3) := by decide +kernel
theorem d_Mo_crossed_6 : decode b_Mo_crossed 6 = .ok (.ifCond .ne 5, 3) := by decide +kernel
theorem d_Mo_crossed_9 : decode b_Mo_crossed 9 = .ok (.iconst 0, 1) := by decide +kernel
theorem d_Mo_crossed_10 : decode b_Mo_crossed 10 = .ok (.ireturn, 1) := by decide +kernel
theorem d_Mo_crossed_11 : decode b_Mo_crossed 11 = .ok (.aload_n 0, 1) := by decide +kernel
theorem d_Mo_crossed_12 : decode b_Mo_crossed 12 = .ok (.getfield 24, 3) := by decide +kernel
theorem d_Mo_crossed_15 : decode b_Mo_crossed 15 = .ok (.bipush 40, 2) := by decide +kernel
theorem d_Mo_crossed_17 : decode b_Mo_crossed 17 = .ok (.aload_n 0, 1) := by decide +kernel
theorem d_Mo_crossed_18 : decode b_Mo_crossed 18 = .ok (.getfield 63, 3) := by decide +kernel
theorem d_Mo_crossed_21 : decode b_Mo_crossed 21 = .ok (.iload_n 1, 1) := by decide +kernel
theorem d_Mo_crossed_22 : decode b_Mo_crossed 22 = .ok (.iaload, 1) := by decide +kernel
theorem d_Mo_crossed_23 : decode b_Mo_crossed 23 = .ok (.iadd, 1) := by decide +kernel
theorem d_Mo_crossed_24 : decode b_Mo_crossed 24 = .ok (.iaload, 1) := by decide +kernel
theorem d_Mo_crossed_25 : decode b_Mo_crossed 25 = .ok (.istore_n 3, 1) := by decide +kernel
theorem d_Mo_crossed_26 : decode b_Mo_crossed 26 = .ok (.aload_n 0, 1) := by decide +kernel
theorem d_Mo_crossed_27 : decode b_Mo_crossed 27 = .ok (.getfield 63, 3) := by decide +kernel
theorem d_Mo_crossed_30 : decode b_Mo_crossed 30 = .ok (.iload_n 1, 1) := by decide +kernel
theorem d_Mo_crossed_31 : decode b_Mo_crossed 31 = .ok (.iaload, 1) := by decide +kernel
theorem d_Mo_crossed_32 : decode b_Mo_crossed 32 = .ok (.aload_n 0, 1) := by decide +kernel
theorem d_Mo_crossed_33 : decode b_Mo_crossed 33 = .ok (.getfield 63, 3) := by decide +kernel
theorem d_Mo_crossed_36 : decode b_Mo_crossed 36 = .ok (.iload_n 2, 1) := by decide +kernel
theorem d_Mo_crossed_37 : decode b_Mo_crossed 37 = .ok (.iaload, 1) := by decide +kernel
theorem d_Mo_crossed_38 : decode b_Mo_crossed 38 = .ok (.if_icmp .eq 5, 3) := by decide +kernel
theorem d_Mo_crossed_41 : decode b_Mo_crossed 41 = .ok (.iconst 1, 1) := by decide +kernel
theorem d_Mo_crossed_42 : decode b_Mo_crossed 42 = .ok (.ireturn, 1) := by decide +kernel
theorem d_Mo_crossed_43 : decode b_Mo_crossed 43 = .ok (.aload_n 0, 1) := by decide +kernel
theorem d_Mo_crossed_44 : decode b_Mo_crossed 44 = .ok (.getfield 66, 3) := by decide +kernel
theorem d_Mo_crossed_47 : decode b_Mo_crossed 47 = .ok (.iload_n 2, 1) := by decide +kernel
theorem d_Mo_crossed_48 : decode b_Mo_crossed 48 = .ok (.iaload, 1) := by decide +kernel
theorem d_Mo_crossed_49 : decode b_Mo_crossed 49 = .ok (.aload_n 0, 1) := by decide +kernel
theorem d_Mo_crossed_50 : decode b_Mo_crossed 50 = .ok (.getfield 66, 3) := by decide +kernel
theorem d_Mo_crossed_53 : decode b_Mo_crossed 53 = .ok (.iload_n 1, 1) := by decide +kernel
theorem d_Mo_crossed_54 : decode b_Mo_crossed 54 = .ok (.iaload, 1) := by decide +kernel
theorem d_Mo_crossed_55 : decode b_Mo_crossed 55 = .ok (.iconst 1, 1) := by decide +kernel
theorem d_Mo_crossed_56 : decode b_Mo_crossed 56 = .ok (.iadd, 1) := by decide +kernel
theorem d_Mo_crossed_57 : decode b_Mo_crossed 57 = .ok (.iload_n 3, 1) := by decide +kernel
theorem d_Mo_crossed_58 : decode b_Mo_crossed 58 = .ok (.irem, 1) := by decide +kernel
theorem d_Mo_crossed_59 : decode b_Mo_crossed 59 = .ok (.if_icmp .ne 10, 3) := by decide +kernel
theorem d_Mo_crossed_62 : decode b_Mo_crossed 62 = .ok (.aload_n 0, 1) := by decide +kernel
theorem d_Mo_crossed_63 : decode b_Mo_crossed 63 = .ok (.iload_n 1, 1) := by decide +kernel
theorem d_Mo_crossed_64 : decode b_Mo_crossed 64 = .ok (.iload_n 2, 1) := by decide +kernel
theorem d_Mo_crossed_65 : decode b_Mo_crossed 65 = .ok (.invokevirtual 145, 3) := by decide +kernel
theorem d_Mo_crossed_68 : decode b_Mo_crossed 68 = .ok (.ireturn, 1) := by decide +kernel
theorem d_Mo_crossed_69 : decode b_Mo_crossed 69 = .ok (.aload_n 0, 1) := by decide +kernel
theorem d_Mo_crossed_70 : decode b_Mo_crossed 70 = .ok (.getfield 66, 3) := by decide +kernel
theorem d_Mo_crossed_73 : decode b_Mo_crossed 73 = .ok (.iload_n 1, 1) := by decide +kernel
theorem d_Mo_crossed_74 : decode b_Mo_crossed 74 = .ok (.iaload, 1) := by decide +kernel
theorem d_Mo_crossed_75 : decode b_Mo_crossed 75 = .ok (.aload_n 0, 1) := by decide +kernel
theorem d_Mo_crossed_76 : decode b_Mo_crossed 76 = .ok (.getfield 66, 3) := by decide +kernel
theorem d_Mo_crossed_79 : decode b_Mo_crossed 79 = .ok (.iload_n 2, 1) := by decide +kernel
theorem d_Mo_crossed_80 : decode b_Mo_crossed 80 = .ok (.iaload, 1) := by decide +kernel
theorem d_Mo_crossed_81 : decode b_Mo_crossed 81 = .ok (.iconst 1, 1) := by decide +kernel
theorem d_Mo_crossed_82 : decode b_Mo_crossed 82 = .ok (.iadd, 1) := by decide +kernel
theorem d_Mo_crossed_83 : decode b_Mo_crossed 83 = .ok (.iload_n 3, 1) := by decide +kernel
theorem d_Mo_crossed_84 : decode b_Mo_crossed 84 = .ok (.irem, 1) := by decide +kernel
theorem d_Mo_crossed_85 : decode b_Mo_crossed 85 = .ok (.if_icmp .ne 10, 3) := by decide +kernel
theorem d_Mo_crossed_88 : decode b_Mo_crossed 88 = .ok (.aload_n 0, 1) := by decide +kernel
theorem d_Mo_crossed_89 : decode b_Mo_crossed 89 = .ok (.iload_n 2, 1) := by decide +kernel
theorem d_Mo_crossed_90 : decode b_Mo_crossed 90 = .ok (.iload_n 1, 1) := by decide +kernel
theorem d_Mo_crossed_91 : decode b_Mo_crossed 91 = .ok (.invokevirtual 145, 3) := by decide +kernel
theorem d_Mo_crossed_94 : decode b_Mo_crossed 94 = .ok (.ireturn, 1) := by decide +kernel
theorem d_Mo_crossed_95 : decode b_Mo_crossed 95 = .ok (.iconst 1, 1) := by decide +kernel
theorem d_Mo_crossed_96 : decode b_Mo_crossed 96 = .ok (.ireturn, 1) := by decide +kernel
set_option maxHeartbeats 1000000 in
set_option maxRecDepth 100000 in
theorem c_Mo_crossed (F : Nat → Nat → Int) (G : Nat → Int → Int) (n a b : Int) (hn : 0 ≤ n ∧ n ≤ 100) (hE : mE G n) (hp : mPos G n) (ha : 0 ≤ a ∧ a < n) (hb : 0 ≤ b ∧ b < n) : cP y_Mo_crossed b_Mo_crossed 4 (some .boolean) 3 74 F G (fun ad => [.ref (ad 244), .int (iI a), .int (iI b)]) (fun z => (z = 0 ∨ z = 1) ∧ (z = 1 ↔ mCross G a b)) := by
  have ea := hE a (by omega) (by omega)
  have eb := hE b (by omega) (by omega)
  have pa := hp a (by omega) (by omega)
  have pb := hp b (by omega) (by omega)
  intro s0 a0 D t ad
  refine g_startP (by decide +kernel) (Nat.le_of_ble_eq_true rfl) (fun p l e R s m args below meth c A ok => ?_)
  show gW p l e R s m args below meth c _ D A 4 (gZ0 s) 0 0 ad 265 (mem ad t F G) 0 [(0, .ref (ad 244)), (1, .int (iI a)), (2, .int (iI b))] []
  refine g_aload_n ok d_Mo_crossed_0 rfl 0 rfl ?_
  refine g_iload_n ok d_Mo_crossed_1 rfl 1 rfl ?_
  refine g_iload_n ok d_Mo_crossed_2 rfl 2 rfl ?_
  refine g_callPV (As := [.int (iI a), .int (iI b)]) (st := []) ok _ (c_Mo_touch F G _ hn hE _ _ (by omega) (by omega) s0 a0 D t ad) k_1150 k_11 k_1147 cl_Mo (m_Mo (ad := ad) (t := t) (F := F) (G := G) rfl).1 (m_Mo rfl).2 k_1149 s_Mo_touch q_Mo_touch (by decide) (Nat.le_of_ble_eq_true rfl) (by decide) d_Mo_crossed_3 (fun z1 hc1 => ?_)
  have hzb1 := hc1.1
  refine g_if_ne ok 11 d_Mo_crossed_6 (by decide) (by omega) (fun h2 => ?_) (fun h2 => ?_)
  · refine g_aload_n ok d_Mo_crossed_11 rfl 0 rfl ?_
    refine gI_Mo_corners ok _ rfl k_993 d_Mo_crossed_12 ?_
    refine g_bipush ok (by decide) d_Mo_crossed_15 ?_
    refine g_aload_n ok d_Mo_crossed_17 rfl 0 rfl ?_
    refine gI_Mo_ring ok _ rfl k_1006 d_Mo_crossed_18 ?_
    refine g_iload_n ok d_Mo_crossed_21 rfl 1 rfl ?_
    refine h_iald ok _ a_255 (by omega) d_Mo_crossed_22 ?_
    refine g_iadd ok d_Mo_crossed_23 ?_
    refine h_iald ok _ a_246 (by omega) d_Mo_crossed_24 ?_
    refine g_istore_n (lv' := [(3, .int (iI (G 246 (40 + (G 255 a))))), (0, .ref (ad 244)), (1, .int (iI a)), (2, .int (iI b))]) ok d_Mo_crossed_25 rfl (by decide) rfl ?_
    refine g_aload_n ok d_Mo_crossed_26 rfl 1 rfl ?_
    refine gI_Mo_ring ok _ rfl k_1006 d_Mo_crossed_27 ?_
    refine g_iload_n ok d_Mo_crossed_30 rfl 2 rfl ?_
    refine h_iald ok _ a_255 (by omega) d_Mo_crossed_31 ?_
    refine g_aload_n ok d_Mo_crossed_32 rfl 1 rfl ?_
    refine gI_Mo_ring ok _ rfl k_1006 d_Mo_crossed_33 ?_
    refine g_iload_n ok d_Mo_crossed_36 rfl 3 rfl ?_
    refine h_iald ok _ a_255 (by omega) d_Mo_crossed_37 ?_
    refine g_icmp_eq ok 43 d_Mo_crossed_38 (by decide) (by omega) (by omega) (fun h3 => ?_) (fun h3 => ?_)
    · have hrr : G 255 b = G 255 a := by omega
      rw [hrr] at pb
      have j1 := rJ_rng (n := G 246 (40 + G 255 a)) (i := G 256 a) (by omega)
      have j2 := rJ_rng (n := G 246 (40 + G 255 a)) (i := G 256 b) (by omega)
      refine g_aload_n ok d_Mo_crossed_43 rfl 1 rfl ?_
      refine gI_Mo_place ok _ rfl k_1007 d_Mo_crossed_44 ?_
      refine g_iload_n ok d_Mo_crossed_47 rfl 3 rfl ?_
      refine h_iald ok _ a_256 (by omega) d_Mo_crossed_48 ?_
      refine g_aload_n ok d_Mo_crossed_49 rfl 1 rfl ?_
      refine gI_Mo_place ok _ rfl k_1007 d_Mo_crossed_50 ?_
      refine g_iload_n ok d_Mo_crossed_53 rfl 2 rfl ?_
      refine h_iald ok _ a_256 (by omega) d_Mo_crossed_54 ?_
      refine g_iconst ok d_Mo_crossed_55 ?_
      refine g_iadd ok d_Mo_crossed_56 ?_
      refine g_iload_n ok d_Mo_crossed_57 rfl 0 rfl ?_
      refine g_irem (z := rJ (G 246 (40 + G 255 a)) (G 256 a)) ok (iI_ne0 (by omega)) (iI_remJ (by omega) (by omega)) d_Mo_crossed_58 ?_
      refine g_icmp_ne ok 69 d_Mo_crossed_59 (by decide) (by omega) (by omega) (fun h4 => ?_) (fun h4 => ?_)
      · refine g_aload_n ok d_Mo_crossed_69 rfl 1 rfl ?_
        refine gI_Mo_place ok _ rfl k_1007 d_Mo_crossed_70 ?_
        refine g_iload_n ok d_Mo_crossed_73 rfl 2 rfl ?_
        refine h_iald ok _ a_256 (by omega) d_Mo_crossed_74 ?_
        refine g_aload_n ok d_Mo_crossed_75 rfl 1 rfl ?_
        refine gI_Mo_place ok _ rfl k_1007 d_Mo_crossed_76 ?_
        refine g_iload_n ok d_Mo_crossed_79 rfl 3 rfl ?_
        refine h_iald ok _ a_256 (by omega) d_Mo_crossed_80 ?_
        refine g_iconst ok d_Mo_crossed_81 ?_
        refine g_iadd ok d_Mo_crossed_82 ?_
        refine g_iload_n ok d_Mo_crossed_83 rfl 0 rfl ?_
        refine g_irem (z := rJ (G 246 (40 + G 255 a)) (G 256 b)) ok (iI_ne0 (by omega)) (iI_remJ (by omega) (by omega)) d_Mo_crossed_84 ?_
        refine g_icmp_ne ok 95 d_Mo_crossed_85 (by decide) (by omega) (by omega) (fun h5 => ?_) (fun h5 => ?_)
        · refine g_iconst ok d_Mo_crossed_95 ?_
          exact g_zpret ok d_Mo_crossed_96 (Or.inr rfl) ⟨Or.inr rfl, ⟨fun _ => ⟨hc1.2.mp (by omega), Or.inr (by unfold mNext; rw [if_neg (by omega), if_neg (by omega)]; trivial)⟩, fun _ => rfl⟩⟩
        · refine g_aload_n ok d_Mo_crossed_88 rfl 1 rfl ?_
          refine g_iload_n ok d_Mo_crossed_89 rfl 3 rfl ?_
          refine g_iload_n ok d_Mo_crossed_90 rfl 2 rfl ?_
          refine g_callPV (As := [.int (iI b), .int (iI a)]) (st := []) ok _ (c_Mo_folded F G _ (by omega) hE _ _ (by omega) (by omega) s0 a0 D t ad) k_1164 k_11 k_1161 cl_Mo (m_Mo (ad := ad) (t := t) (F := F) (G := G) rfl).1 (m_Mo rfl).2 k_1163 s_Mo_folded q_Mo_folded (by decide) (Nat.le_of_ble_eq_true rfl) (by decide) d_Mo_crossed_91 (fun z6 hc6 => ?_)
          have hzb6 := hc6.1
          exact g_zpret ok d_Mo_crossed_94 hc6.1 ⟨hc6.1, ⟨fun q => ⟨hc1.2.mp (by omega), Or.inr (by unfold mNext; rw [if_neg (by omega), if_pos (by omega)]; exact hc6.2.mp q)⟩, fun q => hc6.2.mpr (q.2.elim (fun z => absurd (show G 255 a = G 255 b by omega) z) (fun z => by unfold mNext at z; rw [if_neg (by omega), if_pos (by omega)] at z; exact z))⟩⟩
      · refine g_aload_n ok d_Mo_crossed_62 rfl 1 rfl ?_
        refine g_iload_n ok d_Mo_crossed_63 rfl 2 rfl ?_
        refine g_iload_n ok d_Mo_crossed_64 rfl 3 rfl ?_
        refine g_callPV (As := [.int (iI a), .int (iI b)]) (st := []) ok _ (c_Mo_folded F G _ (by omega) hE _ _ (by omega) (by omega) s0 a0 D t ad) k_1164 k_11 k_1161 cl_Mo (m_Mo (ad := ad) (t := t) (F := F) (G := G) rfl).1 (m_Mo rfl).2 k_1163 s_Mo_folded q_Mo_folded (by decide) (Nat.le_of_ble_eq_true rfl) (by decide) d_Mo_crossed_65 (fun z7 hc7 => ?_)
        have hzb7 := hc7.1
        exact g_zpret ok d_Mo_crossed_68 hc7.1 ⟨hc7.1, ⟨fun q => ⟨hc1.2.mp (by omega), Or.inr (by unfold mNext; rw [if_pos (by omega)]; exact hc7.2.mp q)⟩, fun q => hc7.2.mpr (q.2.elim (fun z => absurd (show G 255 a = G 255 b by omega) z) (fun z => by unfold mNext at z; rw [if_pos (by omega)] at z; exact z))⟩⟩
    · refine g_iconst ok d_Mo_crossed_41 ?_
      exact g_zpret ok d_Mo_crossed_42 (Or.inr rfl) ⟨Or.inr rfl, ⟨fun _ => ⟨hc1.2.mp (by omega), Or.inl (by omega)⟩, fun _ => rfl⟩⟩
  · refine g_iconst ok d_Mo_crossed_9 ?_
    exact g_zpret ok d_Mo_crossed_10 (Or.inl rfl) ⟨Or.inl rfl, ⟨fun q => by omega, fun q => absurd (hc1.2.mpr q.1) (by omega)⟩⟩
def mEdges (G : Nat → Int → Int) (s : Int) (G1 : Nat → Int → Int) : Prop := mFr G G1 ∧ ∀ q : Nat, q < 4 → mRing G s q (mSz G s q) G1
def mPlS (G : Nat → Int → Int) (s : Int) : Prop := ∀ (q : Nat) (i : Int), q < 4 → 0 ≤ i → i < mSz G s q → (0 ≤ G 247 (mAt G s q i) ∧ G 247 (mAt G s q i) ≤ 600) ∧ (0 ≤ G 248 (mAt G s q i) ∧ G 248 (mAt G s q i) ≤ 600)
theorem mE_of {G G1 : Nat → Int → Int} {s : Int} (hO : mOk G s) (hP : mPlS G s) (h : mEdges G s G1) : mE G1 (oM G s 4) := by
  intro z h1 h2
  obtain ⟨q, i, hq, i1, i2, rfl⟩ := oM_split h1 4 h2
  obtain ⟨e1, e2, e3, e4, e5, e6⟩ := h.2 q hq i i1 i2
  obtain ⟨a, b⟩ := hP q i hq i1 i2
  have hj := rJ_rng ⟨i1, i2⟩
  obtain ⟨c, d⟩ := hP q _ hq hj.1 hj.2
  have := mSz_rng hO (q := q) (by omega)
  rw [e1, e2, e3, e4, e5, e6]
  exact ⟨a, b, c, d, by omega, by omega⟩
theorem oM_100 {G : Nat → Int → Int} {s : Int} (hO : mOk G s) : 0 ≤ oM G s 4 ∧ oM G s 4 ≤ 100 := by
  have := oM_rng hO 4 (by omega)
  split at this <;> omega
theorem mPlS_10 {G : Nat → Int → Int} (hns : ¬ G 245 41 = 1) (hP : mPl G) : mPlS G 10 := by
  intro q i hq h1 h2
  have e : mSz G 10 q = G 246 (40 + q) := by
    unfold mSz
    exact if_neg hns
  have e2 : mAt G 10 q i = 960 + 24 * q + i := by
    unfold mAt
    exact if_neg hns
  rw [e] at h2
  rw [e2]
  exact hP q i (by omega) (by omega) h1 h2
theorem mPos_10 {G G1 : Nat → Int → Int} (hO : mOk G 10) (hns : ¬ G 245 41 = 1) (h : mEdges G 10 G1) : mPos G1 (oM G 10 4) := by
  intro z h1 h2
  obtain ⟨q, i, hq, i1, i2, rfl⟩ := oM_split h1 4 h2
  obtain ⟨e1, e2, e3, e4, e5, e6⟩ := h.2 q hq i i1 i2
  have e : mSz G 10 q = G 246 (40 + q) := by
    unfold mSz
    exact if_neg hns
  rw [e] at i2
  have : 0 ≤ G 246 (40 + (q : Int)) ∧ G 246 (40 + (q : Int)) ≤ 24 := hO.2.1 q (by omega) (by omega)
  rw [e5, e6, h.1 246 (by decide)]
  omega
def mOut (G : Nat → Int → Int) (n : Int) : Prop := ∃ r : Int, (1 ≤ r ∧ r < 4) ∧ 0 < G 246 (40 + r) ∧ ¬ mIn G n 0 (G 247 (960 + 24 * r)) (G 248 (960 + 24 * r))
def mWith (G : Nat → Int → Int) (n : Int) : Prop := ∃ r v : Int, (1 ≤ r ∧ r < 4) ∧ (1 ≤ v ∧ v < 4) ∧ ¬ v = r ∧ 0 < G 246 (40 + r) ∧ 0 < G 246 (40 + v) ∧ mIn G n v (G 247 (960 + 24 * r)) (G 248 (960 + 24 * r))
/-- what the reference's told shape has for a fault -/
def mFault (G : Nat → Int → Int) (z l o : Int) : Prop := (z = 1 ∧ mFlat G ∧ l = -1 ∧ o = -1) ∨ (¬ mFlat G ∧ G 245 41 = 1 ∧ z = 0 ∧ l = -1 ∧ o = -1) ∨ (¬ mFlat G ∧ ¬ G 245 41 = 1 ∧ ∃ G1, mEdges G 10 G1 ∧ ((z = 2 ∧ (0 ≤ l ∧ l < o ∧ o < oM G 10 4) ∧ mCross G1 l o ∧ ∀ a b : Int, 0 ≤ a → a < b → b < oM G 10 4 → (a < l ∨ (a = l ∧ b < o)) → ¬ mCross G1 a b) ∨ ((∀ a b : Int, 0 ≤ a → a < b → b < oM G 10 4 → ¬ mCross G1 a b) ∧ l = -1 ∧ o = -1 ∧ ((z = 3 ∧ mOut G1 (oM G 10 4)) ∨ (¬ mOut G1 (oM G 10 4) ∧ ((z = 4 ∧ mWith G1 (oM G 10 4)) ∨ (z = 0 ∧ ¬ mWith G1 (oM G 10 4))))))))
theorem d_Mo_findFault_0 : decode b_Mo_findFault 0 = .ok (.aload_n 0, 1) := by decide +kernel
theorem d_Mo_findFault_1 : decode b_Mo_findFault 1 = .ok (.invokevirtual 148, 3) := by decide +kernel
theorem d_Mo_findFault_4 : decode b_Mo_findFault 4 = .ok (.ifCond .eq 5, 3) := by decide +kernel
theorem d_Mo_findFault_7 : decode b_Mo_findFault 7 = .ok (.iconst 1, 1) := by decide +kernel
theorem d_Mo_findFault_8 : decode b_Mo_findFault 8 = .ok (.ireturn, 1) := by decide +kernel
theorem d_Mo_findFault_9 : decode b_Mo_findFault 9 = .ok (.aload_n 0, 1) := by decide +kernel
theorem d_Mo_findFault_10 : decode b_Mo_findFault 10 = .ok (.getfield 20, 3) := by decide +kernel
theorem d_Mo_findFault_13 : decode b_Mo_findFault 13 = .ok (.bipush 41, 2) := by decide +kernel
theorem d_Mo_findFault_15 : decode b_Mo_findFault 15 = .ok (.iaload, 1) := by decide +kernel
theorem d_Mo_findFault_16 : decode b_Mo_findFault 16 = .ok (.iconst 1, 1) := by decide +kernel
theorem d_Mo_findFault_17 : decode b_Mo_findFault 17 = .ok (.if_icmp .ne 5, 3) := by decide +kernel
theorem d_Mo_findFault_20 : decode b_Mo_findFault 20 = .ok (.iconst 0, 1) := by decide +kernel
theorem d_Mo_findFault_21 : decode b_Mo_findFault 21 = .ok (.ireturn, 1) := by decide +kernel
theorem d_Mo_findFault_22 : decode b_Mo_findFault 22 = .ok (.aload_n 0, 1) := by decide +kernel
theorem d_Mo_findFault_23 : decode b_Mo_findFault 23 = .ok (.bipush 10, 2) := by decide +kernel
theorem d_Mo_findFault_25 : decode b_Mo_findFault 25 = .ok (.invokevirtual 152, 3) := by decide +kernel
theorem d_Mo_findFault_28 : decode b_Mo_findFault 28 = .ok (.iconst 0, 1) := by decide +kernel
theorem d_Mo_findFault_29 : decode b_Mo_findFault 29 = .ok (.istore_n 1, 1) := by decide +kernel
theorem d_Mo_findFault_30 : decode b_Mo_findFault 30 = .ok (.iload_n 1, 1) := by decide +kernel
theorem d_Mo_findFault_31 : decode b_Mo_findFault 31 = .ok (.aload_n 0, 1) := by decide +kernel
theorem d_Mo_findFault_32 : decode b_Mo_findFault 32 = .ok (.getfield 48, 3) := by decide +kernel
theorem d_Mo_findFault_35 : decode b_Mo_findFault 35 = .ok (.if_icmp .ge 48, 3) := by decide +kernel
theorem d_Mo_findFault_38 : decode b_Mo_findFault 38 = .ok (.iload_n 1, 1) := by decide +kernel
theorem d_Mo_findFault_39 : decode b_Mo_findFault 39 = .ok (.iconst 1, 1) := by decide +kernel
theorem d_Mo_findFault_40 : decode b_Mo_findFault 40 = .ok (.iadd, 1) := by decide +kernel
theorem d_Mo_findFault_41 : decode b_Mo_findFault 41 = .ok (.istore_n 2, 1) := by decide +kernel
theorem d_Mo_findFault_42 : decode b_Mo_findFault 42 = .ok (.iload_n 2, 1) := by decide +kernel
theorem d_Mo_findFault_43 : decode b_Mo_findFault 43 = .ok (.aload_n 0, 1) := by decide +kernel
theorem d_Mo_findFault_44 : decode b_Mo_findFault 44 = .ok (.getfield 48, 3) := by decide +kernel
theorem d_Mo_findFault_47 : decode b_Mo_findFault 47 = .ok (.if_icmp .ge 30, 3) := by decide +kernel
theorem d_Mo_findFault_50 : decode b_Mo_findFault 50 = .ok (.aload_n 0, 1) := by decide +kernel
theorem d_Mo_findFault_51 : decode b_Mo_findFault 51 = .ok (.iload_n 1, 1) := by decide +kernel
theorem d_Mo_findFault_52 : decode b_Mo_findFault 52 = .ok (.iload_n 2, 1) := by decide +kernel
theorem d_Mo_findFault_53 : decode b_Mo_findFault 53 = .ok (.invokevirtual 156, 3) := by decide +kernel
theorem d_Mo_findFault_56 : decode b_Mo_findFault 56 = .ok (.ifCond .eq 15, 3) := by decide +kernel
theorem d_Mo_findFault_59 : decode b_Mo_findFault 59 = .ok (.aload_n 0, 1) := by decide +kernel
theorem d_Mo_findFault_60 : decode b_Mo_findFault 60 = .ok (.iload_n 1, 1) := by decide +kernel
theorem d_Mo_findFault_61 : decode b_Mo_findFault 61 = .ok (.putfield 42, 3) := by decide +kernel
theorem d_Mo_findFault_64 : decode b_Mo_findFault 64 = .ok (.aload_n 0, 1) := by decide +kernel
theorem d_Mo_findFault_65 : decode b_Mo_findFault 65 = .ok (.iload_n 2, 1) := by decide +kernel
theorem d_Mo_findFault_66 : decode b_Mo_findFault 66 = .ok (.putfield 45, 3) := by decide +kernel
theorem d_Mo_findFault_69 : decode b_Mo_findFault 69 = .ok (.iconst 2, 1) := by decide +kernel
theorem d_Mo_findFault_70 : decode b_Mo_findFault 70 = .ok (.ireturn, 1) := by decide +kernel
theorem d_Mo_findFault_71 : decode b_Mo_findFault 71 = .ok (.iinc 2 1, 3) := by decide +kernel
theorem d_Mo_findFault_74 : decode b_Mo_findFault 74 = .ok (.goto (-32), 3) := by decide +kernel
theorem d_Mo_findFault_77 : decode b_Mo_findFault 77 = .ok (.iinc 1 1, 3) := by decide +kernel
theorem d_Mo_findFault_80 : decode b_Mo_findFault 80 = .ok (.goto (-50), 3) := by decide +kernel
theorem d_Mo_findFault_83 : decode b_Mo_findFault 83 = .ok (.iconst 1, 1) := by decide +kernel
theorem d_Mo_findFault_84 : decode b_Mo_findFault 84 = .ok (.istore_n 1, 1) := by decide +kernel
theorem d_Mo_findFault_85 : decode b_Mo_findFault 85 = .ok (.iload_n 1, 1) := by decide +kernel
theorem d_Mo_findFault_86 : decode b_Mo_findFault 86 = .ok (.iconst 4, 1) := by decide +kernel
theorem d_Mo_findFault_87 : decode b_Mo_findFault 87 = .ok (.if_icmp .ge 57, 3) := by decide +kernel
theorem d_Mo_findFault_90 : decode b_Mo_findFault 90 = .ok (.aload_n 0, 1) := by decide +kernel
theorem d_Mo_findFault_91 : decode b_Mo_findFault 91 = .ok (.getfield 24, 3) := by decide +kernel
theorem d_Mo_findFault_94 : decode b_Mo_findFault 94 = .ok (.bipush 40, 2) := by decide +kernel
theorem d_Mo_findFault_96 : decode b_Mo_findFault 96 = .ok (.iload_n 1, 1) := by decide +kernel
theorem d_Mo_findFault_97 : decode b_Mo_findFault 97 = .ok (.iadd, 1) := by decide +kernel
theorem d_Mo_findFault_98 : decode b_Mo_findFault 98 = .ok (.iaload, 1) := by decide +kernel
theorem d_Mo_findFault_99 : decode b_Mo_findFault 99 = .ok (.ifCond .le 39, 3) := by decide +kernel
theorem d_Mo_findFault_102 : decode b_Mo_findFault 102 = .ok (.aload_n 0, 1) := by decide +kernel
theorem d_Mo_findFault_103 : decode b_Mo_findFault 103 = .ok (.iconst 0, 1) := by decide +kernel
theorem d_Mo_findFault_104 : decode b_Mo_findFault 104 = .ok (.aload_n 0, 1) := by decide +kernel
theorem d_Mo_findFault_105 : decode b_Mo_findFault 105 = .ok (.getfield 27, 3) := by decide +kernel
theorem d_Mo_findFault_108 : decode b_Mo_findFault 108 = .ok (.sipush 960, 3) := by decide +kernel
theorem d_Mo_findFault_111 : decode b_Mo_findFault 111 = .ok (.bipush 24, 2) := by decide +kernel
theorem d_Mo_findFault_113 : decode b_Mo_findFault 113 = .ok (.iload_n 1, 1) := by decide +kernel
theorem d_Mo_findFault_114 : decode b_Mo_findFault 114 = .ok (.imul, 1) := by decide +kernel
theorem d_Mo_findFault_115 : decode b_Mo_findFault 115 = .ok (.iadd, 1) := by decide +kernel
theorem d_Mo_findFault_116 : decode b_Mo_findFault 116 = .ok (.iaload, 1) := by decide +kernel
theorem d_Mo_findFault_117 : decode b_Mo_findFault 117 = .ok (.aload_n 0, 1) := by decide +kernel
theorem d_Mo_findFault_118 : decode b_Mo_findFault 118 = .ok (.getfield 30, 3) := by decide +kernel
theorem d_Mo_findFault_121 : decode b_Mo_findFault 121 = .ok (.sipush 960, 3) := by decide +kernel
theorem d_Mo_findFault_124 : decode b_Mo_findFault 124 = .ok (.bipush 24, 2) := by decide +kernel
theorem d_Mo_findFault_126 : decode b_Mo_findFault 126 = .ok (.iload_n 1, 1) := by decide +kernel
theorem d_Mo_findFault_127 : decode b_Mo_findFault 127 = .ok (.imul, 1) := by decide +kernel
theorem d_Mo_findFault_128 : decode b_Mo_findFault 128 = .ok (.iadd, 1) := by decide +kernel
theorem d_Mo_findFault_129 : decode b_Mo_findFault 129 = .ok (.iaload, 1) := by decide +kernel
theorem d_Mo_findFault_130 : decode b_Mo_findFault 130 = .ok (.invokevirtual 159, 3) := by decide +kernel
theorem d_Mo_findFault_133 : decode b_Mo_findFault 133 = .ok (.ifCond .ne 5, 3) := by decide +kernel
theorem d_Mo_findFault_136 : decode b_Mo_findFault 136 = .ok (.iconst 3, 1) := by decide +kernel
theorem d_Mo_findFault_137 : decode b_Mo_findFault 137 = .ok (.ireturn, 1) := by decide +kernel
theorem d_Mo_findFault_138 : decode b_Mo_findFault 138 = .ok (.iinc 1 1, 3) := by decide +kernel
theorem d_Mo_findFault_141 : decode b_Mo_findFault 141 = .ok (.goto (-56), 3) := by decide +kernel
theorem d_Mo_findFault_144 : decode b_Mo_findFault 144 = .ok (.iconst 1, 1) := by decide +kernel
theorem d_Mo_findFault_145 : decode b_Mo_findFault 145 = .ok (.istore_n 1, 1) := by decide +kernel
theorem d_Mo_findFault_146 : decode b_Mo_findFault 146 = .ok (.iload_n 1, 1) := by decide +kernel
theorem d_Mo_findFault_147 : decode b_Mo_findFault 147 = .ok (.iconst 4, 1) := by decide +kernel
theorem d_Mo_findFault_148 : decode b_Mo_findFault 148 = .ok (.if_icmp .ge 87, 3) := by decide +kernel
theorem d_Mo_findFault_151 : decode b_Mo_findFault 151 = .ok (.iconst 1, 1) := by decide +kernel
theorem d_Mo_findFault_152 : decode b_Mo_findFault 152 = .ok (.istore_n 2, 1) := by decide +kernel
theorem d_Mo_findFault_153 : decode b_Mo_findFault 153 = .ok (.iload_n 2, 1) := by decide +kernel
theorem d_Mo_findFault_154 : decode b_Mo_findFault 154 = .ok (.iconst 4, 1) := by decide +kernel
theorem d_Mo_findFault_155 : decode b_Mo_findFault 155 = .ok (.if_icmp .ge 74, 3) := by decide +kernel
theorem d_Mo_findFault_158 : decode b_Mo_findFault 158 = .ok (.iload_n 2, 1) := by decide +kernel
theorem d_Mo_findFault_159 : decode b_Mo_findFault 159 = .ok (.iload_n 1, 1) := by decide +kernel
theorem d_Mo_findFault_160 : decode b_Mo_findFault 160 = .ok (.if_icmp .eq 63, 3) := by decide +kernel
theorem d_Mo_findFault_163 : decode b_Mo_findFault 163 = .ok (.aload_n 0, 1) := by decide +kernel
theorem d_Mo_findFault_164 : decode b_Mo_findFault 164 = .ok (.getfield 24, 3) := by decide +kernel
theorem d_Mo_findFault_167 : decode b_Mo_findFault 167 = .ok (.bipush 40, 2) := by decide +kernel
theorem d_Mo_findFault_169 : decode b_Mo_findFault 169 = .ok (.iload_n 1, 1) := by decide +kernel
theorem d_Mo_findFault_170 : decode b_Mo_findFault 170 = .ok (.iadd, 1) := by decide +kernel
theorem d_Mo_findFault_171 : decode b_Mo_findFault 171 = .ok (.iaload, 1) := by decide +kernel
theorem d_Mo_findFault_172 : decode b_Mo_findFault 172 = .ok (.ifCond .le 51, 3) := by decide +kernel
theorem d_Mo_findFault_175 : decode b_Mo_findFault 175 = .ok (.aload_n 0, 1) := by decide +kernel
theorem d_Mo_findFault_176 : decode b_Mo_findFault 176 = .ok (.getfield 24, 3) := by decide +kernel
theorem d_Mo_findFault_179 : decode b_Mo_findFault 179 = .ok (.bipush 40, 2) := by decide +kernel
theorem d_Mo_findFault_181 : decode b_Mo_findFault 181 = .ok (.iload_n 2, 1) := by decide +kernel
theorem d_Mo_findFault_182 : decode b_Mo_findFault 182 = .ok (.iadd, 1) := by decide +kernel
theorem d_Mo_findFault_183 : decode b_Mo_findFault 183 = .ok (.iaload, 1) := by decide +kernel
theorem d_Mo_findFault_184 : decode b_Mo_findFault 184 = .ok (.ifCond .le 39, 3) := by decide +kernel
theorem d_Mo_findFault_187 : decode b_Mo_findFault 187 = .ok (.aload_n 0, 1) := by decide +kernel
theorem d_Mo_findFault_188 : decode b_Mo_findFault 188 = .ok (.iload_n 2, 1) := by decide +kernel
theorem d_Mo_findFault_189 : decode b_Mo_findFault 189 = .ok (.aload_n 0, 1) := by decide +kernel
theorem d_Mo_findFault_190 : decode b_Mo_findFault 190 = .ok (.getfield 27, 3) := by decide +kernel
theorem d_Mo_findFault_193 : decode b_Mo_findFault 193 = .ok (.sipush 960, 3) := by decide +kernel
theorem d_Mo_findFault_196 : decode b_Mo_findFault 196 = .ok (.bipush 24, 2) := by decide +kernel
theorem d_Mo_findFault_198 : decode b_Mo_findFault 198 = .ok (.iload_n 1, 1) := by decide +kernel
theorem d_Mo_findFault_199 : decode b_Mo_findFault 199 = .ok (.imul, 1) := by decide +kernel
theorem d_Mo_findFault_200 : decode b_Mo_findFault 200 = .ok (.iadd, 1) := by decide +kernel
theorem d_Mo_findFault_201 : decode b_Mo_findFault 201 = .ok (.iaload, 1) := by decide +kernel
theorem d_Mo_findFault_202 : decode b_Mo_findFault 202 = .ok (.aload_n 0, 1) := by decide +kernel
theorem d_Mo_findFault_203 : decode b_Mo_findFault 203 = .ok (.getfield 30, 3) := by decide +kernel
theorem d_Mo_findFault_206 : decode b_Mo_findFault 206 = .ok (.sipush 960, 3) := by decide +kernel
theorem d_Mo_findFault_209 : decode b_Mo_findFault 209 = .ok (.bipush 24, 2) := by decide +kernel
theorem d_Mo_findFault_211 : decode b_Mo_findFault 211 = .ok (.iload_n 1, 1) := by decide +kernel
theorem d_Mo_findFault_212 : decode b_Mo_findFault 212 = .ok (.imul, 1) := by decide +kernel
theorem d_Mo_findFault_213 : decode b_Mo_findFault 213 = .ok (.iadd, 1) := by decide +kernel
theorem d_Mo_findFault_214 : decode b_Mo_findFault 214 = .ok (.iaload, 1) := by decide +kernel
theorem d_Mo_findFault_215 : decode b_Mo_findFault 215 = .ok (.invokevirtual 159, 3) := by decide +kernel
theorem d_Mo_findFault_218 : decode b_Mo_findFault 218 = .ok (.ifCond .eq 5, 3) := by decide +kernel
theorem d_Mo_findFault_221 : decode b_Mo_findFault 221 = .ok (.iconst 4, 1) := by decide +kernel
theorem d_Mo_findFault_222 : decode b_Mo_findFault 222 = .ok (.ireturn, 1) := by decide +kernel
theorem d_Mo_findFault_223 : decode b_Mo_findFault 223 = .ok (.iinc 2 1, 3) := by decide +kernel
theorem d_Mo_findFault_226 : decode b_Mo_findFault 226 = .ok (.goto (-73), 3) := by decide +kernel
theorem d_Mo_findFault_229 : decode b_Mo_findFault 229 = .ok (.iinc 1 1, 3) := by decide +kernel
theorem d_Mo_findFault_232 : decode b_Mo_findFault 232 = .ok (.goto (-86), 3) := by decide +kernel
theorem d_Mo_findFault_235 : decode b_Mo_findFault 235 = .ok (.iconst 0, 1) := by decide +kernel
theorem d_Mo_findFault_236 : decode b_Mo_findFault 236 = .ok (.ireturn, 1) := by decide +kernel
set_option maxHeartbeats 1000000 in
set_option maxRecDepth 100000 in
theorem c_Mo_findFault (F : Nat → Nat → Int) (G : Nat → Int → Int) (hO : mOk G 10) (hP : mPl G) (h41 : 0 ≤ G 246 41 ∧ G 246 41 ≤ 24) (hl10 : F 244 10 = -1) (hl11 : F 244 11 = -1) : cI y_Mo_findFault b_Mo_findFault 3 (some .int) 4 97 F G (fun ad => [.ref (ad 244)]) (fun z F' G' => mFault G z (F' 244 10) (F' 244 11) ∧ mFr G G' ∧ ∀ a b, ¬ (a = 244 ∧ (b = 10 ∨ b = 11 ∨ b = 12)) → F' a b = F a b) := by
  have hf : 0 ≤ G 245 41 ∧ G 245 41 ≤ 2 := hO.2.2.1
  intro s0 a0 D t ad
  refine g_startI (by decide +kernel) (Nat.le_of_ble_eq_true rfl) (fun p l e R s m args below meth c A ok => ?_)
  show gW p l e R s m args below meth c _ D A 3 (gZ0 s) 0 0 ad 265 (mem ad t F G) 0 [(0, .ref (ad 244))] []
  refine g_aload_n ok d_Mo_findFault_0 rfl 0 rfl ?_
  refine g_callPV (As := []) (st := []) ok _ (c_Mo_flat F G hO hP h41 s0 a0 D t ad) k_1127 k_11 k_1124 cl_Mo (m_Mo (ad := ad) (t := t) (F := F) (G := G) rfl).1 (m_Mo rfl).2 k_1126 s_Mo_flat q_Mo_flat (by decide) (Nat.le_of_ble_eq_true rfl) (by decide) d_Mo_findFault_1 (fun z1 hc1 => ?_)
  have hzb1 := hc1.1
  refine g_if_eq ok 9 d_Mo_findFault_4 (by decide) (by omega) (fun h2 => ?_) (fun h2 => ?_)
  · refine g_aload_n ok d_Mo_findFault_9 rfl 0 rfl ?_
    refine gI_Mo_told ok _ rfl k_992 d_Mo_findFault_10 ?_
    refine g_bipush ok (by decide) d_Mo_findFault_13 ?_
    refine h_iald ok _ a_245 (by omega) d_Mo_findFault_15 ?_
    refine g_iconst ok d_Mo_findFault_16 ?_
    refine g_icmp_ne ok 22 d_Mo_findFault_17 (by decide) (by omega) (by omega) (fun h3 => ?_) (fun h3 => ?_)
    · refine g_aload_n ok d_Mo_findFault_22 rfl 0 rfl ?_
      refine g_bipush ok (by decide) d_Mo_findFault_23 ?_
      refine g_callVV (As := [.int (iI 10)]) (st := []) ok _ (c_Mo_edgesOf F G _ hO s0 a0 D t ad) k_1134 k_11 k_1131 cl_Mo (m_Mo (ad := ad) (t := t) (F := F) (G := G) rfl).1 (m_Mo rfl).2 k_1133 s_Mo_edgesOf q_Mo_edgesOf (by decide) (Nat.le_of_ble_eq_true rfl) (by decide) d_Mo_findFault_25 (fun ce1 hc4 => ?_)
      obtain ⟨F1, G1, rfl, hF1, hed⟩ := hc4
      subst hF1
      have hns : ¬ G 245 41 = 1 := by omega
      have hEE := mE_of hO (mPlS_10 hns hP) hed
      have hpo := mPos_10 hO hns hed
      have hN := oM_100 hO
      have hnf : ¬ mFlat G := fun q => absurd (hc1.2.mpr q) (by omega)
      have hP1 : mPl G1 := by unfold mPl; rw [hed.1 246 (by decide), hed.1 247 (by decide), hed.1 248 (by decide)]; exact hP
      have hO1 : ∀ r : Int, 0 ≤ r → r < 4 → 0 ≤ G1 246 (40 + r) ∧ G1 246 (40 + r) ≤ 24 := by rw [hed.1 246 (by decide)]; exact fun r h1 h2 => hO.2.1 r h1 h2
      refine g_iconst ok d_Mo_findFault_28 ?_
      refine g_istore_n (lv' := [(1, .int (iI 0)), (0, .ref (ad 244))]) ok d_Mo_findFault_29 rfl (by decide) rfl ?_
      have L_a : ∀ (n_a : Nat) (a1 : Int), (0 ≤ a1 ∧ a1 ≤ oM G 10 4) → (∀ x y : Int, 0 ≤ x → x < a1 → x < y → y < oM G 10 4 → ¬ mCross G1 x y) → (oM G 10 4 + 1 - a1) < (n_a : Int) → gW p l e R s m args below meth c (MQ below (gQi D A ad 265 (fun z ce' => ∃ F' G', ce' = mem ad t F' G' ∧ (fun z F' G' => mFault G z (F' 244 10) (F' 244 11) ∧ mFr G G' ∧ ∀ a b, ¬ (a = 244 ∧ (b = 10 ∨ b = 11 ∨ b = 12)) → F' a b = F a b) z F' G')) args s 0 0 A) D A 3 (gZ) 0 0 ad 265 (mem ad t (fU F 244 12 (oM G 10 4)) G1) 30 [(0, .ref (ad 244)), (1, .int (iI a1))] [] := by
        intro n_a
        induction n_a with
        | zero =>
          intro a1 ha ho hm_a
          exact absurd hm_a (by omega)
        | succ n_a ih_a =>
          intro a1 ha ho hm_a
          refine g_iload_n ok d_Mo_findFault_30 rfl 1 rfl ?_
          refine g_aload_n ok d_Mo_findFault_31 rfl 0 rfl ?_
          refine gI_Mo_edges ok _ rfl k_1001 d_Mo_findFault_32 ?_
          refine g_top (y := oM G 10 4) (by show (fU F 244 12 (oM G 10 4)) 244 12 = _; rw [fU_hit]) ?_
          refine g_icmp_ge ok 83 d_Mo_findFault_35 (by decide) (by omega) (by omega) (fun h5 => ?_) (fun h5 => ?_)
          · refine g_iconst ok d_Mo_findFault_83 ?_
            refine g_istore_n (lv' := [(1, .int (iI 1)), (0, .ref (ad 244))]) ok d_Mo_findFault_84 rfl (by decide) rfl ?_
            have L_r : ∀ (n_r : Nat) (r : Int), (1 ≤ r ∧ r ≤ 4) → (∀ x y : Int, 0 ≤ x → x < y → y < oM G 10 4 → ¬ mCross G1 x y) → (∀ q : Int, 1 ≤ q → q < r → 0 < G1 246 (40 + q) → mIn G1 (oM G 10 4) 0 (G1 247 (960 + 24 * q)) (G1 248 (960 + 24 * q))) → (5 - r) < (n_r : Int) → gW p l e R s m args below meth c (MQ below (gQi D A ad 265 (fun z ce' => ∃ F' G', ce' = mem ad t F' G' ∧ (fun z F' G' => mFault G z (F' 244 10) (F' 244 11) ∧ mFr G G' ∧ ∀ a b, ¬ (a = 244 ∧ (b = 10 ∨ b = 11 ∨ b = 12)) → F' a b = F a b) z F' G')) args s 0 0 A) D A 3 (gZ) 0 0 ad 265 (mem ad t (fU F 244 12 (oM G 10 4)) G1) 85 [(0, .ref (ad 244)), (1, .int (iI r))] [] := by
              intro n_r
              induction n_r with
              | zero =>
                intro r hr hnc ho hm_r
                exact absurd hm_r (by omega)
              | succ n_r ih_r =>
                intro r hr hnc ho hm_r
                refine g_iload_n ok d_Mo_findFault_85 rfl 1 rfl ?_
                refine g_iconst ok d_Mo_findFault_86 ?_
                refine g_icmp_ge ok 144 d_Mo_findFault_87 (by decide) (by omega) (by omega) (fun h6 => ?_) (fun h6 => ?_)
                · refine g_iconst ok d_Mo_findFault_144 ?_
                  refine g_istore_n (lv' := [(1, .int (iI 1)), (0, .ref (ad 244))]) ok d_Mo_findFault_145 rfl (by decide) rfl ?_
                  have L_r4 : ∀ (n_r4 : Nat) (r : Int), (1 ≤ r ∧ r ≤ 4) → (¬ mOut G1 (oM G 10 4)) → (∀ q u : Int, 1 ≤ q → q < r → 1 ≤ u → u < 4 → ¬ u = q → 0 < G1 246 (40 + q) → 0 < G1 246 (40 + u) → ¬ mIn G1 (oM G 10 4) u (G1 247 (960 + 24 * q)) (G1 248 (960 + 24 * q))) → (5 - r) < (n_r4 : Int) → gW p l e R s m args below meth c (MQ below (gQi D A ad 265 (fun z ce' => ∃ F' G', ce' = mem ad t F' G' ∧ (fun z F' G' => mFault G z (F' 244 10) (F' 244 11) ∧ mFr G G' ∧ ∀ a b, ¬ (a = 244 ∧ (b = 10 ∨ b = 11 ∨ b = 12)) → F' a b = F a b) z F' G')) args s 0 0 A) D A 3 (gZ) 0 0 ad 265 (mem ad t (fU F 244 12 (oM G 10 4)) G1) 146 [(0, .ref (ad 244)), (1, .int (iI r))] [] := by
                    intro n_r4
                    induction n_r4 with
                    | zero =>
                      intro r hr hno ho hm_r4
                      exact absurd hm_r4 (by omega)
                    | succ n_r4 ih_r4 =>
                      intro r hr hno ho hm_r4
                      refine g_iload_n ok d_Mo_findFault_146 rfl 1 rfl ?_
                      refine g_iconst ok d_Mo_findFault_147 ?_
                      refine g_icmp_ge ok 235 d_Mo_findFault_148 (by decide) (by omega) (by omega) (fun h7 => ?_) (fun h7 => ?_)
                      · refine g_iconst ok d_Mo_findFault_235 ?_
                        exact g_iret ok d_Mo_findFault_236 ⟨_, _, rfl, Or.inr (Or.inr ⟨hnf, hns, G1, hed, Or.inr ⟨hnc, by simp [fU]; exact hl10, by simp [fU]; exact hl11, Or.inr ⟨hno, Or.inr ⟨rfl, fun ⟨x, y, q1, q2, q3, q4, q5, q6⟩ => ho x y q1.1 (by omega) q2.1 q2.2 q3 q4 q5 q6⟩⟩⟩⟩), hed.1, fun a b q => by unfold fU; rw [if_neg (by omega)]⟩
                      · refine g_iconst ok d_Mo_findFault_151 ?_
                        refine g_istore_n (lv' := [(2, .int (iI 1)), (0, .ref (ad 244)), (1, .int (iI r))]) ok d_Mo_findFault_152 rfl (by decide) rfl ?_
                        have L_v : ∀ (n_v : Nat) (v : Int), (1 ≤ v ∧ v ≤ 4) → (∀ u : Int, 1 ≤ u → u < v → ¬ u = r → 0 < G1 246 (40 + r) → 0 < G1 246 (40 + u) → ¬ mIn G1 (oM G 10 4) u (G1 247 (960 + 24 * r)) (G1 248 (960 + 24 * r))) → (5 - v) < (n_v : Int) → gW p l e R s m args below meth c (MQ below (gQi D A ad 265 (fun z ce' => ∃ F' G', ce' = mem ad t F' G' ∧ (fun z F' G' => mFault G z (F' 244 10) (F' 244 11) ∧ mFr G G' ∧ ∀ a b, ¬ (a = 244 ∧ (b = 10 ∨ b = 11 ∨ b = 12)) → F' a b = F a b) z F' G')) args s 0 0 A) D A 3 (gZ) 0 0 ad 265 (mem ad t (fU F 244 12 (oM G 10 4)) G1) 153 [(0, .ref (ad 244)), (1, .int (iI r)), (2, .int (iI v))] [] := by
                          intro n_v
                          induction n_v with
                          | zero =>
                            intro v hv hp hm_v
                            exact absurd hm_v (by omega)
                          | succ n_v ih_v =>
                            intro v hv hp hm_v
                            refine g_iload_n ok d_Mo_findFault_153 rfl 2 rfl ?_
                            refine g_iconst ok d_Mo_findFault_154 ?_
                            refine g_icmp_ge ok 229 d_Mo_findFault_155 (by decide) (by omega) (by omega) (fun h8 => ?_) (fun h8 => ?_)
                            · refine g_iinc (lv' := [(1, .int (iI (r + 1))), (0, .ref (ad 244)), (2, .int (iI v))]) ok d_Mo_findFault_229 1 rfl (by decide) rfl ?_
                              refine g_goto ok 146 d_Mo_findFault_232 (by decide) ?_
                              refine g_lv [1, 0] rfl ?_
                              exact ih_r4 (r + 1) (by omega) (hno) (fun q u q1 q2 => (Int.lt_or_eq_of_le (show q ≤ r by omega)).elim (fun z => ho q u q1 z) (fun z => by subst z; exact fun q3 q4 q5 q6 q7 => hp u q3 (by omega) q5 q6 q7)) (by omega)
                            · have hnr := hO1 r (by omega) (by omega)
                              have hnv := hO1 v (by omega) (by omega)
                              refine g_iload_n ok d_Mo_findFault_158 rfl 2 rfl ?_
                              refine g_iload_n ok d_Mo_findFault_159 rfl 1 rfl ?_
                              refine g_icmp_eq ok 223 d_Mo_findFault_160 (by decide) (by omega) (by omega) (fun h9 => ?_) (fun h9 => ?_)
                              · refine g_iinc (lv' := [(2, .int (iI (v + 1))), (0, .ref (ad 244)), (1, .int (iI r))]) ok d_Mo_findFault_223 2 rfl (by decide) rfl ?_
                                refine g_goto ok 153 d_Mo_findFault_226 (by decide) ?_
                                refine g_lv [1, 2, 0] rfl ?_
                                exact ih_v (v + 1) (by omega) (fun u q1 q2 q3 q4 q5 => (Int.lt_or_eq_of_le (show u ≤ v by omega)).elim (fun z => hp u q1 z q3 q4 q5) (fun z => by subst z; first | exact absurd q3 (by omega) | exact absurd q4 (by omega) | exact absurd q5 (by omega))) (by omega)
                              · refine g_aload_n ok d_Mo_findFault_163 rfl 0 rfl ?_
                                refine gI_Mo_corners ok _ rfl k_993 d_Mo_findFault_164 ?_
                                refine g_bipush ok (by decide) d_Mo_findFault_167 ?_
                                refine g_iload_n ok d_Mo_findFault_169 rfl 1 rfl ?_
                                refine g_iadd ok d_Mo_findFault_170 ?_
                                refine h_iald ok _ a_246 (by omega) d_Mo_findFault_171 ?_
                                refine g_if_le ok 223 d_Mo_findFault_172 (by decide) (by omega) (fun h10 => ?_) (fun h10 => ?_)
                                · refine g_iinc (lv' := [(2, .int (iI (v + 1))), (0, .ref (ad 244)), (1, .int (iI r))]) ok d_Mo_findFault_223 2 rfl (by decide) rfl ?_
                                  refine g_goto ok 153 d_Mo_findFault_226 (by decide) ?_
                                  refine g_lv [1, 2, 0] rfl ?_
                                  exact ih_v (v + 1) (by omega) (fun u q1 q2 q3 q4 q5 => (Int.lt_or_eq_of_le (show u ≤ v by omega)).elim (fun z => hp u q1 z q3 q4 q5) (fun z => by subst z; first | exact absurd q3 (by omega) | exact absurd q4 (by omega) | exact absurd q5 (by omega))) (by omega)
                                · refine g_aload_n ok d_Mo_findFault_175 rfl 0 rfl ?_
                                  refine gI_Mo_corners ok _ rfl k_993 d_Mo_findFault_176 ?_
                                  refine g_bipush ok (by decide) d_Mo_findFault_179 ?_
                                  refine g_iload_n ok d_Mo_findFault_181 rfl 2 rfl ?_
                                  refine g_iadd ok d_Mo_findFault_182 ?_
                                  refine h_iald ok _ a_246 (by omega) d_Mo_findFault_183 ?_
                                  refine g_if_le ok 223 d_Mo_findFault_184 (by decide) (by omega) (fun h11 => ?_) (fun h11 => ?_)
                                  · refine g_iinc (lv' := [(2, .int (iI (v + 1))), (0, .ref (ad 244)), (1, .int (iI r))]) ok d_Mo_findFault_223 2 rfl (by decide) rfl ?_
                                    refine g_goto ok 153 d_Mo_findFault_226 (by decide) ?_
                                    refine g_lv [1, 2, 0] rfl ?_
                                    exact ih_v (v + 1) (by omega) (fun u q1 q2 q3 q4 q5 => (Int.lt_or_eq_of_le (show u ≤ v by omega)).elim (fun z => hp u q1 z q3 q4 q5) (fun z => by subst z; first | exact absurd q3 (by omega) | exact absurd q4 (by omega) | exact absurd q5 (by omega))) (by omega)
                                  · refine g_aload_n ok d_Mo_findFault_187 rfl 0 rfl ?_
                                    refine g_iload_n ok d_Mo_findFault_188 rfl 2 rfl ?_
                                    refine g_aload_n ok d_Mo_findFault_189 rfl 0 rfl ?_
                                    refine gI_Mo_cx ok _ rfl k_994 d_Mo_findFault_190 ?_
                                    refine g_sipush ok (by decide) d_Mo_findFault_193 ?_
                                    refine g_bipush ok (by decide) d_Mo_findFault_196 ?_
                                    refine g_iload_n ok d_Mo_findFault_198 rfl 1 rfl ?_
                                    refine g_imul ok d_Mo_findFault_199 ?_
                                    refine g_iadd ok d_Mo_findFault_200 ?_
                                    refine h_iald ok _ a_247 (by omega) d_Mo_findFault_201 ?_
                                    refine g_aload_n ok d_Mo_findFault_202 rfl 0 rfl ?_
                                    refine gI_Mo_cy ok _ rfl k_995 d_Mo_findFault_203 ?_
                                    refine g_sipush ok (by decide) d_Mo_findFault_206 ?_
                                    refine g_bipush ok (by decide) d_Mo_findFault_209 ?_
                                    refine g_iload_n ok d_Mo_findFault_211 rfl 1 rfl ?_
                                    refine g_imul ok d_Mo_findFault_212 ?_
                                    refine g_iadd ok d_Mo_findFault_213 ?_
                                    refine h_iald ok _ a_248 (by omega) d_Mo_findFault_214 ?_
                                    have pr := hP1 r 0 (by omega) (by omega) (by omega) (by omega)
                                    rw [Int.add_zero] at pr
                                    refine g_callPV (As := [.int (iI v), .int (iI (G1 247 (960 + (24 * r)))), .int (iI (G1 248 (960 + (24 * r))))]) (st := []) ok _ (c_Mo_inside (fU F 244 12 (oM G 10 4)) G1 _ _ _ (by rw [fU_hit]; exact hN) (by rw [fU_hit]; exact hEE) (by omega) pr.1 pr.2 s0 a0 D t ad) k_1168 k_11 k_1165 cl_Mo (m_Mo (ad := ad) (t := t) (F := (fU F 244 12 (oM G 10 4))) (G := G1) rfl).1 (m_Mo rfl).2 k_1167 s_Mo_inside q_Mo_inside (by decide) (Nat.le_of_ble_eq_true rfl) (by decide) d_Mo_findFault_215 (fun z12 hc12 => ?_)
                                    rw [fU_hit] at hc12
                                    have hzb12 := hc12.1
                                    refine g_if_eq ok 223 d_Mo_findFault_218 (by decide) (by omega) (fun h13 => ?_) (fun h13 => ?_)
                                    · refine g_iinc (lv' := [(2, .int (iI (v + 1))), (0, .ref (ad 244)), (1, .int (iI r))]) ok d_Mo_findFault_223 2 rfl (by decide) rfl ?_
                                      refine g_goto ok 153 d_Mo_findFault_226 (by decide) ?_
                                      refine g_lv [1, 2, 0] rfl ?_
                                      exact ih_v (v + 1) (by omega) (fun u q1 q2 q3 q4 q5 => (Int.lt_or_eq_of_le (show u ≤ v by omega)).elim (fun z => hp u q1 z q3 q4 q5) (fun z => by subst z; first | exact absurd q3 (by omega) | exact absurd q4 (by omega) | exact absurd q5 (by omega) | exact fun z => absurd (hc12.2.mpr z) (by omega))) (by omega)
                                    · refine g_iconst ok d_Mo_findFault_221 ?_
                                      exact g_iret ok d_Mo_findFault_222 ⟨_, _, rfl, Or.inr (Or.inr ⟨hnf, hns, G1, hed, Or.inr ⟨hnc, by simp [fU]; exact hl10, by simp [fU]; exact hl11, Or.inr ⟨hno, Or.inl ⟨rfl, r, v, by omega, by omega, by omega, by omega, by omega, hc12.2.mp (by omega)⟩⟩⟩⟩), hed.1, fun a b q => by unfold fU; rw [if_neg (by omega)]⟩
                        refine g_z ?_
                        refine g_lv [1, 2, 0] rfl ?_
                        exact L_v ((5 - 1 : Int).toNat + 1) 1 (by omega) (fun u q1 q2 => by omega) (by omega)
                  refine g_z ?_
                  refine g_lv [1, 0] rfl ?_
                  exact L_r4 ((5 - 1 : Int).toNat + 1) 1 (by omega) (fun ⟨q, h1, h2, h3⟩ => h3 (ho q h1.1 (by omega) h2)) (fun q u q1 q2 => by omega) (by omega)
                · have hnr := hO1 r (by omega) (by omega)
                  refine g_aload_n ok d_Mo_findFault_90 rfl 0 rfl ?_
                  refine gI_Mo_corners ok _ rfl k_993 d_Mo_findFault_91 ?_
                  refine g_bipush ok (by decide) d_Mo_findFault_94 ?_
                  refine g_iload_n ok d_Mo_findFault_96 rfl 1 rfl ?_
                  refine g_iadd ok d_Mo_findFault_97 ?_
                  refine h_iald ok _ a_246 (by omega) d_Mo_findFault_98 ?_
                  refine g_if_le ok 138 d_Mo_findFault_99 (by decide) (by omega) (fun h14 => ?_) (fun h14 => ?_)
                  · refine g_iinc (lv' := [(1, .int (iI (r + 1))), (0, .ref (ad 244))]) ok d_Mo_findFault_138 1 rfl (by decide) rfl ?_
                    refine g_goto ok 85 d_Mo_findFault_141 (by decide) ?_
                    refine g_lv [1, 0] rfl ?_
                    exact ih_r (r + 1) (by omega) (hnc) (fun q q1 q2 q3 => (Int.lt_or_eq_of_le (show q ≤ r by omega)).elim (fun z => ho q q1 z q3) (fun z => by subst z; first | exact absurd q3 (by omega) | exact hc12.2.mp (by omega))) (by omega)
                  · refine g_aload_n ok d_Mo_findFault_102 rfl 0 rfl ?_
                    refine g_iconst ok d_Mo_findFault_103 ?_
                    refine g_aload_n ok d_Mo_findFault_104 rfl 0 rfl ?_
                    refine gI_Mo_cx ok _ rfl k_994 d_Mo_findFault_105 ?_
                    refine g_sipush ok (by decide) d_Mo_findFault_108 ?_
                    refine g_bipush ok (by decide) d_Mo_findFault_111 ?_
                    refine g_iload_n ok d_Mo_findFault_113 rfl 1 rfl ?_
                    refine g_imul ok d_Mo_findFault_114 ?_
                    refine g_iadd ok d_Mo_findFault_115 ?_
                    refine h_iald ok _ a_247 (by omega) d_Mo_findFault_116 ?_
                    refine g_aload_n ok d_Mo_findFault_117 rfl 0 rfl ?_
                    refine gI_Mo_cy ok _ rfl k_995 d_Mo_findFault_118 ?_
                    refine g_sipush ok (by decide) d_Mo_findFault_121 ?_
                    refine g_bipush ok (by decide) d_Mo_findFault_124 ?_
                    refine g_iload_n ok d_Mo_findFault_126 rfl 1 rfl ?_
                    refine g_imul ok d_Mo_findFault_127 ?_
                    refine g_iadd ok d_Mo_findFault_128 ?_
                    refine h_iald ok _ a_248 (by omega) d_Mo_findFault_129 ?_
                    have pr := hP1 r 0 (by omega) (by omega) (by omega) (by omega)
                    rw [Int.add_zero] at pr
                    refine g_callPV (As := [.int (iI 0), .int (iI (G1 247 (960 + (24 * r)))), .int (iI (G1 248 (960 + (24 * r))))]) (st := []) ok _ (c_Mo_inside (fU F 244 12 (oM G 10 4)) G1 _ _ _ (by rw [fU_hit]; exact hN) (by rw [fU_hit]; exact hEE) (by omega) pr.1 pr.2 s0 a0 D t ad) k_1168 k_11 k_1165 cl_Mo (m_Mo (ad := ad) (t := t) (F := (fU F 244 12 (oM G 10 4))) (G := G1) rfl).1 (m_Mo rfl).2 k_1167 s_Mo_inside q_Mo_inside (by decide) (Nat.le_of_ble_eq_true rfl) (by decide) d_Mo_findFault_130 (fun z15 hc15 => ?_)
                    rw [fU_hit] at hc15
                    have hzb15 := hc15.1
                    refine g_if_ne ok 138 d_Mo_findFault_133 (by decide) (by omega) (fun h16 => ?_) (fun h16 => ?_)
                    · refine g_iinc (lv' := [(1, .int (iI (r + 1))), (0, .ref (ad 244))]) ok d_Mo_findFault_138 1 rfl (by decide) rfl ?_
                      refine g_goto ok 85 d_Mo_findFault_141 (by decide) ?_
                      refine g_lv [1, 0] rfl ?_
                      exact ih_r (r + 1) (by omega) (hnc) (fun q q1 q2 q3 => (Int.lt_or_eq_of_le (show q ≤ r by omega)).elim (fun z => ho q q1 z q3) (fun z => by subst z; first | exact absurd q3 (by omega) | exact hc15.2.mp (by omega))) (by omega)
                    · refine g_iconst ok d_Mo_findFault_136 ?_
                      exact g_iret ok d_Mo_findFault_137 ⟨_, _, rfl, Or.inr (Or.inr ⟨hnf, hns, G1, hed, Or.inr ⟨hnc, by simp [fU]; exact hl10, by simp [fU]; exact hl11, Or.inl ⟨rfl, r, by omega, by omega, fun z => absurd (hc15.2.mpr z) (by omega)⟩⟩⟩), hed.1, fun a b q => by unfold fU; rw [if_neg (by omega)]⟩
            refine g_z ?_
            refine g_lv [1, 0] rfl ?_
            exact L_r ((5 - 1 : Int).toNat + 1) 1 (by omega) (fun x y q1 q2 q3 => ho x y q1 (by omega) q2 q3) (fun q q1 q2 => by omega) (by omega)
          · refine g_iload_n ok d_Mo_findFault_38 rfl 1 rfl ?_
            refine g_iconst ok d_Mo_findFault_39 ?_
            refine g_iadd ok d_Mo_findFault_40 ?_
            refine g_istore_n (lv' := [(2, .int (iI (a1 + 1))), (0, .ref (ad 244)), (1, .int (iI a1))]) ok d_Mo_findFault_41 rfl (by decide) rfl ?_
            have L_b : ∀ (n_b : Nat) (b1 : Int), (a1 < b1 ∧ b1 ≤ oM G 10 4) → (∀ y : Int, a1 < y → y < b1 → ¬ mCross G1 a1 y) → (oM G 10 4 + 1 - b1) < (n_b : Int) → gW p l e R s m args below meth c (MQ below (gQi D A ad 265 (fun z ce' => ∃ F' G', ce' = mem ad t F' G' ∧ (fun z F' G' => mFault G z (F' 244 10) (F' 244 11) ∧ mFr G G' ∧ ∀ a b, ¬ (a = 244 ∧ (b = 10 ∨ b = 11 ∨ b = 12)) → F' a b = F a b) z F' G')) args s 0 0 A) D A 3 (gZ) 0 0 ad 265 (mem ad t (fU F 244 12 (oM G 10 4)) G1) 42 [(0, .ref (ad 244)), (1, .int (iI a1)), (2, .int (iI b1))] [] := by
              intro n_b
              induction n_b with
              | zero =>
                intro b1 hb hp hm_b
                exact absurd hm_b (by omega)
              | succ n_b ih_b =>
                intro b1 hb hp hm_b
                refine g_iload_n ok d_Mo_findFault_42 rfl 2 rfl ?_
                refine g_aload_n ok d_Mo_findFault_43 rfl 0 rfl ?_
                refine gI_Mo_edges ok _ rfl k_1001 d_Mo_findFault_44 ?_
                refine g_top (y := oM G 10 4) (by show (fU F 244 12 (oM G 10 4)) 244 12 = _; rw [fU_hit]) ?_
                refine g_icmp_ge ok 77 d_Mo_findFault_47 (by decide) (by omega) (by omega) (fun h17 => ?_) (fun h17 => ?_)
                · refine g_iinc (lv' := [(1, .int (iI (a1 + 1))), (0, .ref (ad 244)), (2, .int (iI b1))]) ok d_Mo_findFault_77 1 rfl (by decide) rfl ?_
                  refine g_goto ok 30 d_Mo_findFault_80 (by decide) ?_
                  refine g_lv [1, 0] rfl ?_
                  exact ih_a (a1 + 1) (by omega) (fun x y q1 q2 q3 q4 => (Int.lt_or_eq_of_le (show x ≤ a1 by omega)).elim (fun z => ho x y q1 z q3 q4) (fun z => by subst z; exact hp y q3 (by omega))) (by omega)
                · refine g_aload_n ok d_Mo_findFault_50 rfl 0 rfl ?_
                  refine g_iload_n ok d_Mo_findFault_51 rfl 1 rfl ?_
                  refine g_iload_n ok d_Mo_findFault_52 rfl 2 rfl ?_
                  refine g_callPV (As := [.int (iI a1), .int (iI b1)]) (st := []) ok _ (c_Mo_crossed (fU F 244 12 (oM G 10 4)) G1 _ _ _ hN hEE hpo (by omega) (by omega) s0 a0 D t ad) k_1146 k_11 k_1143 cl_Mo (m_Mo (ad := ad) (t := t) (F := (fU F 244 12 (oM G 10 4))) (G := G1) rfl).1 (m_Mo rfl).2 k_1145 s_Mo_crossed q_Mo_crossed (by decide) (Nat.le_of_ble_eq_true rfl) (by decide) d_Mo_findFault_53 (fun z18 hc18 => ?_)
                  have hzb18 := hc18.1
                  refine g_if_eq ok 71 d_Mo_findFault_56 (by decide) (by omega) (fun h19 => ?_) (fun h19 => ?_)
                  · refine g_iinc (lv' := [(2, .int (iI (b1 + 1))), (0, .ref (ad 244)), (1, .int (iI a1))]) ok d_Mo_findFault_71 2 rfl (by decide) rfl ?_
                    refine g_goto ok 42 d_Mo_findFault_74 (by decide) ?_
                    refine g_lv [1, 2, 0] rfl ?_
                    exact ih_b (b1 + 1) (by omega) (fun y q1 q2 => (Int.lt_or_eq_of_le (show y ≤ b1 by omega)).elim (fun z => hp y q1 z) (fun z => by subst z; exact fun z => absurd (hc18.2.mpr z) (by omega))) (by omega)
                  · refine g_aload_n ok d_Mo_findFault_59 rfl 0 rfl ?_
                    refine g_iload_n ok d_Mo_findFault_60 rfl 1 rfl ?_
                    refine pI_Mo_faultOne ok _ rfl k_999 d_Mo_findFault_61 ?_
                    refine g_aload_n ok d_Mo_findFault_64 rfl 0 rfl ?_
                    refine g_iload_n ok d_Mo_findFault_65 rfl 2 rfl ?_
                    refine pI_Mo_faultOther ok _ rfl k_1000 d_Mo_findFault_66 ?_
                    refine g_iconst ok d_Mo_findFault_69 ?_
                    exact g_iret ok d_Mo_findFault_70 ⟨_, _, rfl, Or.inr (Or.inr ⟨hnf, hns, G1, hed, Or.inl ⟨rfl, by simp only [fU]; simp; omega, by simp only [fU]; simp; exact hc18.2.mp (by omega), by simp only [fU]; simp; exact fun x y q1 q2 q3 q4 => q4.elim (fun z => ho x y q1 z q2 q3) (fun z => by have := z.1; subst this; exact hp y q2 z.2)⟩⟩), hed.1, fun a b q => by rw [show fU (fU (fU F 244 12 (oM G 10 4)) 244 10 a1) 244 11 b1 a b = F a b from by unfold fU; rw [if_neg (by omega), if_neg (by omega), if_neg (by omega)]]⟩
            refine g_z ?_
            refine g_lv [1, 2, 0] rfl ?_
            exact L_b ((oM G 10 4 + 1 - (a1 + 1) : Int).toNat + 1) (a1 + 1) (by omega) (fun y q1 q2 => by omega) (by omega)
      refine g_z ?_
      refine g_lv [1, 0] rfl ?_
      exact L_a ((oM G 10 4 + 1 - 0 : Int).toNat + 1) 0 (by omega) (fun x y q1 q2 => by omega) (by omega)
    · refine g_iconst ok d_Mo_findFault_20 ?_
      exact g_iret ok d_Mo_findFault_21 ⟨_, _, rfl, Or.inr (Or.inl ⟨fun q => absurd (hc1.2.mpr q) (by omega), by omega, rfl, hl10, hl11⟩), fun _ _ => rfl, fun _ _ _ => rfl⟩
  · refine g_iconst ok d_Mo_findFault_7 ?_
    exact g_iret ok d_Mo_findFault_8 ⟨_, _, rfl, Or.inl ⟨rfl, hc1.2.mp (by omega), hl10, hl11⟩, fun _ _ => rfl, fun _ _ _ => rfl⟩
