/-- edges of ring r that are passed -/
def mC (G : Nat → Int → Int) (r x y e : Int) : Prop := G 255 e = r ∧ mCr G x y e
def mIn (G : Nat → Int → Int) (n r x y : Int) : Prop := (∀ e : Int, 0 ≤ e → e < n → G 255 e = r → ¬ mOn G x y e) ∧ oddN (mC G r x y) n.toNat
def mHas (G : Nat → Int → Int) (n x y : Int) : Prop := (∃ e : Int, 0 ≤ e ∧ e < n ∧ mOn G x y e) ∨ ((∀ e : Int, 0 ≤ e → e < n → ¬ mOn G x y e) ∧ oddN (fun r => oddN (mC G r x y) n.toNat) 4)
theorem d_Mo_inside_0 : decode b_Mo_inside 0 = .ok (.iconst 0, 1) := by decide +kernel
theorem d_Mo_inside_1 : decode b_Mo_inside 1 = .ok (.istore 4, 2) := by decide +kernel
theorem d_Mo_inside_3 : decode b_Mo_inside 3 = .ok (.iconst 0, 1) := by decide +kernel
theorem d_Mo_inside_4 : decode b_Mo_inside 4 = .ok (.istore 5, 2) := by decide +kernel
theorem d_Mo_inside_6 : decode b_Mo_inside 6 = .ok (.iload 5, 2) := by decide +kernel
theorem d_Mo_inside_8 : decode b_Mo_inside 8 = .ok (.aload_n 0, 1) := by decide +kernel
theorem d_Mo_inside_9 : decode b_Mo_inside 9 = .ok (.getfield 48, 3) := by decide +kernel
theorem d_Mo_inside_12 : decode b_Mo_inside 12 = .ok (.if_icmp .ge 56, 3) := by decide +kernel
theorem d_Mo_inside_15 : decode b_Mo_inside 15 = .ok (.aload_n 0, 1) := by decide +kernel
theorem d_Mo_inside_16 : decode b_Mo_inside 16 = .ok (.getfield 63, 3) := by decide +kernel
theorem d_Mo_inside_19 : decode b_Mo_inside 19 = .ok (.iload 5, 2) := by decide +kernel
theorem d_Mo_inside_21 : decode b_Mo_inside 21 = .ok (.iaload, 1) := by decide +kernel
theorem d_Mo_inside_22 : decode b_Mo_inside 22 = .ok (.iload_n 1, 1) := by decide +kernel
theorem d_Mo_inside_23 : decode b_Mo_inside 23 = .ok (.if_icmp .ne 39, 3) := by decide +kernel
theorem d_Mo_inside_26 : decode b_Mo_inside 26 = .ok (.aload_n 0, 1) := by decide +kernel
theorem d_Mo_inside_27 : decode b_Mo_inside 27 = .ok (.iload 5, 2) := by decide +kernel
theorem d_Mo_inside_29 : decode b_Mo_inside 29 = .ok (.iload_n 2, 1) := by decide +kernel
theorem d_Mo_inside_30 : decode b_Mo_inside 30 = .ok (.iload_n 3, 1) := by decide +kernel
theorem d_Mo_inside_31 : decode b_Mo_inside 31 = .ok (.invokevirtual 131, 3) := by decide +kernel
theorem d_Mo_inside_34 : decode b_Mo_inside 34 = .ok (.ifCond .eq 5, 3) := by decide +kernel
theorem d_Mo_inside_37 : decode b_Mo_inside 37 = .ok (.iconst 0, 1) := by decide +kernel
theorem d_Mo_inside_38 : decode b_Mo_inside 38 = .ok (.ireturn, 1) := by decide +kernel
theorem d_Mo_inside_39 : decode b_Mo_inside 39 = .ok (.aload_n 0, 1) := by decide +kernel
theorem d_Mo_inside_40 : decode b_Mo_inside 40 = .ok (.iload 5, 2) := by decide +kernel
theorem d_Mo_inside_42 : decode b_Mo_inside 42 = .ok (.iload_n 2, 1) := by decide +kernel
theorem d_Mo_inside_43 : decode b_Mo_inside 43 = .ok (.iload_n 3, 1) := by decide +kernel
theorem d_Mo_inside_44 : decode b_Mo_inside 44 = .ok (.invokevirtual 135, 3) := by decide +kernel
theorem d_Mo_inside_47 : decode b_Mo_inside 47 = .ok (.ifCond .eq 15, 3) := by decide +kernel
theorem d_Mo_inside_50 : decode b_Mo_inside 50 = .ok (.iload 4, 2) := by decide +kernel
theorem d_Mo_inside_52 : decode b_Mo_inside 52 = .ok (.ifCond .ne 7, 3) := by decide +kernel
theorem d_Mo_inside_55 : decode b_Mo_inside 55 = .ok (.iconst 1, 1) := by decide +kernel
theorem d_Mo_inside_56 : decode b_Mo_inside 56 = .ok (.goto 4, 3) := by decide +kernel
theorem d_Mo_inside_59 : decode b_Mo_inside 59 = .ok (.iconst 0, 1) := by decide +kernel
theorem d_Mo_inside_60 : decode b_Mo_inside 60 = .ok (.istore 4, 2) := by decide +kernel
theorem d_Mo_inside_62 : decode b_Mo_inside 62 = .ok (.iinc 5 1, 3) := by decide +kernel
theorem d_Mo_inside_65 : decode b_Mo_inside 65 = .ok (.goto (-59), 3) := by decide +kernel
theorem d_Mo_inside_68 : decode b_Mo_inside 68 = .ok (.iload 4, 2) := by decide +kernel
theorem d_Mo_inside_70 : decode b_Mo_inside 70 = .ok (.ireturn, 1) := by decide +kernel
set_option maxHeartbeats 1000000 in
set_option maxRecDepth 100000 in
theorem c_Mo_inside (F : Nat → Nat → Int) (G : Nat → Int → Int) (r x y : Int) (hn : 0 ≤ F 244 12 ∧ F 244 12 ≤ 100) (hE : mE G (F 244 12)) (hr : 0 ≤ r ∧ r ≤ 3) (hx : 0 ≤ x ∧ x ≤ 600) (hy : 0 ≤ y ∧ y ≤ 600) : cP y_Mo_inside b_Mo_inside 6 (some .boolean) 2 48 F G (fun ad => [.ref (ad 244), .int (iI r), .int (iI x), .int (iI y)]) (fun z => (z = 0 ∨ z = 1) ∧ (z = 1 ↔ mIn G (F 244 12) r x y)) := by
  intro s0 a0 D t ad
  refine g_startP (by decide +kernel) (Nat.le_of_ble_eq_true rfl) (fun p l e R s m args below meth c A ok => ?_)
  show gW p l e R s m args below meth c _ D A 6 (gZ0 s) 0 0 ad 265 (mem ad t F G) 0 [(0, .ref (ad 244)), (1, .int (iI r)), (2, .int (iI x)), (3, .int (iI y))] []
  refine g_iconst ok d_Mo_inside_0 ?_
  refine g_istore (lv' := [(4, .int (iI 0)), (0, .ref (ad 244)), (1, .int (iI r)), (2, .int (iI x)), (3, .int (iI y))]) ok d_Mo_inside_1 (by decide) rfl ?_
  refine g_iconst ok d_Mo_inside_3 ?_
  refine g_istore (lv' := [(5, .int (iI 0)), (4, .int (iI 0)), (0, .ref (ad 244)), (1, .int (iI r)), (2, .int (iI x)), (3, .int (iI y))]) ok d_Mo_inside_4 (by decide) rfl ?_
  have L_i : ∀ (n_i : Nat) (d : Int) (i : Int), (0 ≤ i ∧ i ≤ F 244 12) → ((d = 0 ∨ d = 1) ∧ (d = 1 ↔ oddN (mC G r x y) i.toNat)) → (∀ a : Int, 0 ≤ a → a < i → G 255 a = r → ¬ mOn G x y a) → (F 244 12 + 1 - i) < (n_i : Int) → gW p l e R s m args below meth c (MQ below (gQp (fun z => (z = 0 ∨ z = 1) ∧ (z = 1 ↔ mIn G (F 244 12) r x y))) args s 0 0 (fun _ => False)) D A 6 (gZ0 s) 0 0 ad 265 (mem ad t F G) 6 [(0, .ref (ad 244)), (1, .int (iI r)), (2, .int (iI x)), (3, .int (iI y)), (4, .int (iI d)), (5, .int (iI i))] [] := by
    intro n_i
    induction n_i with
    | zero =>
      intro d i hi hdd ho hm_i
      exact absurd hm_i (by omega)
    | succ n_i ih_i =>
      intro d i hi hdd ho hm_i
      refine g_iload ok d_Mo_inside_6 5 rfl ?_
      refine g_aload_n ok d_Mo_inside_8 rfl 0 rfl ?_
      refine gI_Mo_edges ok _ rfl k_1001 d_Mo_inside_9 ?_
      refine g_icmp_ge ok 68 d_Mo_inside_12 (by decide) (by omega) (by omega) (fun h1 => ?_) (fun h1 => ?_)
      · refine g_iload ok d_Mo_inside_68 4 rfl ?_
        exact g_zpret ok d_Mo_inside_70 hdd.1 ⟨hdd.1, ⟨fun q => ⟨fun a q1 q2 => ho a q1 (by omega), by rw [show (F 244 12).toNat = i.toNat by omega]; exact hdd.2.mp q⟩, fun q => hdd.2.mpr (by have := q.2; rw [show (F 244 12).toNat = i.toNat by omega] at this; exact this)⟩⟩
      · have hEi := hE i (by omega) (by omega)
        refine g_aload_n ok d_Mo_inside_15 rfl 0 rfl ?_
        refine gI_Mo_ring ok _ rfl k_1006 d_Mo_inside_16 ?_
        refine g_iload ok d_Mo_inside_19 5 rfl ?_
        refine h_iald ok _ a_255 (by omega) d_Mo_inside_21 ?_
        refine g_iload_n ok d_Mo_inside_22 rfl 1 rfl ?_
        refine g_icmp_ne ok 62 d_Mo_inside_23 (by decide) (by omega) (by omega) (fun h2 => ?_) (fun h2 => ?_)
        · refine g_iinc (lv' := [(5, .int (iI (i + 1))), (0, .ref (ad 244)), (1, .int (iI r)), (2, .int (iI x)), (3, .int (iI y)), (4, .int (iI d))]) ok d_Mo_inside_62 5 rfl (by decide) rfl ?_
          refine g_goto ok 6 d_Mo_inside_65 (by decide) ?_
          refine g_lv [1, 2, 3, 4, 5, 0] rfl ?_
          exact ih_i d (i + 1) (by omega) (by rw [oddN_step hi.1]; exact odd_no hdd (fun q => absurd q.1 (by omega))) (fun a q1 q2 q3 => (Int.lt_or_eq_of_le (show a ≤ i by omega)).elim (fun z => ho a q1 z q3) (fun z => by subst z; exact absurd q3 (by omega))) (by omega)
        · refine g_aload_n ok d_Mo_inside_26 rfl 0 rfl ?_
          refine g_iload ok d_Mo_inside_27 5 rfl ?_
          refine g_iload_n ok d_Mo_inside_29 rfl 2 rfl ?_
          refine g_iload_n ok d_Mo_inside_30 rfl 3 rfl ?_
          refine g_callPV (As := [.int (iI i), .int (iI x), .int (iI y)]) (st := []) ok _ (c_Mo_onEdge F G _ (by omega) hE _ _ _ (by omega) hx hy s0 a0 D t ad) k_1154 k_11 k_1151 cl_Mo (m_Mo (ad := ad) (t := t) (F := F) (G := G) rfl).1 (m_Mo rfl).2 k_1153 s_Mo_onEdge q_Mo_onEdge (by decide) (Nat.le_of_ble_eq_true rfl) (by decide) d_Mo_inside_31 (fun z3 hc3 => ?_)
          have hzb3 := hc3.1
          refine g_if_eq ok 39 d_Mo_inside_34 (by decide) (by omega) (fun h4 => ?_) (fun h4 => ?_)
          · refine g_aload_n ok d_Mo_inside_39 rfl 0 rfl ?_
            refine g_iload ok d_Mo_inside_40 5 rfl ?_
            refine g_iload_n ok d_Mo_inside_42 rfl 2 rfl ?_
            refine g_iload_n ok d_Mo_inside_43 rfl 3 rfl ?_
            refine g_callPV (As := [.int (iI i), .int (iI x), .int (iI y)]) (st := []) ok _ (c_Mo_passes F G _ (by omega) hE _ _ _ (by omega) hx hy s0 a0 D t ad) k_1172 k_11 k_1169 cl_Mo (m_Mo (ad := ad) (t := t) (F := F) (G := G) rfl).1 (m_Mo rfl).2 k_1171 s_Mo_passes q_Mo_passes (by decide) (Nat.le_of_ble_eq_true rfl) (by decide) d_Mo_inside_44 (fun z5 hc5 => ?_)
            have hzb5 := hc5.1
            refine g_if_eq ok 62 d_Mo_inside_47 (by decide) (by omega) (fun h6 => ?_) (fun h6 => ?_)
            · refine g_iinc (lv' := [(5, .int (iI (i + 1))), (0, .ref (ad 244)), (1, .int (iI r)), (2, .int (iI x)), (3, .int (iI y)), (4, .int (iI d))]) ok d_Mo_inside_62 5 rfl (by decide) rfl ?_
              refine g_goto ok 6 d_Mo_inside_65 (by decide) ?_
              refine g_lv [1, 2, 3, 4, 5, 0] rfl ?_
              exact ih_i d (i + 1) (by omega) (by rw [oddN_step hi.1]; exact odd_no hdd (fun q => absurd (hc5.2.mpr q.2) (by omega))) (fun a q1 q2 q3 => (Int.lt_or_eq_of_le (show a ≤ i by omega)).elim (fun z => ho a q1 z q3) (fun z => by subst z; exact fun q => absurd (hc3.2.mpr q) (by omega))) (by omega)
            · refine g_iload ok d_Mo_inside_50 4 rfl ?_
              refine g_if_ne ok 59 d_Mo_inside_52 (by decide) (by omega) (fun h7 => ?_) (fun h7 => ?_)
              · refine g_iconst ok d_Mo_inside_59 ?_
                refine g_istore (lv' := [(4, .int (iI 0)), (0, .ref (ad 244)), (1, .int (iI r)), (2, .int (iI x)), (3, .int (iI y)), (5, .int (iI i))]) ok d_Mo_inside_60 (by decide) rfl ?_
                refine g_iinc (lv' := [(5, .int (iI (i + 1))), (4, .int (iI 0)), (0, .ref (ad 244)), (1, .int (iI r)), (2, .int (iI x)), (3, .int (iI y))]) ok d_Mo_inside_62 5 rfl (by decide) rfl ?_
                refine g_goto ok 6 d_Mo_inside_65 (by decide) ?_
                refine g_lv [2, 3, 4, 5, 1, 0] rfl ?_
                exact ih_i 0 (i + 1) (by omega) (by rw [oddN_step hi.1]; exact odd_y0 hdd ⟨by omega, hc5.2.mp (by omega)⟩ (by omega)) (fun a q1 q2 q3 => (Int.lt_or_eq_of_le (show a ≤ i by omega)).elim (fun z => ho a q1 z q3) (fun z => by subst z; exact fun q => absurd (hc3.2.mpr q) (by omega))) (by omega)
              · refine g_iconst ok d_Mo_inside_55 ?_
                refine g_goto ok 60 d_Mo_inside_56 (by decide) ?_
                refine g_istore (lv' := [(4, .int (iI 1)), (0, .ref (ad 244)), (1, .int (iI r)), (2, .int (iI x)), (3, .int (iI y)), (5, .int (iI i))]) ok d_Mo_inside_60 (by decide) rfl ?_
                refine g_iinc (lv' := [(5, .int (iI (i + 1))), (4, .int (iI 1)), (0, .ref (ad 244)), (1, .int (iI r)), (2, .int (iI x)), (3, .int (iI y))]) ok d_Mo_inside_62 5 rfl (by decide) rfl ?_
                refine g_goto ok 6 d_Mo_inside_65 (by decide) ?_
                refine g_lv [2, 3, 4, 5, 1, 0] rfl ?_
                exact ih_i 1 (i + 1) (by omega) (by rw [oddN_step hi.1]; exact odd_y1 hdd ⟨by omega, hc5.2.mp (by omega)⟩ (by omega)) (fun a q1 q2 q3 => (Int.lt_or_eq_of_le (show a ≤ i by omega)).elim (fun z => ho a q1 z q3) (fun z => by subst z; exact fun q => absurd (hc3.2.mpr q) (by omega))) (by omega)
          · refine g_iconst ok d_Mo_inside_37 ?_
            exact g_zpret ok d_Mo_inside_38 (Or.inl rfl) ⟨Or.inl rfl, ⟨fun q => by omega, fun q => absurd (hc3.2.mp (by omega)) (q.1 i (by omega) (by omega) (by omega))⟩⟩
  refine g_lv [2, 3, 4, 5, 1, 0] rfl ?_
  exact L_i ((F 244 12 + 1 - 0 : Int).toNat + 1) 0 0 (by omega) (⟨Or.inl rfl, ⟨fun q => by omega, fun q => q.elim⟩⟩) (fun a q1 q2 => by omega) (by omega)
def odI (G : Nat → Int → Int) (x y : Int) (G1 : Nat → Int → Int) (i : Int) : Prop := ∀ r : Int, 0 ≤ r → r < 4 → (G1 257 r = 0 ∨ G1 257 r = 1) ∧ (G1 257 r = 1 ↔ oddN (mC G r x y) i.toNat)
theorem odI_no {G G1 : Nat → Int → Int} {x y i : Int} (hi : 0 ≤ i) (h : odI G x y G1 i) (hp : ¬ mCr G x y i) : odI G x y G1 (i + 1) := fun r h1 h2 => by
  rw [oddN_step hi]
  exact odd_no (h r h1 h2) (fun q => hp q.2)
theorem odI_flip {G G1 : Nat → Int → Int} {x y i v : Int} (hi : 0 ≤ i) (h : odI G x y G1 i) (hp : mCr G x y i) (hr : 0 ≤ G 255 i ∧ G 255 i < 4) (hv : (v = 1 ∧ G1 257 (G 255 i) = 0) ∨ (v = 0 ∧ ¬ G1 257 (G 255 i) = 0)) : odI G x y (gU G1 257 (G 255 i) v) (i + 1) := fun r h1 h2 => by
  rw [oddN_step hi]
  by_cases e : r = G 255 i
  · subst e
    rw [gU_hit]
    rcases hv with ⟨rfl, q⟩ | ⟨rfl, q⟩
    · exact odd_y1 (h _ h1 h2) ⟨rfl, hp⟩ (by omega)
    · exact odd_y0 (h _ h1 h2) ⟨rfl, hp⟩ (by omega)
  · rw [gU_i e]
    exact odd_no (h r h1 h2) (fun q => e q.1.symm)
theorem xor4 {P : Int → Prop} {a b c d : Int} (ha : (a = 0 ∨ a = 1) ∧ (a = 1 ↔ P 0)) (hb : (b = 0 ∨ b = 1) ∧ (b = 1 ↔ P 1)) (hc : (c = 0 ∨ c = 1) ∧ (c = 1 ↔ P 2)) (hd : (d = 0 ∨ d = 1) ∧ (d = 1 ↔ P 3)) : oddN P 4 ↔ (a + b + c + d) % 2 = 1 := by
  have e : oddN P 4 ↔ ((((False ∧ ¬ P 0 ∨ ¬ False ∧ P 0) ∧ ¬ P 1 ∨ ¬ (False ∧ ¬ P 0 ∨ ¬ False ∧ P 0) ∧ P 1) ∧ ¬ P 2 ∨ ¬ ((False ∧ ¬ P 0 ∨ ¬ False ∧ P 0) ∧ ¬ P 1 ∨ ¬ (False ∧ ¬ P 0 ∨ ¬ False ∧ P 0) ∧ P 1) ∧ P 2) ∧ ¬ P 3 ∨ ¬ (((False ∧ ¬ P 0 ∨ ¬ False ∧ P 0) ∧ ¬ P 1 ∨ ¬ (False ∧ ¬ P 0 ∨ ¬ False ∧ P 0) ∧ P 1) ∧ ¬ P 2 ∨ ¬ ((False ∧ ¬ P 0 ∨ ¬ False ∧ P 0) ∧ ¬ P 1 ∨ ¬ (False ∧ ¬ P 0 ∨ ¬ False ∧ P 0) ∧ P 1) ∧ P 2) ∧ P 3) := Iff.rfl
  rw [e, ← ha.2, ← hb.2, ← hc.2, ← hd.2]
  obtain ⟨ha, -⟩ := ha
  obtain ⟨hb, -⟩ := hb
  obtain ⟨hc, -⟩ := hc
  obtain ⟨hd, -⟩ := hd
  rcases ha with rfl | rfl <;> rcases hb with rfl | rfl <;> rcases hc with rfl | rfl <;> rcases hd with rfl | rfl <;> decide
theorem od_end {G G1 : Nat → Int → Int} {x y i n : Int} (h : odI G x y G1 i) (hn : i = n) : oddN (fun r => oddN (mC G r x y) n.toNat) 4 ↔ (G1 257 0 + G1 257 1 + G1 257 2 + G1 257 3) % 2 = 1 := by
  subst hn
  exact xor4 (P := fun r => oddN (mC G r x y) i.toNat) (h 0 (by decide) (by decide)) (h 1 (by decide) (by decide)) (h 2 (by decide) (by decide)) (h 3 (by decide) (by decide))
theorem d_Mo_in_0 : decode b_Mo_in 0 = .ok (.iconst 0, 1) := by decide +kernel
theorem d_Mo_in_1 : decode b_Mo_in 1 = .ok (.istore_n 3, 1) := by decide +kernel
theorem d_Mo_in_2 : decode b_Mo_in 2 = .ok (.iload_n 3, 1) := by decide +kernel
theorem d_Mo_in_3 : decode b_Mo_in 3 = .ok (.iconst 4, 1) := by decide +kernel
theorem d_Mo_in_4 : decode b_Mo_in 4 = .ok (.if_icmp .ge 16, 3) := by decide +kernel
theorem d_Mo_in_7 : decode b_Mo_in 7 = .ok (.aload_n 0, 1) := by decide +kernel
theorem d_Mo_in_8 : decode b_Mo_in 8 = .ok (.getfield 69, 3) := by decide +kernel
theorem d_Mo_in_11 : decode b_Mo_in 11 = .ok (.iload_n 3, 1) := by decide +kernel
theorem d_Mo_in_12 : decode b_Mo_in 12 = .ok (.iconst 0, 1) := by decide +kernel
theorem d_Mo_in_13 : decode b_Mo_in 13 = .ok (.bastore, 1) := by decide +kernel
theorem d_Mo_in_14 : decode b_Mo_in 14 = .ok (.iinc 3 1, 3) := by decide +kernel
theorem d_Mo_in_17 : decode b_Mo_in 17 = .ok (.goto (-15), 3) := by decide +kernel
theorem d_Mo_in_20 : decode b_Mo_in 20 = .ok (.iconst 0, 1) := by decide +kernel
theorem d_Mo_in_21 : decode b_Mo_in 21 = .ok (.istore_n 3, 1) := by decide +kernel
theorem d_Mo_in_22 : decode b_Mo_in 22 = .ok (.iload_n 3, 1) := by decide +kernel
theorem d_Mo_in_23 : decode b_Mo_in 23 = .ok (.aload_n 0, 1) := by decide +kernel
theorem d_Mo_in_24 : decode b_Mo_in 24 = .ok (.getfield 48, 3) := by decide +kernel
theorem d_Mo_in_27 : decode b_Mo_in 27 = .ok (.if_icmp .ge 61, 3) := by decide +kernel
theorem d_Mo_in_30 : decode b_Mo_in 30 = .ok (.aload_n 0, 1) := by decide +kernel
theorem d_Mo_in_31 : decode b_Mo_in 31 = .ok (.iload_n 3, 1) := by decide +kernel
theorem d_Mo_in_32 : decode b_Mo_in 32 = .ok (.iload_n 1, 1) := by decide +kernel
theorem d_Mo_in_33 : decode b_Mo_in 33 = .ok (.iload_n 2, 1) := by decide +kernel
theorem d_Mo_in_34 : decode b_Mo_in 34 = .ok (.invokevirtual 131, 3) := by decide +kernel
theorem d_Mo_in_37 : decode b_Mo_in 37 = .ok (.ifCond .eq 5, 3) := by decide +kernel
theorem d_Mo_in_40 : decode b_Mo_in 40 = .ok (.iconst 1, 1) := by decide +kernel
theorem d_Mo_in_41 : decode b_Mo_in 41 = .ok (.ireturn, 1) := by decide +kernel
theorem d_Mo_in_42 : decode b_Mo_in 42 = .ok (.aload_n 0, 1) := by decide +kernel
theorem d_Mo_in_43 : decode b_Mo_in 43 = .ok (.iload_n 3, 1) := by decide +kernel
theorem d_Mo_in_44 : decode b_Mo_in 44 = .ok (.iload_n 1, 1) := by decide +kernel
theorem d_Mo_in_45 : decode b_Mo_in 45 = .ok (.iload_n 2, 1) := by decide +kernel
theorem d_Mo_in_46 : decode b_Mo_in 46 = .ok (.invokevirtual 135, 3) := by decide +kernel
theorem d_Mo_in_49 : decode b_Mo_in 49 = .ok (.ifCond .eq 33, 3) := by decide +kernel
theorem d_Mo_in_52 : decode b_Mo_in 52 = .ok (.aload_n 0, 1) := by decide +kernel
theorem d_Mo_in_53 : decode b_Mo_in 53 = .ok (.getfield 69, 3) := by decide +kernel
theorem d_Mo_in_56 : decode b_Mo_in 56 = .ok (.aload_n 0, 1) := by decide +kernel
theorem d_Mo_in_57 : decode b_Mo_in 57 = .ok (.getfield 63, 3) := by decide +kernel
theorem d_Mo_in_60 : decode b_Mo_in 60 = .ok (.iload_n 3, 1) := by decide +kernel
theorem d_Mo_in_61 : decode b_Mo_in 61 = .ok (.iaload, 1) := by decide +kernel
theorem d_Mo_in_62 : decode b_Mo_in 62 = .ok (.aload_n 0, 1) := by decide +kernel
theorem d_Mo_in_63 : decode b_Mo_in 63 = .ok (.getfield 69, 3) := by decide +kernel
theorem d_Mo_in_66 : decode b_Mo_in 66 = .ok (.aload_n 0, 1) := by decide +kernel
theorem d_Mo_in_67 : decode b_Mo_in 67 = .ok (.getfield 63, 3) := by decide +kernel
theorem d_Mo_in_70 : decode b_Mo_in 70 = .ok (.iload_n 3, 1) := by decide +kernel
theorem d_Mo_in_71 : decode b_Mo_in 71 = .ok (.iaload, 1) := by decide +kernel
theorem d_Mo_in_72 : decode b_Mo_in 72 = .ok (.baload, 1) := by decide +kernel
theorem d_Mo_in_73 : decode b_Mo_in 73 = .ok (.ifCond .ne 7, 3) := by decide +kernel
theorem d_Mo_in_76 : decode b_Mo_in 76 = .ok (.iconst 1, 1) := by decide +kernel
theorem d_Mo_in_77 : decode b_Mo_in 77 = .ok (.goto 4, 3) := by decide +kernel
theorem d_Mo_in_80 : decode b_Mo_in 80 = .ok (.iconst 0, 1) := by decide +kernel
theorem d_Mo_in_81 : decode b_Mo_in 81 = .ok (.bastore, 1) := by decide +kernel
theorem d_Mo_in_82 : decode b_Mo_in 82 = .ok (.iinc 3 1, 3) := by decide +kernel
theorem d_Mo_in_85 : decode b_Mo_in 85 = .ok (.goto (-63), 3) := by decide +kernel
theorem d_Mo_in_88 : decode b_Mo_in 88 = .ok (.aload_n 0, 1) := by decide +kernel
theorem d_Mo_in_89 : decode b_Mo_in 89 = .ok (.getfield 69, 3) := by decide +kernel
theorem d_Mo_in_92 : decode b_Mo_in 92 = .ok (.iconst 0, 1) := by decide +kernel
theorem d_Mo_in_93 : decode b_Mo_in 93 = .ok (.baload, 1) := by decide +kernel
theorem d_Mo_in_94 : decode b_Mo_in 94 = .ok (.aload_n 0, 1) := by decide +kernel
theorem d_Mo_in_95 : decode b_Mo_in 95 = .ok (.getfield 69, 3) := by decide +kernel
theorem d_Mo_in_98 : decode b_Mo_in 98 = .ok (.iconst 1, 1) := by decide +kernel
theorem d_Mo_in_99 : decode b_Mo_in 99 = .ok (.baload, 1) := by decide +kernel
theorem d_Mo_in_100 : decode b_Mo_in 100 = .ok (.if_icmp .eq 7, 3) := by decide +kernel
theorem d_Mo_in_103 : decode b_Mo_in 103 = .ok (.iconst 1, 1) := by decide +kernel
theorem d_Mo_in_104 : decode b_Mo_in 104 = .ok (.goto 4, 3) := by decide +kernel
theorem d_Mo_in_107 : decode b_Mo_in 107 = .ok (.iconst 0, 1) := by decide +kernel
theorem d_Mo_in_108 : decode b_Mo_in 108 = .ok (.aload_n 0, 1) := by decide +kernel
theorem d_Mo_in_109 : decode b_Mo_in 109 = .ok (.getfield 69, 3) := by decide +kernel
theorem d_Mo_in_112 : decode b_Mo_in 112 = .ok (.iconst 2, 1) := by decide +kernel
theorem d_Mo_in_113 : decode b_Mo_in 113 = .ok (.baload, 1) := by decide +kernel
theorem d_Mo_in_114 : decode b_Mo_in 114 = .ok (.aload_n 0, 1) := by decide +kernel
theorem d_Mo_in_115 : decode b_Mo_in 115 = .ok (.getfield 69, 3) := by decide +kernel
theorem d_Mo_in_118 : decode b_Mo_in 118 = .ok (.iconst 3, 1) := by decide +kernel
theorem d_Mo_in_119 : decode b_Mo_in 119 = .ok (.baload, 1) := by decide +kernel
theorem d_Mo_in_120 : decode b_Mo_in 120 = .ok (.if_icmp .eq 7, 3) := by decide +kernel
theorem d_Mo_in_123 : decode b_Mo_in 123 = .ok (.iconst 1, 1) := by decide +kernel
theorem d_Mo_in_124 : decode b_Mo_in 124 = .ok (.goto 4, 3) := by decide +kernel
theorem d_Mo_in_127 : decode b_Mo_in 127 = .ok (.iconst 0, 1) := by decide +kernel
theorem d_Mo_in_128 : decode b_Mo_in 128 = .ok (.if_icmp .eq 7, 3) := by decide +kernel
theorem d_Mo_in_131 : decode b_Mo_in 131 = .ok (.iconst 1, 1) := by decide +kernel
theorem d_Mo_in_132 : decode b_Mo_in 132 = .ok (.goto 4, 3) := by decide +kernel
theorem d_Mo_in_135 : decode b_Mo_in 135 = .ok (.iconst 0, 1) := by decide +kernel
theorem d_Mo_in_136 : decode b_Mo_in 136 = .ok (.ireturn, 1) := by decide +kernel
set_option maxHeartbeats 1000000 in
set_option maxRecDepth 100000 in
theorem c_Mo_in (F : Nat → Nat → Int) (G : Nat → Int → Int) (x y : Int) (hn : 0 ≤ F 244 12 ∧ F 244 12 ≤ 100) (hE : mE G (F 244 12)) (hx : 0 ≤ x ∧ x ≤ 600) (hy : 0 ≤ y ∧ y ≤ 600) : cI y_Mo_in b_Mo_in 4 (some .boolean) 2 48 F G (fun ad => [.ref (ad 244), .int (iI x), .int (iI y)]) (fun z F' G' => F' = F ∧ (∀ a : Nat, a ≠ 257 → G' a = G a) ∧ (z = 0 ∨ z = 1) ∧ (z = 1 ↔ mHas G (F 244 12) x y)) := by
  intro s0 a0 D t ad
  refine g_startI (by decide +kernel) (Nat.le_of_ble_eq_true rfl) (fun p l e R s m args below meth c A ok => ?_)
  show gW p l e R s m args below meth c _ D A 4 (gZ0 s) 0 0 ad 265 (mem ad t F G) 0 [(0, .ref (ad 244)), (1, .int (iI x)), (2, .int (iI y))] []
  refine g_iconst ok d_Mo_in_0 ?_
  refine g_istore_n (lv' := [(3, .int (iI 0)), (0, .ref (ad 244)), (1, .int (iI x)), (2, .int (iI y))]) ok d_Mo_in_1 rfl (by decide) rfl ?_
  have L_r : ∀ (n_r : Nat) (r : Int) (G1 : Nat → Int → Int), (0 ≤ r ∧ r ≤ 4) → ((∀ a : Nat, a ≠ 257 → G1 a = G a) ∧ ∀ q : Int, 0 ≤ q → q < r → G1 257 q = 0) → (5 - r) < (n_r : Int) → gW p l e R s m args below meth c (MQ below (gQi D A ad 265 (fun z ce' => ∃ F' G', ce' = mem ad t F' G' ∧ (fun z F' G' => F' = F ∧ (∀ a : Nat, a ≠ 257 → G' a = G a) ∧ (z = 0 ∨ z = 1) ∧ (z = 1 ↔ mHas G (F 244 12) x y)) z F' G')) args s 0 0 A) D A 4 (gZ) 0 0 ad 265 (mem ad t F G1) 2 [(0, .ref (ad 244)), (1, .int (iI x)), (2, .int (iI y)), (3, .int (iI r))] [] := by
    intro n_r
    induction n_r with
    | zero =>
      intro r G1 hr hG hm_r
      exact absurd hm_r (by omega)
    | succ n_r ih_r =>
      intro r G1 hr hG hm_r
      refine g_iload_n ok d_Mo_in_2 rfl 3 rfl ?_
      refine g_iconst ok d_Mo_in_3 ?_
      refine g_icmp_ge ok 20 d_Mo_in_4 (by decide) (by omega) (by omega) (fun h1 => ?_) (fun h1 => ?_)
      · refine g_iconst ok d_Mo_in_20 ?_
        refine g_istore_n (lv' := [(3, .int (iI 0)), (0, .ref (ad 244)), (1, .int (iI x)), (2, .int (iI y))]) ok d_Mo_in_21 rfl (by decide) rfl ?_
        have L_i : ∀ (n_i : Nat) (i : Int) (G1 : Nat → Int → Int), (0 ≤ i ∧ i ≤ F 244 12) → ((∀ a : Nat, a ≠ 257 → G1 a = G a) ∧ odI G x y G1 i) → (∀ a : Int, 0 ≤ a → a < i → ¬ mOn G x y a) → (F 244 12 + 1 - i) < (n_i : Int) → gW p l e R s m args below meth c (MQ below (gQi D A ad 265 (fun z ce' => ∃ F' G', ce' = mem ad t F' G' ∧ (fun z F' G' => F' = F ∧ (∀ a : Nat, a ≠ 257 → G' a = G a) ∧ (z = 0 ∨ z = 1) ∧ (z = 1 ↔ mHas G (F 244 12) x y)) z F' G')) args s 0 0 A) D A 4 (gZ) 0 0 ad 265 (mem ad t F G1) 22 [(0, .ref (ad 244)), (1, .int (iI x)), (2, .int (iI y)), (3, .int (iI i))] [] := by
          intro n_i
          induction n_i with
          | zero =>
            intro i G1 hi hG ho hm_i
            exact absurd hm_i (by omega)
          | succ n_i ih_i =>
            intro i G1 hi hG ho hm_i
            refine g_iload_n ok d_Mo_in_22 rfl 3 rfl ?_
            refine g_aload_n ok d_Mo_in_23 rfl 0 rfl ?_
            refine gI_Mo_edges ok _ rfl k_1001 d_Mo_in_24 ?_
            refine g_icmp_ge ok 88 d_Mo_in_27 (by decide) (by omega) (by omega) (fun h2 => ?_) (fun h2 => ?_)
            · have hen := od_end hG.2 (n := F 244 12) (by omega)
              have o0 := (hG.2 0 (by decide) (by decide)).1
              have o1 := (hG.2 1 (by decide) (by decide)).1
              have o2 := (hG.2 2 (by decide) (by decide)).1
              have o3 := (hG.2 3 (by decide) (by decide)).1
              refine g_aload_n ok d_Mo_in_88 rfl 0 rfl ?_
              refine gI_Mo_odd ok _ rfl k_1008 d_Mo_in_89 ?_
              refine g_iconst ok d_Mo_in_92 ?_
              refine h_zald ok (by omega) d_Mo_in_93 ?_
              refine g_aload_n ok d_Mo_in_94 rfl 0 rfl ?_
              refine gI_Mo_odd ok _ rfl k_1008 d_Mo_in_95 ?_
              refine g_iconst ok d_Mo_in_98 ?_
              refine h_zald ok (by omega) d_Mo_in_99 ?_
              refine g_icmp_eq ok 107 d_Mo_in_100 (by decide) (by omega) (by omega) (fun h3 => ?_) (fun h3 => ?_)
              · refine g_iconst ok d_Mo_in_107 ?_
                refine g_aload_n ok d_Mo_in_108 rfl 0 rfl ?_
                refine gI_Mo_odd ok _ rfl k_1008 d_Mo_in_109 ?_
                refine g_iconst ok d_Mo_in_112 ?_
                refine h_zald ok (by omega) d_Mo_in_113 ?_
                refine g_aload_n ok d_Mo_in_114 rfl 0 rfl ?_
                refine gI_Mo_odd ok _ rfl k_1008 d_Mo_in_115 ?_
                refine g_iconst ok d_Mo_in_118 ?_
                refine h_zald ok (by omega) d_Mo_in_119 ?_
                refine g_icmp_eq ok 127 d_Mo_in_120 (by decide) (by omega) (by omega) (fun h4 => ?_) (fun h4 => ?_)
                · refine g_iconst ok d_Mo_in_127 ?_
                  refine g_icmp_eq ok 135 d_Mo_in_128 (by decide) (by omega) (by omega) (fun h5 => ?_) (fun h5 => ?_)
                  · refine g_iconst ok d_Mo_in_135 ?_
                    exact g_zret ok d_Mo_in_136 (Or.inl rfl) ⟨_, _, rfl, rfl, hG.1, Or.inl rfl, ⟨fun q => by omega, fun q => q.elim (fun ⟨a, q1, q2, q3⟩ => absurd q3 (ho a q1 (by omega))) (fun q => absurd (hen.mp q.2) (by omega))⟩⟩
                  · exact absurd h5 (by decide)
                · refine g_iconst ok d_Mo_in_123 ?_
                  refine g_goto ok 128 d_Mo_in_124 (by decide) ?_
                  refine g_icmp_eq ok 135 d_Mo_in_128 (by decide) (by omega) (by omega) (fun h6 => ?_) (fun h6 => ?_)
                  · exact absurd h6 (by decide)
                  · refine g_iconst ok d_Mo_in_131 ?_
                    refine g_goto ok 136 d_Mo_in_132 (by decide) ?_
                    exact g_zret ok d_Mo_in_136 (Or.inr rfl) ⟨_, _, rfl, rfl, hG.1, Or.inr rfl, ⟨fun _ => Or.inr ⟨fun a q1 q2 => ho a q1 (by omega), hen.mpr (by omega)⟩, fun _ => rfl⟩⟩
              · refine g_iconst ok d_Mo_in_103 ?_
                refine g_goto ok 108 d_Mo_in_104 (by decide) ?_
                refine g_aload_n ok d_Mo_in_108 rfl 0 rfl ?_
                refine gI_Mo_odd ok _ rfl k_1008 d_Mo_in_109 ?_
                refine g_iconst ok d_Mo_in_112 ?_
                refine h_zald ok (by omega) d_Mo_in_113 ?_
                refine g_aload_n ok d_Mo_in_114 rfl 0 rfl ?_
                refine gI_Mo_odd ok _ rfl k_1008 d_Mo_in_115 ?_
                refine g_iconst ok d_Mo_in_118 ?_
                refine h_zald ok (by omega) d_Mo_in_119 ?_
                refine g_icmp_eq ok 127 d_Mo_in_120 (by decide) (by omega) (by omega) (fun h7 => ?_) (fun h7 => ?_)
                · refine g_iconst ok d_Mo_in_127 ?_
                  refine g_icmp_eq ok 135 d_Mo_in_128 (by decide) (by omega) (by omega) (fun h8 => ?_) (fun h8 => ?_)
                  · exact absurd h8 (by decide)
                  · refine g_iconst ok d_Mo_in_131 ?_
                    refine g_goto ok 136 d_Mo_in_132 (by decide) ?_
                    exact g_zret ok d_Mo_in_136 (Or.inr rfl) ⟨_, _, rfl, rfl, hG.1, Or.inr rfl, ⟨fun _ => Or.inr ⟨fun a q1 q2 => ho a q1 (by omega), hen.mpr (by omega)⟩, fun _ => rfl⟩⟩
                · refine g_iconst ok d_Mo_in_123 ?_
                  refine g_goto ok 128 d_Mo_in_124 (by decide) ?_
                  refine g_icmp_eq ok 135 d_Mo_in_128 (by decide) (by omega) (by omega) (fun h9 => ?_) (fun h9 => ?_)
                  · refine g_iconst ok d_Mo_in_135 ?_
                    exact g_zret ok d_Mo_in_136 (Or.inl rfl) ⟨_, _, rfl, rfl, hG.1, Or.inl rfl, ⟨fun q => by omega, fun q => q.elim (fun ⟨a, q1, q2, q3⟩ => absurd q3 (ho a q1 (by omega))) (fun q => absurd (hen.mp q.2) (by omega))⟩⟩
                  · exact absurd h9 (by decide)
            · have hEi := hE i (by omega) (by omega)
              refine g_aload_n ok d_Mo_in_30 rfl 0 rfl ?_
              refine g_iload_n ok d_Mo_in_31 rfl 3 rfl ?_
              refine g_iload_n ok d_Mo_in_32 rfl 1 rfl ?_
              refine g_iload_n ok d_Mo_in_33 rfl 2 rfl ?_
              refine g_callPV (As := [.int (iI i), .int (iI x), .int (iI y)]) (st := []) ok _ (c_Mo_onEdge F G1 _ hn (show mE G1 (F 244 12) by unfold mE; rw [hG.1 251 (by decide), hG.1 252 (by decide), hG.1 253 (by decide), hG.1 254 (by decide), hG.1 255 (by decide), hG.1 256 (by decide)]; exact hE) _ _ _ (by omega) hx hy s0 a0 D t ad) k_1154 k_11 k_1151 cl_Mo (m_Mo (ad := ad) (t := t) (F := F) (G := G1) rfl).1 (m_Mo rfl).2 k_1153 s_Mo_onEdge q_Mo_onEdge (by decide) (Nat.le_of_ble_eq_true rfl) (by decide) d_Mo_in_34 (fun z10 hc10 => ?_)
              have hzb10 := hc10.1
              have hq10 : z10 = 1 ↔ mOn G x y i := by have h := hc10.2; unfold mOn at h ⊢; rw [hG.1 251 (by decide), hG.1 252 (by decide), hG.1 253 (by decide), hG.1 254 (by decide)] at h; exact h
              refine g_if_eq ok 42 d_Mo_in_37 (by decide) (by omega) (fun h11 => ?_) (fun h11 => ?_)
              · refine g_aload_n ok d_Mo_in_42 rfl 0 rfl ?_
                refine g_iload_n ok d_Mo_in_43 rfl 3 rfl ?_
                refine g_iload_n ok d_Mo_in_44 rfl 1 rfl ?_
                refine g_iload_n ok d_Mo_in_45 rfl 2 rfl ?_
                refine g_callPV (As := [.int (iI i), .int (iI x), .int (iI y)]) (st := []) ok _ (c_Mo_passes F G1 _ hn (show mE G1 (F 244 12) by unfold mE; rw [hG.1 251 (by decide), hG.1 252 (by decide), hG.1 253 (by decide), hG.1 254 (by decide), hG.1 255 (by decide), hG.1 256 (by decide)]; exact hE) _ _ _ (by omega) hx hy s0 a0 D t ad) k_1172 k_11 k_1169 cl_Mo (m_Mo (ad := ad) (t := t) (F := F) (G := G1) rfl).1 (m_Mo rfl).2 k_1171 s_Mo_passes q_Mo_passes (by decide) (Nat.le_of_ble_eq_true rfl) (by decide) d_Mo_in_46 (fun z12 hc12 => ?_)
                have hzb12 := hc12.1
                have hq12 : z12 = 1 ↔ mCr G x y i := by have h := hc12.2; unfold mCr at h ⊢; rw [hG.1 251 (by decide), hG.1 252 (by decide), hG.1 253 (by decide), hG.1 254 (by decide)] at h; exact h
                refine g_if_eq ok 82 d_Mo_in_49 (by decide) (by omega) (fun h13 => ?_) (fun h13 => ?_)
                · refine g_iinc (lv' := [(3, .int (iI (i + 1))), (0, .ref (ad 244)), (1, .int (iI x)), (2, .int (iI y))]) ok d_Mo_in_82 3 rfl (by decide) rfl ?_
                  refine g_goto ok 22 d_Mo_in_85 (by decide) ?_
                  refine g_lv [1, 2, 3, 0] rfl ?_
                  exact ih_i (i + 1) G1 (by omega) (⟨hG.1, odI_no hi.1 hG.2 (fun q => absurd (hq12.mpr q) (by omega))⟩) (fun a q1 q2 => (Int.lt_or_eq_of_le (show a ≤ i by omega)).elim (fun z => ho a q1 z) (fun z => by subst z; exact fun q => absurd (hq10.mpr q) (by omega))) (by omega)
                · refine g_aload_n ok d_Mo_in_52 rfl 0 rfl ?_
                  refine gI_Mo_odd ok _ rfl k_1008 d_Mo_in_53 ?_
                  refine g_aload_n ok d_Mo_in_56 rfl 0 rfl ?_
                  refine gI_Mo_ring ok _ rfl k_1006 d_Mo_in_57 ?_
                  refine g_iload_n ok d_Mo_in_60 rfl 3 rfl ?_
                  refine h_iald ok _ a_255 (by omega) d_Mo_in_61 ?_
                  refine g_top (y := G 255 i) (by rw [hG.1 255 (by decide)]) ?_
                  refine g_aload_n ok d_Mo_in_62 rfl 0 rfl ?_
                  refine gI_Mo_odd ok _ rfl k_1008 d_Mo_in_63 ?_
                  refine g_aload_n ok d_Mo_in_66 rfl 0 rfl ?_
                  refine gI_Mo_ring ok _ rfl k_1006 d_Mo_in_67 ?_
                  refine g_iload_n ok d_Mo_in_70 rfl 3 rfl ?_
                  refine h_iald ok _ a_255 (by omega) d_Mo_in_71 ?_
                  refine g_top (y := G 255 i) (by rw [hG.1 255 (by decide)]) ?_
                  refine h_zald ok (by omega) d_Mo_in_72 ?_
                  have hod := (hG.2 (G 255 i) (by omega) (by omega)).1
                  refine g_if_ne ok 80 d_Mo_in_73 (by decide) (by omega) (fun h14 => ?_) (fun h14 => ?_)
                  · refine g_iconst ok d_Mo_in_80 ?_
                    refine h_zast ok (by omega) (by omega) d_Mo_in_81 ?_
                    refine g_iinc (lv' := [(3, .int (iI (i + 1))), (0, .ref (ad 244)), (1, .int (iI x)), (2, .int (iI y))]) ok d_Mo_in_82 3 rfl (by decide) rfl ?_
                    refine g_goto ok 22 d_Mo_in_85 (by decide) ?_
                    refine g_lv [1, 2, 3, 0] rfl ?_
                    exact ih_i (i + 1) (gU G1 257 (G 255 i) 0) (by omega) (⟨fun a q => by rw [gU_k _ _ _ q]; exact hG.1 a q, odI_flip hi.1 hG.2 (hq12.mp (by omega)) (by omega) (Or.inr ⟨rfl, by omega⟩)⟩) (fun a q1 q2 => (Int.lt_or_eq_of_le (show a ≤ i by omega)).elim (fun z => ho a q1 z) (fun z => by subst z; exact fun q => absurd (hq10.mpr q) (by omega))) (by omega)
                  · refine g_iconst ok d_Mo_in_76 ?_
                    refine g_goto ok 81 d_Mo_in_77 (by decide) ?_
                    refine h_zast ok (by omega) (by omega) d_Mo_in_81 ?_
                    refine g_iinc (lv' := [(3, .int (iI (i + 1))), (0, .ref (ad 244)), (1, .int (iI x)), (2, .int (iI y))]) ok d_Mo_in_82 3 rfl (by decide) rfl ?_
                    refine g_goto ok 22 d_Mo_in_85 (by decide) ?_
                    refine g_lv [1, 2, 3, 0] rfl ?_
                    exact ih_i (i + 1) (gU G1 257 (G 255 i) 1) (by omega) (⟨fun a q => by rw [gU_k _ _ _ q]; exact hG.1 a q, odI_flip hi.1 hG.2 (hq12.mp (by omega)) (by omega) (Or.inl ⟨rfl, by omega⟩)⟩) (fun a q1 q2 => (Int.lt_or_eq_of_le (show a ≤ i by omega)).elim (fun z => ho a q1 z) (fun z => by subst z; exact fun q => absurd (hq10.mpr q) (by omega))) (by omega)
              · refine g_iconst ok d_Mo_in_40 ?_
                exact g_zret ok d_Mo_in_41 (Or.inr rfl) ⟨_, _, rfl, rfl, hG.1, Or.inr rfl, ⟨fun _ => Or.inl ⟨i, hi.1, by omega, hq10.mp (by omega)⟩, fun _ => rfl⟩⟩
        refine g_z ?_
        refine g_lv [1, 2, 3, 0] rfl ?_
        exact L_i ((F 244 12 + 1 - 0 : Int).toNat + 1) 0 G1 (by omega) (⟨hG.1, fun q q1 q2 => ⟨Or.inl (hG.2 q q1 (by omega)), ⟨fun z => by have := hG.2 q q1 (by omega); omega, fun z => z.elim⟩⟩⟩) (fun a q1 q2 => by omega) (by omega)
      · refine g_aload_n ok d_Mo_in_7 rfl 0 rfl ?_
        refine gI_Mo_odd ok _ rfl k_1008 d_Mo_in_8 ?_
        refine g_iload_n ok d_Mo_in_11 rfl 3 rfl ?_
        refine g_iconst ok d_Mo_in_12 ?_
        refine h_zast ok (by omega) (by omega) d_Mo_in_13 ?_
        refine g_iinc (lv' := [(3, .int (iI (r + 1))), (0, .ref (ad 244)), (1, .int (iI x)), (2, .int (iI y))]) ok d_Mo_in_14 3 rfl (by decide) rfl ?_
        refine g_goto ok 2 d_Mo_in_17 (by decide) ?_
        refine g_lv [1, 2, 3, 0] rfl ?_
        exact ih_r (r + 1) (gU G1 257 r 0) (by omega) (⟨fun a q => by rw [gU_k _ _ _ q]; exact hG.1 a q, fun q q1 q2 => (Int.lt_or_eq_of_le (show q ≤ r by omega)).elim (fun z => by rw [gU_i (by omega)]; exact hG.2 q q1 z) (fun z => by subst z; rw [gU_hit])⟩) (by omega)
  refine g_z ?_
  refine g_lv [1, 2, 3, 0] rfl ?_
  exact L_r ((5 - 0 : Int).toNat + 1) 0 G (by omega) (⟨fun _ _ => rfl, fun q q1 q2 => by omega⟩) (by omega)
def fT (G : Nat → Int → Int) (r b a : Int) : Int := eTurn (G 247 (960 + 24 * r)) (G 248 (960 + 24 * r)) (G 247 (960 + 24 * r + b)) (G 248 (960 + 24 * r + b)) (G 247 (960 + 24 * r + a)) (G 248 (960 + 24 * r + a))
def mLine (G : Nat → Int → Int) (r i k : Int) : Prop := ∀ a b : Int, 0 ≤ b → b < a → (a < i ∨ (a = i ∧ b < k)) → fT G r b a = 0
theorem mLine_step {G : Nat → Int → Int} {r i k ln : Int} (h : (ln = 0 ∨ ln = 1) ∧ (ln = 1 ↔ mLine G r i k)) (hz : fT G r k i = 0) : (ln = 0 ∨ ln = 1) ∧ (ln = 1 ↔ mLine G r i (k + 1)) := by
  refine ⟨h.1, h.2.trans ⟨fun q a b h1 h2 h3 => ?_, fun q a b h1 h2 h3 => q a b h1 h2 (by omega)⟩⟩
  by_cases e : a = i ∧ b = k
  · rw [e.1, e.2]
    exact hz
  · exact q a b h1 h2 (by omega)
theorem mLine_no {G : Nat → Int → Int} {r i k : Int} (hk : 0 ≤ k ∧ k < i) (hz : ¬ fT G r k i = 0) : ((0 : Int) = 0 ∨ (0 : Int) = 1) ∧ ((0 : Int) = 1 ↔ mLine G r i (k + 1)) := ⟨Or.inl rfl, fun q => by omega, fun q => absurd (q i k hk.1 hk.2 (by omega)) hz⟩
theorem mLine_next {G : Nat → Int → Int} {r i k ln : Int} (h : (ln = 0 ∨ ln = 1) ∧ (ln = 1 ↔ mLine G r i k)) (hk : k = i) : (ln = 0 ∨ ln = 1) ∧ (ln = 1 ↔ mLine G r (i + 1) 0) :=
  ⟨h.1, h.2.trans ⟨fun q a b h1 h2 h3 => q a b h1 h2 (by omega), fun q a b h1 h2 h3 => q a b h1 h2 (by omega)⟩⟩
def mRFlat (G : Nat → Int → Int) (r : Int) : Prop := 0 < G 246 (40 + r) ∧ (G 246 (40 + r) < 3 ∨ mLine G r (G 246 (40 + r)) 0)
def mFlat (G : Nat → Int → Int) : Prop := if G 245 41 = 1 then (¬ G 246 40 = G 246 41 ∨ G 246 40 < 2) else (G 246 40 = 0 ∨ ∃ r : Int, (0 ≤ r ∧ r < 4) ∧ mRFlat G r)
def mPl (G : Nat → Int → Int) : Prop := ∀ r i : Int, 0 ≤ r → r < 4 → 0 ≤ i → i < G 246 (40 + r) → (0 ≤ G 247 (960 + 24 * r + i) ∧ G 247 (960 + 24 * r + i) ≤ 600) ∧ (0 ≤ G 248 (960 + 24 * r + i) ∧ G 248 (960 + 24 * r + i) ≤ 600)
theorem d_Mo_flat_0 : decode b_Mo_flat 0 = .ok (.aload_n 0, 1) := by decide +kernel
theorem d_Mo_flat_1 : decode b_Mo_flat 1 = .ok (.getfield 20, 3) := by decide +kernel
theorem d_Mo_flat_4 : decode b_Mo_flat 4 = .ok (.bipush 41, 2) := by decide +kernel
theorem d_Mo_flat_6 : decode b_Mo_flat 6 = .ok (.iaload, 1) := by decide +kernel
theorem d_Mo_flat_7 : decode b_Mo_flat 7 = .ok (.iconst 1, 1) := by decide +kernel
theorem d_Mo_flat_8 : decode b_Mo_flat 8 = .ok (.if_icmp .ne 37, 3) := by decide +kernel
theorem d_Mo_flat_11 : decode b_Mo_flat 11 = .ok (.aload_n 0, 1) := by decide +kernel
theorem d_Mo_flat_12 : decode b_Mo_flat 12 = .ok (.getfield 24, 3) := by decide +kernel
theorem d_Mo_flat_15 : decode b_Mo_flat 15 = .ok (.bipush 40, 2) := by decide +kernel
theorem d_Mo_flat_17 : decode b_Mo_flat 17 = .ok (.iaload, 1) := by decide +kernel
theorem d_Mo_flat_18 : decode b_Mo_flat 18 = .ok (.aload_n 0, 1) := by decide +kernel
theorem d_Mo_flat_19 : decode b_Mo_flat 19 = .ok (.getfield 24, 3) := by decide +kernel
theorem d_Mo_flat_22 : decode b_Mo_flat 22 = .ok (.bipush 41, 2) := by decide +kernel
theorem d_Mo_flat_24 : decode b_Mo_flat 24 = .ok (.iaload, 1) := by decide +kernel
theorem d_Mo_flat_25 : decode b_Mo_flat 25 = .ok (.if_icmp .ne 14, 3) := by decide +kernel
theorem d_Mo_flat_28 : decode b_Mo_flat 28 = .ok (.aload_n 0, 1) := by decide +kernel
theorem d_Mo_flat_29 : decode b_Mo_flat 29 = .ok (.getfield 24, 3) := by decide +kernel
theorem d_Mo_flat_32 : decode b_Mo_flat 32 = .ok (.bipush 40, 2) := by decide +kernel
theorem d_Mo_flat_34 : decode b_Mo_flat 34 = .ok (.iaload, 1) := by decide +kernel
theorem d_Mo_flat_35 : decode b_Mo_flat 35 = .ok (.iconst 2, 1) := by decide +kernel
theorem d_Mo_flat_36 : decode b_Mo_flat 36 = .ok (.if_icmp .ge 7, 3) := by decide +kernel
theorem d_Mo_flat_39 : decode b_Mo_flat 39 = .ok (.iconst 1, 1) := by decide +kernel
theorem d_Mo_flat_40 : decode b_Mo_flat 40 = .ok (.goto 4, 3) := by decide +kernel
theorem d_Mo_flat_43 : decode b_Mo_flat 43 = .ok (.iconst 0, 1) := by decide +kernel
theorem d_Mo_flat_44 : decode b_Mo_flat 44 = .ok (.ireturn, 1) := by decide +kernel
theorem d_Mo_flat_45 : decode b_Mo_flat 45 = .ok (.aload_n 0, 1) := by decide +kernel
theorem d_Mo_flat_46 : decode b_Mo_flat 46 = .ok (.getfield 24, 3) := by decide +kernel
theorem d_Mo_flat_49 : decode b_Mo_flat 49 = .ok (.bipush 40, 2) := by decide +kernel
theorem d_Mo_flat_51 : decode b_Mo_flat 51 = .ok (.iaload, 1) := by decide +kernel
theorem d_Mo_flat_52 : decode b_Mo_flat 52 = .ok (.ifCond .ne 5, 3) := by decide +kernel
theorem d_Mo_flat_55 : decode b_Mo_flat 55 = .ok (.iconst 1, 1) := by decide +kernel
theorem d_Mo_flat_56 : decode b_Mo_flat 56 = .ok (.ireturn, 1) := by decide +kernel
theorem d_Mo_flat_57 : decode b_Mo_flat 57 = .ok (.iconst 0, 1) := by decide +kernel
theorem d_Mo_flat_58 : decode b_Mo_flat 58 = .ok (.istore_n 1, 1) := by decide +kernel
theorem d_Mo_flat_59 : decode b_Mo_flat 59 = .ok (.iload_n 1, 1) := by decide +kernel
theorem d_Mo_flat_60 : decode b_Mo_flat 60 = .ok (.iconst 4, 1) := by decide +kernel
theorem d_Mo_flat_61 : decode b_Mo_flat 61 = .ok (.if_icmp .ge 135, 3) := by decide +kernel
theorem d_Mo_flat_64 : decode b_Mo_flat 64 = .ok (.aload_n 0, 1) := by decide +kernel
theorem d_Mo_flat_65 : decode b_Mo_flat 65 = .ok (.getfield 24, 3) := by decide +kernel
theorem d_Mo_flat_68 : decode b_Mo_flat 68 = .ok (.bipush 40, 2) := by decide +kernel
theorem d_Mo_flat_70 : decode b_Mo_flat 70 = .ok (.iload_n 1, 1) := by decide +kernel
theorem d_Mo_flat_71 : decode b_Mo_flat 71 = .ok (.iadd, 1) := by decide +kernel
theorem d_Mo_flat_72 : decode b_Mo_flat 72 = .ok (.iaload, 1) := by decide +kernel
theorem d_Mo_flat_73 : decode b_Mo_flat 73 = .ok (.istore_n 2, 1) := by decide +kernel
theorem d_Mo_flat_74 : decode b_Mo_flat 74 = .ok (.sipush 960, 3) := by decide +kernel
theorem d_Mo_flat_77 : decode b_Mo_flat 77 = .ok (.bipush 24, 2) := by decide +kernel
theorem d_Mo_flat_79 : decode b_Mo_flat 79 = .ok (.iload_n 1, 1) := by decide +kernel
theorem d_Mo_flat_80 : decode b_Mo_flat 80 = .ok (.imul, 1) := by decide +kernel
theorem d_Mo_flat_81 : decode b_Mo_flat 81 = .ok (.iadd, 1) := by decide +kernel
theorem d_Mo_flat_82 : decode b_Mo_flat 82 = .ok (.istore_n 3, 1) := by decide +kernel
theorem d_Mo_flat_83 : decode b_Mo_flat 83 = .ok (.iconst 1, 1) := by decide +kernel
theorem d_Mo_flat_84 : decode b_Mo_flat 84 = .ok (.istore 4, 2) := by decide +kernel
theorem d_Mo_flat_86 : decode b_Mo_flat 86 = .ok (.iconst 0, 1) := by decide +kernel
theorem d_Mo_flat_87 : decode b_Mo_flat 87 = .ok (.istore 5, 2) := by decide +kernel
theorem d_Mo_flat_89 : decode b_Mo_flat 89 = .ok (.iload 5, 2) := by decide +kernel
theorem d_Mo_flat_91 : decode b_Mo_flat 91 = .ok (.iload_n 2, 1) := by decide +kernel
theorem d_Mo_flat_92 : decode b_Mo_flat 92 = .ok (.if_icmp .ge 82, 3) := by decide +kernel
theorem d_Mo_flat_95 : decode b_Mo_flat 95 = .ok (.iconst 0, 1) := by decide +kernel
theorem d_Mo_flat_96 : decode b_Mo_flat 96 = .ok (.istore 6, 2) := by decide +kernel
theorem d_Mo_flat_98 : decode b_Mo_flat 98 = .ok (.iload 6, 2) := by decide +kernel
theorem d_Mo_flat_100 : decode b_Mo_flat 100 = .ok (.iload 5, 2) := by decide +kernel
theorem d_Mo_flat_102 : decode b_Mo_flat 102 = .ok (.if_icmp .ge 66, 3) := by decide +kernel
theorem d_Mo_flat_105 : decode b_Mo_flat 105 = .ok (.aload_n 0, 1) := by decide +kernel
theorem d_Mo_flat_106 : decode b_Mo_flat 106 = .ok (.getfield 27, 3) := by decide +kernel
theorem d_Mo_flat_109 : decode b_Mo_flat 109 = .ok (.iload_n 3, 1) := by decide +kernel
theorem d_Mo_flat_110 : decode b_Mo_flat 110 = .ok (.iaload, 1) := by decide +kernel
theorem d_Mo_flat_111 : decode b_Mo_flat 111 = .ok (.aload_n 0, 1) := by decide +kernel
theorem d_Mo_flat_112 : decode b_Mo_flat 112 = .ok (.getfield 30, 3) := by decide +kernel
theorem d_Mo_flat_115 : decode b_Mo_flat 115 = .ok (.iload_n 3, 1) := by decide +kernel
theorem d_Mo_flat_116 : decode b_Mo_flat 116 = .ok (.iaload, 1) := by decide +kernel
theorem d_Mo_flat_117 : decode b_Mo_flat 117 = .ok (.aload_n 0, 1) := by decide +kernel
theorem d_Mo_flat_118 : decode b_Mo_flat 118 = .ok (.getfield 27, 3) := by decide +kernel
theorem d_Mo_flat_121 : decode b_Mo_flat 121 = .ok (.iload_n 3, 1) := by decide +kernel
theorem d_Mo_flat_122 : decode b_Mo_flat 122 = .ok (.iload 6, 2) := by decide +kernel
theorem d_Mo_flat_124 : decode b_Mo_flat 124 = .ok (.iadd, 1) := by decide +kernel
theorem d_Mo_flat_125 : decode b_Mo_flat 125 = .ok (.iaload, 1) := by decide +kernel
theorem d_Mo_flat_126 : decode b_Mo_flat 126 = .ok (.aload_n 0, 1) := by decide +kernel
theorem d_Mo_flat_127 : decode b_Mo_flat 127 = .ok (.getfield 30, 3) := by decide +kernel
theorem d_Mo_flat_130 : decode b_Mo_flat 130 = .ok (.iload_n 3, 1) := by decide +kernel
theorem d_Mo_flat_131 : decode b_Mo_flat 131 = .ok (.iload 6, 2) := by decide +kernel
theorem d_Mo_flat_133 : decode b_Mo_flat 133 = .ok (.iadd, 1) := by decide +kernel
theorem d_Mo_flat_134 : decode b_Mo_flat 134 = .ok (.iaload, 1) := by decide +kernel
theorem d_Mo_flat_135 : decode b_Mo_flat 135 = .ok (.aload_n 0, 1) := by decide +kernel
theorem d_Mo_flat_136 : decode b_Mo_flat 136 = .ok (.getfield 27, 3) := by decide +kernel
theorem d_Mo_flat_139 : decode b_Mo_flat 139 = .ok (.iload_n 3, 1) := by decide +kernel
theorem d_Mo_flat_140 : decode b_Mo_flat 140 = .ok (.iload 5, 2) := by decide +kernel
theorem d_Mo_flat_142 : decode b_Mo_flat 142 = .ok (.iadd, 1) := by decide +kernel
theorem d_Mo_flat_143 : decode b_Mo_flat 143 = .ok (.iaload, 1) := by decide +kernel
theorem d_Mo_flat_144 : decode b_Mo_flat 144 = .ok (.aload_n 0, 1) := by decide +kernel
theorem d_Mo_flat_145 : decode b_Mo_flat 145 = .ok (.getfield 30, 3) := by decide +kernel
theorem d_Mo_flat_148 : decode b_Mo_flat 148 = .ok (.iload_n 3, 1) := by decide +kernel
theorem d_Mo_flat_149 : decode b_Mo_flat 149 = .ok (.iload 5, 2) := by decide +kernel
theorem d_Mo_flat_151 : decode b_Mo_flat 151 = .ok (.iadd, 1) := by decide +kernel
theorem d_Mo_flat_152 : decode b_Mo_flat 152 = .ok (.iaload, 1) := by decide +kernel
theorem d_Mo_flat_153 : decode b_Mo_flat 153 = .ok (.invokestatic 123, 3) := by decide +kernel
theorem d_Mo_flat_156 : decode b_Mo_flat 156 = .ok (.ifCond .eq 6, 3) := by decide +kernel
theorem d_Mo_flat_159 : decode b_Mo_flat 159 = .ok (.iconst 0, 1) := by decide +kernel
theorem d_Mo_flat_160 : decode b_Mo_flat 160 = .ok (.istore 4, 2) := by decide +kernel
theorem d_Mo_flat_162 : decode b_Mo_flat 162 = .ok (.iinc 6 1, 3) := by decide +kernel
theorem d_Mo_flat_165 : decode b_Mo_flat 165 = .ok (.goto (-67), 3) := by decide +kernel
theorem d_Mo_flat_168 : decode b_Mo_flat 168 = .ok (.iinc 5 1, 3) := by decide +kernel
theorem d_Mo_flat_171 : decode b_Mo_flat 171 = .ok (.goto (-82), 3) := by decide +kernel
theorem d_Mo_flat_174 : decode b_Mo_flat 174 = .ok (.iload_n 2, 1) := by decide +kernel
theorem d_Mo_flat_175 : decode b_Mo_flat 175 = .ok (.ifCond .le 15, 3) := by decide +kernel
theorem d_Mo_flat_178 : decode b_Mo_flat 178 = .ok (.iload_n 2, 1) := by decide +kernel
theorem d_Mo_flat_179 : decode b_Mo_flat 179 = .ok (.iconst 3, 1) := by decide +kernel
theorem d_Mo_flat_180 : decode b_Mo_flat 180 = .ok (.if_icmp .lt 8, 3) := by decide +kernel
theorem d_Mo_flat_183 : decode b_Mo_flat 183 = .ok (.iload 4, 2) := by decide +kernel
theorem d_Mo_flat_185 : decode b_Mo_flat 185 = .ok (.ifCond .eq 5, 3) := by decide +kernel
theorem d_Mo_flat_188 : decode b_Mo_flat 188 = .ok (.iconst 1, 1) := by decide +kernel
theorem d_Mo_flat_189 : decode b_Mo_flat 189 = .ok (.ireturn, 1) := by decide +kernel
theorem d_Mo_flat_190 : decode b_Mo_flat 190 = .ok (.iinc 1 1, 3) := by decide +kernel
theorem d_Mo_flat_193 : decode b_Mo_flat 193 = .ok (.goto (-134), 3) := by decide +kernel
theorem d_Mo_flat_196 : decode b_Mo_flat 196 = .ok (.iconst 0, 1) := by decide +kernel
theorem d_Mo_flat_197 : decode b_Mo_flat 197 = .ok (.ireturn, 1) := by decide +kernel
set_option maxHeartbeats 1000000 in
set_option maxRecDepth 100000 in
theorem c_Mo_flat (F : Nat → Nat → Int) (G : Nat → Int → Int) (hO : mOk G 10) (hP : mPl G) (h41 : 0 ≤ G 246 41 ∧ G 246 41 ≤ 24) : cP y_Mo_flat b_Mo_flat 7 (some .boolean) 1 25 F G (fun ad => [.ref (ad 244)]) (fun z => (z = 0 ∨ z = 1) ∧ (z = 1 ↔ mFlat G)) := by
  have hf : 0 ≤ G 245 41 ∧ G 245 41 ≤ 2 := hO.2.2.1
  have hn0 : 0 ≤ G 246 40 ∧ G 246 40 ≤ 24 := hO.2.1 0 (by decide) (by decide)
  intro s0 a0 D t ad
  refine g_startP (by decide +kernel) (Nat.le_of_ble_eq_true rfl) (fun p l e R s m args below meth c A ok => ?_)
  show gW p l e R s m args below meth c _ D A 7 (gZ0 s) 0 0 ad 265 (mem ad t F G) 0 [(0, .ref (ad 244))] []
  refine g_aload_n ok d_Mo_flat_0 rfl 0 rfl ?_
  refine gI_Mo_told ok _ rfl k_992 d_Mo_flat_1 ?_
  refine g_bipush ok (by decide) d_Mo_flat_4 ?_
  refine h_iald ok _ a_245 (by omega) d_Mo_flat_6 ?_
  refine g_iconst ok d_Mo_flat_7 ?_
  refine g_icmp_ne ok 45 d_Mo_flat_8 (by decide) (by omega) (by omega) (fun h1 => ?_) (fun h1 => ?_)
  · refine g_aload_n ok d_Mo_flat_45 rfl 0 rfl ?_
    refine gI_Mo_corners ok _ rfl k_993 d_Mo_flat_46 ?_
    refine g_bipush ok (by decide) d_Mo_flat_49 ?_
    refine h_iald ok _ a_246 (by omega) d_Mo_flat_51 ?_
    refine g_if_ne ok 57 d_Mo_flat_52 (by decide) (by omega) (fun h2 => ?_) (fun h2 => ?_)
    · refine g_iconst ok d_Mo_flat_57 ?_
      refine g_istore_n (lv' := [(1, .int (iI 0)), (0, .ref (ad 244))]) ok d_Mo_flat_58 rfl (by decide) rfl ?_
      have L_r : ∀ (n_r : Nat) (r : Int), (0 ≤ r ∧ r ≤ 4) → (¬ G 245 41 = 1) → (¬ G 246 40 = 0) → (∀ q : Int, 0 ≤ q → q < r → ¬ mRFlat G q) → (5 - r) < (n_r : Int) → gW p l e R s m args below meth c (MQ below (gQp (fun z => (z = 0 ∨ z = 1) ∧ (z = 1 ↔ mFlat G))) args s 0 0 (fun _ => False)) D A 7 (gZ0 s) 0 0 ad 265 (mem ad t F G) 59 [(0, .ref (ad 244)), (1, .int (iI r))] [] := by
        intro n_r
        induction n_r with
        | zero =>
          intro r hr hns h40 ho hm_r
          exact absurd hm_r (by omega)
        | succ n_r ih_r =>
          intro r hr hns h40 ho hm_r
          refine g_iload_n ok d_Mo_flat_59 rfl 1 rfl ?_
          refine g_iconst ok d_Mo_flat_60 ?_
          refine g_icmp_ge ok 196 d_Mo_flat_61 (by decide) (by omega) (by omega) (fun h3 => ?_) (fun h3 => ?_)
          · refine g_iconst ok d_Mo_flat_196 ?_
            exact g_zpret ok d_Mo_flat_197 (by first | exact Or.inl rfl | exact Or.inr rfl) ⟨by decide, ⟨fun q => by omega, fun q => by unfold mFlat at q; rw [if_neg hns] at q; exact q.elim (fun q => by omega) (fun ⟨q, h1, h2⟩ => absurd h2 (ho q h1.1 (by omega)))⟩⟩
          · have hnr : 0 ≤ G 246 (40 + r) ∧ G 246 (40 + r) ≤ 24 := hO.2.1 r (by omega) (by omega)
            refine g_aload_n ok d_Mo_flat_64 rfl 0 rfl ?_
            refine gI_Mo_corners ok _ rfl k_993 d_Mo_flat_65 ?_
            refine g_bipush ok (by decide) d_Mo_flat_68 ?_
            refine g_iload_n ok d_Mo_flat_70 rfl 1 rfl ?_
            refine g_iadd ok d_Mo_flat_71 ?_
            refine h_iald ok _ a_246 (by omega) d_Mo_flat_72 ?_
            refine g_istore_n (lv' := [(2, .int (iI (G 246 (40 + r)))), (0, .ref (ad 244)), (1, .int (iI r))]) ok d_Mo_flat_73 rfl (by decide) rfl ?_
            refine g_sipush ok (by decide) d_Mo_flat_74 ?_
            refine g_bipush ok (by decide) d_Mo_flat_77 ?_
            refine g_iload_n ok d_Mo_flat_79 rfl 2 rfl ?_
            refine g_imul ok d_Mo_flat_80 ?_
            refine g_iadd ok d_Mo_flat_81 ?_
            refine g_istore_n (lv' := [(3, .int (iI (960 + (24 * r)))), (2, .int (iI (G 246 (40 + r)))), (0, .ref (ad 244)), (1, .int (iI r))]) ok d_Mo_flat_82 rfl (by decide) rfl ?_
            refine g_iconst ok d_Mo_flat_83 ?_
            refine g_istore (lv' := [(4, .int (iI 1)), (3, .int (iI (960 + (24 * r)))), (2, .int (iI (G 246 (40 + r)))), (0, .ref (ad 244)), (1, .int (iI r))]) ok d_Mo_flat_84 (by decide) rfl ?_
            refine g_iconst ok d_Mo_flat_86 ?_
            refine g_istore (lv' := [(5, .int (iI 0)), (4, .int (iI 1)), (3, .int (iI (960 + (24 * r)))), (2, .int (iI (G 246 (40 + r)))), (0, .ref (ad 244)), (1, .int (iI r))]) ok d_Mo_flat_87 (by decide) rfl ?_
            have L_i : ∀ (n_i : Nat) (ln : Int) (i : Int), (0 ≤ i ∧ i ≤ G 246 (40 + r)) → ((ln = 0 ∨ ln = 1) ∧ (ln = 1 ↔ mLine G r i 0)) → (G 246 (40 + r) + 1 - i) < (n_i : Int) → gW p l e R s m args below meth c (MQ below (gQp (fun z => (z = 0 ∨ z = 1) ∧ (z = 1 ↔ mFlat G))) args s 0 0 (fun _ => False)) D A 7 (gZ0 s) 0 0 ad 265 (mem ad t F G) 89 [(0, .ref (ad 244)), (1, .int (iI r)), (2, .int (iI (G 246 (40 + r)))), (3, .int (iI (960 + (24 * r)))), (4, .int (iI ln)), (5, .int (iI i))] [] := by
              intro n_i
              induction n_i with
              | zero =>
                intro ln i hi hln hm_i
                exact absurd hm_i (by omega)
              | succ n_i ih_i =>
                intro ln i hi hln hm_i
                refine g_iload ok d_Mo_flat_89 5 rfl ?_
                refine g_iload_n ok d_Mo_flat_91 rfl 2 rfl ?_
                refine g_icmp_ge ok 174 d_Mo_flat_92 (by decide) (by omega) (by omega) (fun h4 => ?_) (fun h4 => ?_)
                · refine g_iload_n ok d_Mo_flat_174 rfl 2 rfl ?_
                  refine g_if_le ok 190 d_Mo_flat_175 (by decide) (by omega) (fun h5 => ?_) (fun h5 => ?_)
                  · refine g_iinc (lv' := [(1, .int (iI (r + 1))), (0, .ref (ad 244)), (2, .int (iI (G 246 (40 + r)))), (3, .int (iI (960 + (24 * r)))), (4, .int (iI ln)), (5, .int (iI i))]) ok d_Mo_flat_190 1 rfl (by decide) rfl ?_
                    refine g_goto ok 59 d_Mo_flat_193 (by decide) ?_
                    refine g_lv [1, 0] rfl ?_
                    exact ih_r (r + 1) (by omega) (by omega) (by omega) (fun q q1 q2 => (Int.lt_or_eq_of_le (show q ≤ r by omega)).elim (fun z => ho q q1 z) (fun z => by subst z; exact fun ⟨h1, h2⟩ => h2.elim (fun h => by omega) (fun h => by first | omega | exact absurd (hln.2.mpr (by rw [show G 246 (40 + q) = i by omega] at h; exact h)) (by omega)))) (by omega)
                  · refine g_iload_n ok d_Mo_flat_178 rfl 2 rfl ?_
                    refine g_iconst ok d_Mo_flat_179 ?_
                    refine g_icmp_lt ok 188 d_Mo_flat_180 (by decide) (by omega) (by omega) (fun h6 => ?_) (fun h6 => ?_)
                    · refine g_iconst ok d_Mo_flat_188 ?_
                      exact g_zpret ok d_Mo_flat_189 (by first | exact Or.inl rfl | exact Or.inr rfl) ⟨by decide, ⟨fun _ => by unfold mFlat; rw [if_neg hns]; exact Or.inr ⟨r, by omega, by omega, by first | exact Or.inl (by omega) | exact Or.inr (by rw [show G 246 (40 + r) = i by omega]; exact hln.2.mp (by omega))⟩, fun _ => rfl⟩⟩
                    · refine g_iload ok d_Mo_flat_183 4 rfl ?_
                      refine g_if_eq ok 190 d_Mo_flat_185 (by decide) (by omega) (fun h7 => ?_) (fun h7 => ?_)
                      · refine g_iinc (lv' := [(1, .int (iI (r + 1))), (0, .ref (ad 244)), (2, .int (iI (G 246 (40 + r)))), (3, .int (iI (960 + (24 * r)))), (4, .int (iI ln)), (5, .int (iI i))]) ok d_Mo_flat_190 1 rfl (by decide) rfl ?_
                        refine g_goto ok 59 d_Mo_flat_193 (by decide) ?_
                        refine g_lv [1, 0] rfl ?_
                        exact ih_r (r + 1) (by omega) (by omega) (by omega) (fun q q1 q2 => (Int.lt_or_eq_of_le (show q ≤ r by omega)).elim (fun z => ho q q1 z) (fun z => by subst z; exact fun ⟨h1, h2⟩ => h2.elim (fun h => by omega) (fun h => by first | omega | exact absurd (hln.2.mpr (by rw [show G 246 (40 + q) = i by omega] at h; exact h)) (by omega)))) (by omega)
                      · refine g_iconst ok d_Mo_flat_188 ?_
                        exact g_zpret ok d_Mo_flat_189 (by first | exact Or.inl rfl | exact Or.inr rfl) ⟨by decide, ⟨fun _ => by unfold mFlat; rw [if_neg hns]; exact Or.inr ⟨r, by omega, by omega, by first | exact Or.inl (by omega) | exact Or.inr (by rw [show G 246 (40 + r) = i by omega]; exact hln.2.mp (by omega))⟩, fun _ => rfl⟩⟩
                · refine g_iconst ok d_Mo_flat_95 ?_
                  refine g_istore (lv' := [(6, .int (iI 0)), (0, .ref (ad 244)), (1, .int (iI r)), (2, .int (iI (G 246 (40 + r)))), (3, .int (iI (960 + (24 * r)))), (4, .int (iI ln)), (5, .int (iI i))]) ok d_Mo_flat_96 (by decide) rfl ?_
                  have L_k : ∀ (n_k : Nat) (ln : Int) (k : Int), (0 ≤ k ∧ k ≤ i) → ((ln = 0 ∨ ln = 1) ∧ (ln = 1 ↔ mLine G r i k)) → (i + 1 - k) < (n_k : Int) → gW p l e R s m args below meth c (MQ below (gQp (fun z => (z = 0 ∨ z = 1) ∧ (z = 1 ↔ mFlat G))) args s 0 0 (fun _ => False)) D A 7 (gZ0 s) 0 0 ad 265 (mem ad t F G) 98 [(0, .ref (ad 244)), (1, .int (iI r)), (2, .int (iI (G 246 (40 + r)))), (3, .int (iI (960 + (24 * r)))), (4, .int (iI ln)), (5, .int (iI i)), (6, .int (iI k))] [] := by
                    intro n_k
                    induction n_k with
                    | zero =>
                      intro ln k hk hlk hm_k
                      exact absurd hm_k (by omega)
                    | succ n_k ih_k =>
                      intro ln k hk hlk hm_k
                      refine g_iload ok d_Mo_flat_98 6 rfl ?_
                      refine g_iload ok d_Mo_flat_100 5 rfl ?_
                      refine g_icmp_ge ok 168 d_Mo_flat_102 (by decide) (by omega) (by omega) (fun h8 => ?_) (fun h8 => ?_)
                      · refine g_iinc (lv' := [(5, .int (iI (i + 1))), (0, .ref (ad 244)), (1, .int (iI r)), (2, .int (iI (G 246 (40 + r)))), (3, .int (iI (960 + (24 * r)))), (4, .int (iI ln)), (6, .int (iI k))]) ok d_Mo_flat_168 5 rfl (by decide) rfl ?_
                        refine g_goto ok 89 d_Mo_flat_171 (by decide) ?_
                        refine g_lv [1, 2, 3, 4, 5, 0] rfl ?_
                        exact ih_i ln (i + 1) (by omega) (mLine_next hlk (by omega)) (by omega)
                      · have p0 := hP r 0 (by omega) (by omega) (by omega) (by omega)
                        rw [Int.add_zero] at p0
                        have pk := hP r k (by omega) (by omega) (by omega) (by omega)
                        have pi := hP r i (by omega) (by omega) (by omega) (by omega)
                        refine g_aload_n ok d_Mo_flat_105 rfl 0 rfl ?_
                        refine gI_Mo_cx ok _ rfl k_994 d_Mo_flat_106 ?_
                        refine g_iload_n ok d_Mo_flat_109 rfl 3 rfl ?_
                        refine h_iald ok _ a_247 (by omega) d_Mo_flat_110 ?_
                        refine g_aload_n ok d_Mo_flat_111 rfl 0 rfl ?_
                        refine gI_Mo_cy ok _ rfl k_995 d_Mo_flat_112 ?_
                        refine g_iload_n ok d_Mo_flat_115 rfl 3 rfl ?_
                        refine h_iald ok _ a_248 (by omega) d_Mo_flat_116 ?_
                        refine g_aload_n ok d_Mo_flat_117 rfl 0 rfl ?_
                        refine gI_Mo_cx ok _ rfl k_994 d_Mo_flat_118 ?_
                        refine g_iload_n ok d_Mo_flat_121 rfl 3 rfl ?_
                        refine g_iload ok d_Mo_flat_122 6 rfl ?_
                        refine g_iadd ok d_Mo_flat_124 ?_
                        refine h_iald ok _ a_247 (by omega) d_Mo_flat_125 ?_
                        refine g_aload_n ok d_Mo_flat_126 rfl 0 rfl ?_
                        refine gI_Mo_cy ok _ rfl k_995 d_Mo_flat_127 ?_
                        refine g_iload_n ok d_Mo_flat_130 rfl 3 rfl ?_
                        refine g_iload ok d_Mo_flat_131 6 rfl ?_
                        refine g_iadd ok d_Mo_flat_133 ?_
                        refine h_iald ok _ a_248 (by omega) d_Mo_flat_134 ?_
                        refine g_aload_n ok d_Mo_flat_135 rfl 0 rfl ?_
                        refine gI_Mo_cx ok _ rfl k_994 d_Mo_flat_136 ?_
                        refine g_iload_n ok d_Mo_flat_139 rfl 3 rfl ?_
                        refine g_iload ok d_Mo_flat_140 5 rfl ?_
                        refine g_iadd ok d_Mo_flat_142 ?_
                        refine h_iald ok _ a_247 (by omega) d_Mo_flat_143 ?_
                        refine g_aload_n ok d_Mo_flat_144 rfl 0 rfl ?_
                        refine gI_Mo_cy ok _ rfl k_995 d_Mo_flat_145 ?_
                        refine g_iload_n ok d_Mo_flat_148 rfl 3 rfl ?_
                        refine g_iload ok d_Mo_flat_149 5 rfl ?_
                        refine g_iadd ok d_Mo_flat_151 ?_
                        refine h_iald ok _ a_248 (by omega) d_Mo_flat_152 ?_
                        refine g_callPS (As := [.int (iI (G 247 (960 + (24 * r)))), .int (iI (G 248 (960 + (24 * r)))), .int (iI (G 247 ((960 + (24 * r)) + k))), .int (iI (G 248 ((960 + (24 * r)) + k))), .int (iI (G 247 ((960 + (24 * r)) + i))), .int (iI (G 248 ((960 + (24 * r)) + i)))]) (st := []) ok (c_Mo_turn F G _ _ _ _ _ _ s0 a0 D t ad) k_1130 k_11 k_1128 k_1129 q_Mo_turn (by decide) (Nat.le_of_ble_eq_true rfl) (by decide) d_Mo_flat_153 (fun z9 hc9 => ?_)
                        subst hc9
                        refine g_top (y := fT G r k i) rfl ?_
                        have htr : -720000 ≤ fT G r k i ∧ fT G r k i ≤ 720000 := eTurn_rng p0.1 p0.2 pk.1 pk.2 pi.1 pi.2
                        refine g_if_eq ok 162 d_Mo_flat_156 (by decide) (by omega) (fun h10 => ?_) (fun h10 => ?_)
                        · refine g_iinc (lv' := [(6, .int (iI (k + 1))), (0, .ref (ad 244)), (1, .int (iI r)), (2, .int (iI (G 246 (40 + r)))), (3, .int (iI (960 + (24 * r)))), (4, .int (iI ln)), (5, .int (iI i))]) ok d_Mo_flat_162 6 rfl (by decide) rfl ?_
                          refine g_goto ok 98 d_Mo_flat_165 (by decide) ?_
                          refine g_lv [1, 2, 3, 4, 5, 6, 0] rfl ?_
                          exact ih_k ln (k + 1) (by omega) (mLine_step hlk (by omega)) (by omega)
                        · refine g_iconst ok d_Mo_flat_159 ?_
                          refine g_istore (lv' := [(4, .int (iI 0)), (0, .ref (ad 244)), (1, .int (iI r)), (2, .int (iI (G 246 (40 + r)))), (3, .int (iI (960 + (24 * r)))), (5, .int (iI i)), (6, .int (iI k))]) ok d_Mo_flat_160 (by decide) rfl ?_
                          refine g_iinc (lv' := [(6, .int (iI (k + 1))), (4, .int (iI 0)), (0, .ref (ad 244)), (1, .int (iI r)), (2, .int (iI (G 246 (40 + r)))), (3, .int (iI (960 + (24 * r)))), (5, .int (iI i))]) ok d_Mo_flat_162 6 rfl (by decide) rfl ?_
                          refine g_goto ok 98 d_Mo_flat_165 (by decide) ?_
                          refine g_lv [2, 3, 4, 5, 1, 6, 0] rfl ?_
                          exact ih_k 0 (k + 1) (by omega) (mLine_no (by omega) (by omega)) (by omega)
                  refine g_lv [1, 2, 3, 4, 5, 6, 0] rfl ?_
                  exact L_k ((i + 1 - 0 : Int).toNat + 1) ln 0 (by omega) (hln) (by omega)
            refine g_lv [4, 5, 3, 2, 1, 0] rfl ?_
            exact L_i ((G 246 (40 + r) + 1 - 0 : Int).toNat + 1) 1 0 (by omega) (⟨Or.inr rfl, fun _ a b h1 h2 h3 => by omega, fun _ => rfl⟩) (by omega)
      refine g_lv [1, 0] rfl ?_
      exact L_r ((5 - 0 : Int).toNat + 1) 0 (by omega) (by omega) (by omega) (fun q q1 q2 => by omega) (by omega)
    · refine g_iconst ok d_Mo_flat_55 ?_
      exact g_zpret ok d_Mo_flat_56 (by first | exact Or.inl rfl | exact Or.inr rfl) ⟨by decide, ⟨fun _ => by unfold mFlat; rw [if_neg (by omega)]; exact Or.inl (by omega), fun _ => rfl⟩⟩
  · refine g_aload_n ok d_Mo_flat_11 rfl 0 rfl ?_
    refine gI_Mo_corners ok _ rfl k_993 d_Mo_flat_12 ?_
    refine g_bipush ok (by decide) d_Mo_flat_15 ?_
    refine h_iald ok _ a_246 (by omega) d_Mo_flat_17 ?_
    refine g_aload_n ok d_Mo_flat_18 rfl 0 rfl ?_
    refine gI_Mo_corners ok _ rfl k_993 d_Mo_flat_19 ?_
    refine g_bipush ok (by decide) d_Mo_flat_22 ?_
    refine h_iald ok _ a_246 (by omega) d_Mo_flat_24 ?_
    refine g_icmp_ne ok 39 d_Mo_flat_25 (by decide) (by omega) (by omega) (fun h11 => ?_) (fun h11 => ?_)
    · refine g_iconst ok d_Mo_flat_39 ?_
      refine g_goto ok 44 d_Mo_flat_40 (by decide) ?_
      exact g_zpret ok d_Mo_flat_44 (by first | exact Or.inl rfl | exact Or.inr rfl) ⟨by decide, ⟨fun _ => by unfold mFlat; rw [if_pos (by omega)]; omega, fun _ => rfl⟩⟩
    · refine g_aload_n ok d_Mo_flat_28 rfl 0 rfl ?_
      refine gI_Mo_corners ok _ rfl k_993 d_Mo_flat_29 ?_
      refine g_bipush ok (by decide) d_Mo_flat_32 ?_
      refine h_iald ok _ a_246 (by omega) d_Mo_flat_34 ?_
      refine g_iconst ok d_Mo_flat_35 ?_
      refine g_icmp_ge ok 43 d_Mo_flat_36 (by decide) (by omega) (by omega) (fun h12 => ?_) (fun h12 => ?_)
      · refine g_iconst ok d_Mo_flat_43 ?_
        exact g_zpret ok d_Mo_flat_44 (by first | exact Or.inl rfl | exact Or.inr rfl) ⟨by decide, ⟨fun q => by omega, fun q => by unfold mFlat at q; rw [if_pos (by omega)] at q; omega⟩⟩
      · refine g_iconst ok d_Mo_flat_39 ?_
        refine g_goto ok 44 d_Mo_flat_40 (by decide) ?_
        exact g_zpret ok d_Mo_flat_44 (by first | exact Or.inl rfl | exact Or.inr rfl) ⟨by decide, ⟨fun _ => by unfold mFlat; rw [if_pos (by omega)]; omega, fun _ => rfl⟩⟩
