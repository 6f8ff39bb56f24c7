/-- stops among the first n records; the thread behind s stops in them -/
def stN (K : Int → Int) : Nat → Int
  | 0 => 0
  | n + 1 => stN K n + if K (n : Int) = 3 then 1 else 0
noncomputable def thN (X Y K : Int → Int) (s : Int) : Nat → Int
  | 0 => 0
  | n + 1 => thN X Y K s n + if K (n : Int) = 0 ∧ stN K n = s then rootU (X (n : Int) * X (n : Int) + Y (n : Int) * Y (n : Int)) else 0
theorem stN_step {K : Int → Int} {i : Int} (h : 0 ≤ i) : stN K (i + 1).toNat = stN K i.toNat + if K i = 3 then 1 else 0 := by
  have q : (i + 1).toNat = i.toNat + 1 := by omega
  rw [q]
  show stN K i.toNat + (if K ((i.toNat : Nat) : Int) = 3 then 1 else 0) = _
  rw [Int.toNat_of_nonneg h]
theorem thN_step {X Y K : Int → Int} {s i : Int} (h : 0 ≤ i) : thN X Y K s (i + 1).toNat = thN X Y K s i.toNat + if K i = 0 ∧ stN K i.toNat = s then rootU (X i * X i + Y i * Y i) else 0 := by
  have q : (i + 1).toNat = i.toNat + 1 := by omega
  rw [q]
  show thN X Y K s i.toNat + (if K ((i.toNat : Nat) : Int) = 0 ∧ stN K i.toNat = s then rootU (X ((i.toNat : Nat) : Int) * X ((i.toNat : Nat) : Int) + Y ((i.toNat : Nat) : Int) * Y ((i.toNat : Nat) : Int)) else 0) = _
  rw [Int.toNat_of_nonneg h]
theorem cX_rng (G : Nat → Int → Int) (i : Int) : -128 ≤ cX G i ∧ cX G i < 128 := by unfold cX; omega
theorem cY_rng (G : Nat → Int → Int) (i : Int) : -128 ≤ cY G i ∧ cY G i < 128 := by unfold cY; omega
theorem d_Pa_threadBehind_0 : decode b_Pa_threadBehind 0 = .ok (.iconst 0, 1) := by decide +kernel
theorem d_Pa_threadBehind_1 : decode b_Pa_threadBehind 1 = .ok (.istore_n 2, 1) := by decide +kernel
theorem d_Pa_threadBehind_2 : decode b_Pa_threadBehind 2 = .ok (.iconst 0, 1) := by decide +kernel
theorem d_Pa_threadBehind_3 : decode b_Pa_threadBehind 3 = .ok (.istore_n 3, 1) := by decide +kernel
theorem d_Pa_threadBehind_4 : decode b_Pa_threadBehind 4 = .ok (.iconst 0, 1) := by decide +kernel
theorem d_Pa_threadBehind_5 : decode b_Pa_threadBehind 5 = .ok (.istore 4, 2) := by decide +kernel
theorem d_Pa_threadBehind_7 : decode b_Pa_threadBehind 7 = .ok (.iload 4, 2) := by decide +kernel
theorem d_Pa_threadBehind_9 : decode b_Pa_threadBehind 9 = .ok (.aload_n 0, 1) := by decide +kernel
theorem d_Pa_threadBehind_10 : decode b_Pa_threadBehind 10 = .ok (.getfield 15, 3) := by decide +kernel
theorem d_Pa_threadBehind_13 : decode b_Pa_threadBehind 13 = .ok (.if_icmp .ge 57, 3) := by decide +kernel
theorem d_Pa_threadBehind_16 : decode b_Pa_threadBehind 16 = .ok (.aload_n 0, 1) := by decide +kernel
theorem d_Pa_threadBehind_17 : decode b_Pa_threadBehind 17 = .ok (.iload 4, 2) := by decide +kernel
theorem d_Pa_threadBehind_19 : decode b_Pa_threadBehind 19 = .ok (.invokevirtual 23, 3) := by decide +kernel
theorem d_Pa_threadBehind_22 : decode b_Pa_threadBehind 22 = .ok (.iconst 3, 1) := by decide +kernel
theorem d_Pa_threadBehind_23 : decode b_Pa_threadBehind 23 = .ok (.if_icmp .ne 9, 3) := by decide +kernel
theorem d_Pa_threadBehind_26 : decode b_Pa_threadBehind 26 = .ok (.iinc 2 1, 3) := by decide +kernel
theorem d_Pa_threadBehind_29 : decode b_Pa_threadBehind 29 = .ok (.goto 35, 3) := by decide +kernel
theorem d_Pa_threadBehind_32 : decode b_Pa_threadBehind 32 = .ok (.aload_n 0, 1) := by decide +kernel
theorem d_Pa_threadBehind_33 : decode b_Pa_threadBehind 33 = .ok (.iload 4, 2) := by decide +kernel
theorem d_Pa_threadBehind_35 : decode b_Pa_threadBehind 35 = .ok (.invokevirtual 23, 3) := by decide +kernel
theorem d_Pa_threadBehind_38 : decode b_Pa_threadBehind 38 = .ok (.ifCond .ne 26, 3) := by decide +kernel
theorem d_Pa_threadBehind_41 : decode b_Pa_threadBehind 41 = .ok (.iload_n 2, 1) := by decide +kernel
theorem d_Pa_threadBehind_42 : decode b_Pa_threadBehind 42 = .ok (.iload_n 1, 1) := by decide +kernel
theorem d_Pa_threadBehind_43 : decode b_Pa_threadBehind 43 = .ok (.if_icmp .ne 21, 3) := by decide +kernel
theorem d_Pa_threadBehind_46 : decode b_Pa_threadBehind 46 = .ok (.iload_n 3, 1) := by decide +kernel
theorem d_Pa_threadBehind_47 : decode b_Pa_threadBehind 47 = .ok (.aload_n 0, 1) := by decide +kernel
theorem d_Pa_threadBehind_48 : decode b_Pa_threadBehind 48 = .ok (.iload 4, 2) := by decide +kernel
theorem d_Pa_threadBehind_50 : decode b_Pa_threadBehind 50 = .ok (.invokevirtual 33, 3) := by decide +kernel
theorem d_Pa_threadBehind_53 : decode b_Pa_threadBehind 53 = .ok (.aload_n 0, 1) := by decide +kernel
theorem d_Pa_threadBehind_54 : decode b_Pa_threadBehind 54 = .ok (.iload 4, 2) := by decide +kernel
theorem d_Pa_threadBehind_56 : decode b_Pa_threadBehind 56 = .ok (.invokevirtual 27, 3) := by decide +kernel
theorem d_Pa_threadBehind_59 : decode b_Pa_threadBehind 59 = .ok (.invokestatic 44, 3) := by decide +kernel
theorem d_Pa_threadBehind_62 : decode b_Pa_threadBehind 62 = .ok (.iadd, 1) := by decide +kernel
theorem d_Pa_threadBehind_63 : decode b_Pa_threadBehind 63 = .ok (.istore_n 3, 1) := by decide +kernel
theorem d_Pa_threadBehind_64 : decode b_Pa_threadBehind 64 = .ok (.iinc 4 1, 3) := by decide +kernel
theorem d_Pa_threadBehind_67 : decode b_Pa_threadBehind 67 = .ok (.goto (-60), 3) := by decide +kernel
theorem d_Pa_threadBehind_70 : decode b_Pa_threadBehind 70 = .ok (.iload_n 3, 1) := by decide +kernel
theorem d_Pa_threadBehind_71 : decode b_Pa_threadBehind 71 = .ok (.ireturn, 1) := by decide +kernel
set_option maxHeartbeats 1000000 in
set_option maxRecDepth 100000 in
theorem c_Pa_threadBehind (F : Nat → Nat → Int) (G : Nat → Int → Int) (n : Int) (hn : -2147483648 ≤ n ∧ n < 2147483648) (hp : pOk F G) : cP y_Pa_threadBehind b_Pa_threadBehind 5 (some .int) 2 45 F G (fun ad => [.ref (ad 236), .int (iI n)]) (fun z => z = thN (cX G) (cY G) (cK G) n (F 236 1).toNat) := by
  obtain ⟨hs, hC⟩ := hp
  intro s0 a0 D t ad
  refine g_startP (by decide +kernel) (Nat.le_of_ble_eq_true rfl) (fun p l e R s m args below meth c A ok => ?_)
  show gW p l e R s m args below meth c _ D A 5 (gZ0 s) 0 0 ad 265 (mem ad t F G) 0 [(0, .ref (ad 236)), (1, .int (iI n))] []
  refine g_iconst ok d_Pa_threadBehind_0 ?_
  refine g_istore_n (lv' := [(2, .int (iI 0)), (0, .ref (ad 236)), (1, .int (iI n))]) ok d_Pa_threadBehind_1 rfl (by decide) rfl ?_
  refine g_iconst ok d_Pa_threadBehind_2 ?_
  refine g_istore_n (lv' := [(3, .int (iI 0)), (2, .int (iI 0)), (0, .ref (ad 236)), (1, .int (iI n))]) ok d_Pa_threadBehind_3 rfl (by decide) rfl ?_
  refine g_iconst ok d_Pa_threadBehind_4 ?_
  refine g_istore (lv' := [(4, .int (iI 0)), (3, .int (iI 0)), (2, .int (iI 0)), (0, .ref (ad 236)), (1, .int (iI n))]) ok d_Pa_threadBehind_5 (by decide) rfl ?_
  have L_i : ∀ (n_i : Nat) (ps : Int) (tt : Int) (i : Int), (0 ≤ i ∧ i ≤ F 236 1) → ((0 ≤ ps ∧ ps ≤ i) ∧ (0 ≤ tt ∧ tt ≤ 200 * i)) → (ps = stN (cK G) i.toNat) → (tt = thN (cX G) (cY G) (cK G) n i.toNat) → (F 236 1 + 1 - i) < (n_i : Int) → gW p l e R s m args below meth c (MQ below (gQp (fun z => z = thN (cX G) (cY G) (cK G) n (F 236 1).toNat)) args s 0 0 (fun _ => False)) D A 5 (gZ0 s) 0 0 ad 265 (mem ad t F G) 7 [(0, .ref (ad 236)), (1, .int (iI n)), (2, .int (iI ps)), (3, .int (iI tt)), (4, .int (iI i))] [] := by
    intro n_i
    induction n_i with
    | zero =>
      intro ps tt i hi hb hps htt hm_i
      exact absurd hm_i (by omega)
    | succ n_i ih_i =>
      intro ps tt i hi hb hps htt hm_i
      refine g_iload ok d_Pa_threadBehind_7 4 rfl ?_
      refine g_aload_n ok d_Pa_threadBehind_9 rfl 0 rfl ?_
      refine gI_Pa_size ok _ rfl k_257 d_Pa_threadBehind_10 ?_
      refine g_icmp_ge ok 70 d_Pa_threadBehind_13 (by decide) (by omega) (by omega) (fun h1 => ?_) (fun h1 => ?_)
      · refine g_iload_n ok d_Pa_threadBehind_70 rfl 3 rfl ?_
        exact g_ipret ok d_Pa_threadBehind_71 (by rw [htt, show i.toNat = (F 236 1).toNat by omega])
      · have hci := hC i (by omega) (by omega)
        have hk : 0 ≤ cK G i ∧ cK G i < 4 := by unfold cK; omega
        have sx := sq_rng (cX_rng G i)
        have sy := sq_rng (cY_rng G i)
        refine g_aload_n ok d_Pa_threadBehind_16 rfl 0 rfl ?_
        refine g_iload ok d_Pa_threadBehind_17 4 rfl ?_
        refine g_callPV (As := [.int (iI i)]) (st := []) ok _ (c_Pa_kind F G _ (by omega) (hC _ (by omega) (by omega)) s0 a0 D t ad) k_627 k_9 k_624 cl_Pa (m_Pa (ad := ad) (t := t) (F := F) (G := G) rfl).1 (m_Pa rfl).2 k_626 s_Pa_kind q_Pa_kind (by decide) (Nat.le_of_ble_eq_true rfl) (by decide) d_Pa_threadBehind_19 (fun z2 hc2 => ?_)
        subst hc2
        refine g_top (y := cK G i) rfl ?_
        refine g_iconst ok d_Pa_threadBehind_22 ?_
        refine g_icmp_ne ok 32 d_Pa_threadBehind_23 (by decide) (by omega) (by omega) (fun h3 => ?_) (fun h3 => ?_)
        · refine g_aload_n ok d_Pa_threadBehind_32 rfl 0 rfl ?_
          refine g_iload ok d_Pa_threadBehind_33 4 rfl ?_
          refine g_callPV (As := [.int (iI i)]) (st := []) ok _ (c_Pa_kind F G _ (by omega) (hC _ (by omega) (by omega)) s0 a0 D t ad) k_627 k_9 k_624 cl_Pa (m_Pa (ad := ad) (t := t) (F := F) (G := G) rfl).1 (m_Pa rfl).2 k_626 s_Pa_kind q_Pa_kind (by decide) (Nat.le_of_ble_eq_true rfl) (by decide) d_Pa_threadBehind_35 (fun z4 hc4 => ?_)
          subst hc4
          refine g_top (y := cK G i) rfl ?_
          refine g_if_ne ok 64 d_Pa_threadBehind_38 (by decide) (by omega) (fun h5 => ?_) (fun h5 => ?_)
          · refine g_iinc (lv' := [(4, .int (iI (i + 1))), (0, .ref (ad 236)), (1, .int (iI n)), (2, .int (iI ps)), (3, .int (iI tt))]) ok d_Pa_threadBehind_64 4 rfl (by decide) rfl ?_
            refine g_goto ok 7 d_Pa_threadBehind_67 (by decide) ?_
            refine g_lv [1, 2, 3, 4, 0] rfl ?_
            exact ih_i ps tt (i + 1) (by omega) (by omega) (by rw [stN_step hi.1, ← hps]; split <;> omega) (by rw [thN_step hi.1, ← hps, ← htt]; split <;> omega) (by omega)
          · refine g_iload_n ok d_Pa_threadBehind_41 rfl 2 rfl ?_
            refine g_iload_n ok d_Pa_threadBehind_42 rfl 1 rfl ?_
            refine g_icmp_ne ok 64 d_Pa_threadBehind_43 (by decide) (by omega) (by omega) (fun h6 => ?_) (fun h6 => ?_)
            · refine g_iinc (lv' := [(4, .int (iI (i + 1))), (0, .ref (ad 236)), (1, .int (iI n)), (2, .int (iI ps)), (3, .int (iI tt))]) ok d_Pa_threadBehind_64 4 rfl (by decide) rfl ?_
              refine g_goto ok 7 d_Pa_threadBehind_67 (by decide) ?_
              refine g_lv [1, 2, 3, 4, 0] rfl ?_
              exact ih_i ps tt (i + 1) (by omega) (by omega) (by rw [stN_step hi.1, ← hps]; split <;> omega) (by rw [thN_step hi.1, ← hps, ← htt]; split <;> omega) (by omega)
            · refine g_iload_n ok d_Pa_threadBehind_46 rfl 3 rfl ?_
              refine g_aload_n ok d_Pa_threadBehind_47 rfl 0 rfl ?_
              refine g_iload ok d_Pa_threadBehind_48 4 rfl ?_
              refine g_callPV (As := [.int (iI i)]) (st := [.int (iI tt)]) ok _ (c_Pa_dx F G _ (by omega) (hC _ (by omega) (by omega)) s0 a0 D t ad) k_631 k_9 k_628 cl_Pa (m_Pa (ad := ad) (t := t) (F := F) (G := G) rfl).1 (m_Pa rfl).2 k_630 s_Pa_dx q_Pa_dx (by decide) (Nat.le_of_ble_eq_true rfl) (by decide) d_Pa_threadBehind_50 (fun z7 hc7 => ?_)
              subst hc7
              refine g_top (y := cX G i) rfl ?_
              refine g_aload_n ok d_Pa_threadBehind_53 rfl 0 rfl ?_
              refine g_iload ok d_Pa_threadBehind_54 4 rfl ?_
              refine g_callPV (As := [.int (iI i)]) (st := [.int (iI (cX G i)), .int (iI tt)]) ok _ (c_Pa_dy F G _ (by omega) (hC _ (by omega) (by omega)) s0 a0 D t ad) k_635 k_9 k_632 cl_Pa (m_Pa (ad := ad) (t := t) (F := F) (G := G) rfl).1 (m_Pa rfl).2 k_634 s_Pa_dy q_Pa_dy (by decide) (Nat.le_of_ble_eq_true rfl) (by decide) d_Pa_threadBehind_56 (fun z8 hc8 => ?_)
              subst hc8
              refine g_top (y := cY G i) rfl ?_
              refine g_callPS (As := [.int (iI (cX G i)), .int (iI (cY G i))]) (st := [.int (iI tt)]) ok (c_Pa_rootUp F G _ _ (cX_rng G i) (cY_rng G i) s0 a0 D t ad) k_638 k_9 k_636 k_637 q_Pa_rootUp (by decide) (Nat.le_of_ble_eq_true rfl) (by decide) d_Pa_threadBehind_59 (fun z9 hc9 => ?_)
              have hrl := root_le hc9 (by omega)
              have hr0 := hc9.1
              have hrt := rootU_of hc9
              refine g_iadd ok d_Pa_threadBehind_62 ?_
              refine g_istore_n (lv' := [(3, .int (iI (tt + z9))), (0, .ref (ad 236)), (1, .int (iI n)), (2, .int (iI ps)), (4, .int (iI i))]) ok d_Pa_threadBehind_63 rfl (by decide) rfl ?_
              refine g_iinc (lv' := [(4, .int (iI (i + 1))), (3, .int (iI (tt + z9))), (0, .ref (ad 236)), (1, .int (iI n)), (2, .int (iI ps))]) ok d_Pa_threadBehind_64 4 rfl (by decide) rfl ?_
              refine g_goto ok 7 d_Pa_threadBehind_67 (by decide) ?_
              refine g_lv [2, 3, 4, 1, 0] rfl ?_
              exact ih_i ps (tt + z9) (i + 1) (by omega) (by omega) (by rw [stN_step hi.1, ← hps]; split <;> omega) (by rw [thN_step hi.1, ← hps, ← htt]; split <;> omega) (by omega)
        · refine g_iinc (lv' := [(2, .int (iI (ps + 1))), (0, .ref (ad 236)), (1, .int (iI n)), (3, .int (iI tt)), (4, .int (iI i))]) ok d_Pa_threadBehind_26 2 rfl (by decide) rfl ?_
          refine g_goto ok 64 d_Pa_threadBehind_29 (by decide) ?_
          refine g_iinc (lv' := [(4, .int (iI (i + 1))), (2, .int (iI (ps + 1))), (0, .ref (ad 236)), (1, .int (iI n)), (3, .int (iI tt))]) ok d_Pa_threadBehind_64 4 rfl (by decide) rfl ?_
          refine g_goto ok 7 d_Pa_threadBehind_67 (by decide) ?_
          refine g_lv [2, 3, 1, 4, 0] rfl ?_
          exact ih_i (ps + 1) tt (i + 1) (by omega) (by omega) (by rw [stN_step hi.1, ← hps]; split <;> omega) (by rw [thN_step hi.1, ← hps, ← htt]; split <;> omega) (by omega)
  refine g_lv [3, 4, 2, 1, 0] rfl ?_
  exact L_i ((F 236 1 + 1 - 0 : Int).toNat + 1) 0 0 0 (by omega) (by omega) (rfl) (rfl) (by omega)
theorem d_Dk_thread_0 : decode b_Dk_thread 0 = .ok (.aload_n 0, 1) := by decide +kernel
theorem d_Dk_thread_1 : decode b_Dk_thread 1 = .ok (.getfield 48, 3) := by decide +kernel
theorem d_Dk_thread_4 : decode b_Dk_thread 4 = .ok (.iload_n 1, 1) := by decide +kernel
theorem d_Dk_thread_5 : decode b_Dk_thread 5 = .ok (.invokevirtual 241, 3) := by decide +kernel
theorem d_Dk_thread_8 : decode b_Dk_thread 8 = .ok (.ireturn, 1) := by decide +kernel
set_option maxHeartbeats 1000000 in
set_option maxRecDepth 100000 in
theorem c_Dk_thread (F : Nat → Nat → Int) (G : Nat → Int → Int) (n : Int) (hn : -2147483648 ≤ n ∧ n < 2147483648) (hp : pOk F G) : cP y_Dk_thread b_Dk_thread 2 (some .int) 3 69 F G (fun ad => [.ref (ad 0), .int (iI n)]) (fun z => z = thN (cX G) (cY G) (cK G) n (F 236 1).toNat) := by
  intro s0 a0 D t ad
  refine g_startP (by decide +kernel) (Nat.le_of_ble_eq_true rfl) (fun p l e R s m args below meth c A ok => ?_)
  show gW p l e R s m args below meth c _ D A 2 (gZ0 s) 0 0 ad 265 (mem ad t F G) 0 [(0, .ref (ad 0)), (1, .int (iI n))] []
  refine g_aload_n ok d_Dk_thread_0 rfl 0 rfl ?_
  refine gI_Dk_path ok _ rfl k_322 d_Dk_thread_1 ?_
  refine g_iload_n ok d_Dk_thread_4 rfl 1 rfl ?_
  refine g_callPVN (As := [.int (iI n)]) (st := []) ok _ (c_Pa_threadBehind F G _ hn hp s0 a0 D t ad) k_623 k_9 k_620 cl_Pa (m_Pa (ad := ad) (t := t) (F := F) (G := G) rfl).1 (m_Pa rfl).2 k_622 s_Pa_threadBehind q_Pa_threadBehind (by decide) (Nat.le_of_ble_eq_true rfl) (by decide) d_Dk_thread_5 (fun z1 hc1 => ?_)
  exact g_ipret ok d_Dk_thread_8 hc1
def mRec (F : Nat → Nat → Int) (G : Nat → Int → Int) : Prop := (0 ≤ F 244 20 ∧ F 244 20 ≤ 4000) ∧ ∀ a : Int, 0 ≤ a → a < F 244 20 → (-121 ≤ G 258 a ∧ G 258 a ≤ 121) ∧ (-121 ≤ G 259 a ∧ G 259 a ≤ 121) ∧ (0 ≤ G 260 a ∧ G 260 a < 4)
theorem d_Mo_thread_0 : decode b_Mo_thread 0 = .ok (.aload_n 0, 1) := by decide +kernel
theorem d_Mo_thread_1 : decode b_Mo_thread 1 = .ok (.iconst 0, 1) := by decide +kernel
theorem d_Mo_thread_2 : decode b_Mo_thread 2 = .ok (.putfield 7, 3) := by decide +kernel
theorem d_Mo_thread_5 : decode b_Mo_thread 5 = .ok (.iconst 0, 1) := by decide +kernel
theorem d_Mo_thread_6 : decode b_Mo_thread 6 = .ok (.istore_n 2, 1) := by decide +kernel
theorem d_Mo_thread_7 : decode b_Mo_thread 7 = .ok (.iconst 0, 1) := by decide +kernel
theorem d_Mo_thread_8 : decode b_Mo_thread 8 = .ok (.istore_n 3, 1) := by decide +kernel
theorem d_Mo_thread_9 : decode b_Mo_thread 9 = .ok (.iconst 0, 1) := by decide +kernel
theorem d_Mo_thread_10 : decode b_Mo_thread 10 = .ok (.istore 4, 2) := by decide +kernel
theorem d_Mo_thread_12 : decode b_Mo_thread 12 = .ok (.iload 4, 2) := by decide +kernel
theorem d_Mo_thread_14 : decode b_Mo_thread 14 = .ok (.aload_n 0, 1) := by decide +kernel
theorem d_Mo_thread_15 : decode b_Mo_thread 15 = .ok (.getfield 73, 3) := by decide +kernel
theorem d_Mo_thread_18 : decode b_Mo_thread 18 = .ok (.if_icmp .ge 75, 3) := by decide +kernel
theorem d_Mo_thread_21 : decode b_Mo_thread 21 = .ok (.aload_n 0, 1) := by decide +kernel
theorem d_Mo_thread_22 : decode b_Mo_thread 22 = .ok (.getfield 82, 3) := by decide +kernel
theorem d_Mo_thread_25 : decode b_Mo_thread 25 = .ok (.iload 4, 2) := by decide +kernel
theorem d_Mo_thread_27 : decode b_Mo_thread 27 = .ok (.iaload, 1) := by decide +kernel
theorem d_Mo_thread_28 : decode b_Mo_thread 28 = .ok (.iconst 3, 1) := by decide +kernel
theorem d_Mo_thread_29 : decode b_Mo_thread 29 = .ok (.if_icmp .ne 6, 3) := by decide +kernel
theorem d_Mo_thread_32 : decode b_Mo_thread 32 = .ok (.iinc 2 1, 3) := by decide +kernel
theorem d_Mo_thread_35 : decode b_Mo_thread 35 = .ok (.aload_n 0, 1) := by decide +kernel
theorem d_Mo_thread_36 : decode b_Mo_thread 36 = .ok (.getfield 82, 3) := by decide +kernel
theorem d_Mo_thread_39 : decode b_Mo_thread 39 = .ok (.iload 4, 2) := by decide +kernel
theorem d_Mo_thread_41 : decode b_Mo_thread 41 = .ok (.iaload, 1) := by decide +kernel
theorem d_Mo_thread_42 : decode b_Mo_thread 42 = .ok (.ifCond .ne 45, 3) := by decide +kernel
theorem d_Mo_thread_45 : decode b_Mo_thread 45 = .ok (.iload_n 2, 1) := by decide +kernel
theorem d_Mo_thread_46 : decode b_Mo_thread 46 = .ok (.iload_n 1, 1) := by decide +kernel
theorem d_Mo_thread_47 : decode b_Mo_thread 47 = .ok (.if_icmp .ne 40, 3) := by decide +kernel
theorem d_Mo_thread_50 : decode b_Mo_thread 50 = .ok (.iload_n 3, 1) := by decide +kernel
theorem d_Mo_thread_51 : decode b_Mo_thread 51 = .ok (.aload_n 0, 1) := by decide +kernel
theorem d_Mo_thread_52 : decode b_Mo_thread 52 = .ok (.getfield 76, 3) := by decide +kernel
theorem d_Mo_thread_55 : decode b_Mo_thread 55 = .ok (.iload 4, 2) := by decide +kernel
theorem d_Mo_thread_57 : decode b_Mo_thread 57 = .ok (.iaload, 1) := by decide +kernel
theorem d_Mo_thread_58 : decode b_Mo_thread 58 = .ok (.aload_n 0, 1) := by decide +kernel
theorem d_Mo_thread_59 : decode b_Mo_thread 59 = .ok (.getfield 76, 3) := by decide +kernel
theorem d_Mo_thread_62 : decode b_Mo_thread 62 = .ok (.iload 4, 2) := by decide +kernel
theorem d_Mo_thread_64 : decode b_Mo_thread 64 = .ok (.iaload, 1) := by decide +kernel
theorem d_Mo_thread_65 : decode b_Mo_thread 65 = .ok (.imul, 1) := by decide +kernel
theorem d_Mo_thread_66 : decode b_Mo_thread 66 = .ok (.aload_n 0, 1) := by decide +kernel
theorem d_Mo_thread_67 : decode b_Mo_thread 67 = .ok (.getfield 79, 3) := by decide +kernel
theorem d_Mo_thread_70 : decode b_Mo_thread 70 = .ok (.iload 4, 2) := by decide +kernel
theorem d_Mo_thread_72 : decode b_Mo_thread 72 = .ok (.iaload, 1) := by decide +kernel
theorem d_Mo_thread_73 : decode b_Mo_thread 73 = .ok (.aload_n 0, 1) := by decide +kernel
theorem d_Mo_thread_74 : decode b_Mo_thread 74 = .ok (.getfield 79, 3) := by decide +kernel
theorem d_Mo_thread_77 : decode b_Mo_thread 77 = .ok (.iload 4, 2) := by decide +kernel
theorem d_Mo_thread_79 : decode b_Mo_thread 79 = .ok (.iaload, 1) := by decide +kernel
theorem d_Mo_thread_80 : decode b_Mo_thread 80 = .ok (.imul, 1) := by decide +kernel
theorem d_Mo_thread_81 : decode b_Mo_thread 81 = .ok (.iadd, 1) := by decide +kernel
theorem d_Mo_thread_82 : decode b_Mo_thread 82 = .ok (.invokestatic 246, 3) := by decide +kernel
theorem d_Mo_thread_85 : decode b_Mo_thread 85 = .ok (.iadd, 1) := by decide +kernel
theorem d_Mo_thread_86 : decode b_Mo_thread 86 = .ok (.istore_n 3, 1) := by decide +kernel
theorem d_Mo_thread_87 : decode b_Mo_thread 87 = .ok (.iinc 4 1, 3) := by decide +kernel
theorem d_Mo_thread_90 : decode b_Mo_thread 90 = .ok (.goto (-78), 3) := by decide +kernel
theorem d_Mo_thread_93 : decode b_Mo_thread 93 = .ok (.iload_n 3, 1) := by decide +kernel
theorem d_Mo_thread_94 : decode b_Mo_thread 94 = .ok (.ireturn, 1) := by decide +kernel
set_option maxHeartbeats 1000000 in
set_option maxRecDepth 100000 in
theorem c_Mo_thread (F : Nat → Nat → Int) (G : Nat → Int → Int) (n : Int) (hn : -2147483648 ≤ n ∧ n < 2147483648) (hp : mRec F G) : cI y_Mo_thread b_Mo_thread 5 (some .int) 1 21 F G (fun ad => [.ref (ad 244), .int (iI n)]) (fun z F' G' => F' = fU F 244 0 0 ∧ G' = G ∧ z = thN (G 258) (G 259) (G 260) n (F 244 20).toNat) := by
  obtain ⟨hs, hC⟩ := hp
  intro s0 a0 D t ad
  refine g_startI (by decide +kernel) (Nat.le_of_ble_eq_true rfl) (fun p l e R s m args below meth c A ok => ?_)
  show gW p l e R s m args below meth c _ D A 5 (gZ0 s) 0 0 ad 265 (mem ad t F G) 0 [(0, .ref (ad 244)), (1, .int (iI n))] []
  refine g_aload_n ok d_Mo_thread_0 rfl 0 rfl ?_
  refine g_iconst ok d_Mo_thread_1 ?_
  refine pI_Mo_thrownCode ok _ rfl k_989 d_Mo_thread_2 ?_
  refine g_iconst ok d_Mo_thread_5 ?_
  refine g_istore_n (lv' := [(2, .int (iI 0)), (0, .ref (ad 244)), (1, .int (iI n))]) ok d_Mo_thread_6 rfl (by decide) rfl ?_
  refine g_iconst ok d_Mo_thread_7 ?_
  refine g_istore_n (lv' := [(3, .int (iI 0)), (2, .int (iI 0)), (0, .ref (ad 244)), (1, .int (iI n))]) ok d_Mo_thread_8 rfl (by decide) rfl ?_
  refine g_iconst ok d_Mo_thread_9 ?_
  refine g_istore (lv' := [(4, .int (iI 0)), (3, .int (iI 0)), (2, .int (iI 0)), (0, .ref (ad 244)), (1, .int (iI n))]) ok d_Mo_thread_10 (by decide) rfl ?_
  have L_i : ∀ (n_i : Nat) (ps : Int) (tt : Int) (i : Int), (0 ≤ i ∧ i ≤ F 244 20) → ((0 ≤ ps ∧ ps ≤ i) ∧ (0 ≤ tt ∧ tt ≤ 200 * i)) → (ps = stN (G 260) i.toNat) → (tt = thN (G 258) (G 259) (G 260) n i.toNat) → (F 244 20 + 1 - i) < (n_i : Int) → gW p l e R s m args below meth c (MQ below (gQi D A ad 265 (fun z ce' => ∃ F' G', ce' = mem ad t F' G' ∧ (fun z F' G' => F' = fU F 244 0 0 ∧ G' = G ∧ z = thN (G 258) (G 259) (G 260) n (F 244 20).toNat) z F' G')) args s 0 0 A) D A 5 (gZ) 0 0 ad 265 (mem ad t (fU F 244 0 0) G) 12 [(0, .ref (ad 244)), (1, .int (iI n)), (2, .int (iI ps)), (3, .int (iI tt)), (4, .int (iI i))] [] := by
    intro n_i
    induction n_i with
    | zero =>
      intro ps tt i hi hb hps htt hm_i
      exact absurd hm_i (by omega)
    | succ n_i ih_i =>
      intro ps tt i hi hb hps htt hm_i
      refine g_iload ok d_Mo_thread_12 4 rfl ?_
      refine g_aload_n ok d_Mo_thread_14 rfl 0 rfl ?_
      refine gI_Mo_records ok _ rfl k_1009 d_Mo_thread_15 ?_
      refine g_top (y := F 244 20) (by show (fU F 244 0 0) 244 20 = _; rw [fU_ja (show (20 : Nat) ≠ 0 by decide)]) ?_
      refine g_icmp_ge ok 93 d_Mo_thread_18 (by decide) (by omega) (by omega) (fun h1 => ?_) (fun h1 => ?_)
      · refine g_iload_n ok d_Mo_thread_93 rfl 3 rfl ?_
        exact g_iret ok d_Mo_thread_94 ⟨_, _, rfl, rfl, rfl, by rw [htt, show i.toNat = (F 244 20).toNat by omega]⟩
      · obtain ⟨hcx, hcy, hk⟩ := hC i (by omega) (by omega)
        have sx := sq_rng (a := G 258 i) (by omega)
        have sy := sq_rng (a := G 259 i) (by omega)
        refine g_aload_n ok d_Mo_thread_21 rfl 0 rfl ?_
        refine gI_Mo_kind ok _ rfl k_1012 d_Mo_thread_22 ?_
        refine g_iload ok d_Mo_thread_25 4 rfl ?_
        refine h_iald ok _ a_260 (by omega) d_Mo_thread_27 ?_
        refine g_iconst ok d_Mo_thread_28 ?_
        refine g_icmp_ne ok 35 d_Mo_thread_29 (by decide) (by omega) (by omega) (fun h2 => ?_) (fun h2 => ?_)
        · refine g_aload_n ok d_Mo_thread_35 rfl 0 rfl ?_
          refine gI_Mo_kind ok _ rfl k_1012 d_Mo_thread_36 ?_
          refine g_iload ok d_Mo_thread_39 4 rfl ?_
          refine h_iald ok _ a_260 (by omega) d_Mo_thread_41 ?_
          refine g_if_ne ok 87 d_Mo_thread_42 (by decide) (by omega) (fun h3 => ?_) (fun h3 => ?_)
          · refine g_iinc (lv' := [(4, .int (iI (i + 1))), (0, .ref (ad 244)), (1, .int (iI n)), (2, .int (iI ps)), (3, .int (iI tt))]) ok d_Mo_thread_87 4 rfl (by decide) rfl ?_
            refine g_goto ok 12 d_Mo_thread_90 (by decide) ?_
            refine g_lv [1, 2, 3, 4, 0] rfl ?_
            exact ih_i ps tt (i + 1) (by omega) (by omega) (by rw [stN_step hi.1, ← hps]; split <;> omega) (by rw [thN_step hi.1, ← hps, ← htt]; split <;> omega) (by omega)
          · refine g_iload_n ok d_Mo_thread_45 rfl 2 rfl ?_
            refine g_iload_n ok d_Mo_thread_46 rfl 1 rfl ?_
            refine g_icmp_ne ok 87 d_Mo_thread_47 (by decide) (by omega) (by omega) (fun h4 => ?_) (fun h4 => ?_)
            · refine g_iinc (lv' := [(4, .int (iI (i + 1))), (0, .ref (ad 244)), (1, .int (iI n)), (2, .int (iI ps)), (3, .int (iI tt))]) ok d_Mo_thread_87 4 rfl (by decide) rfl ?_
              refine g_goto ok 12 d_Mo_thread_90 (by decide) ?_
              refine g_lv [1, 2, 3, 4, 0] rfl ?_
              exact ih_i ps tt (i + 1) (by omega) (by omega) (by rw [stN_step hi.1, ← hps]; split <;> omega) (by rw [thN_step hi.1, ← hps, ← htt]; split <;> omega) (by omega)
            · refine g_iload_n ok d_Mo_thread_50 rfl 3 rfl ?_
              refine g_aload_n ok d_Mo_thread_51 rfl 0 rfl ?_
              refine gI_Mo_dx ok _ rfl k_1010 d_Mo_thread_52 ?_
              refine g_iload ok d_Mo_thread_55 4 rfl ?_
              refine h_iald ok _ a_258 (by omega) d_Mo_thread_57 ?_
              refine g_aload_n ok d_Mo_thread_58 rfl 0 rfl ?_
              refine gI_Mo_dx ok _ rfl k_1010 d_Mo_thread_59 ?_
              refine g_iload ok d_Mo_thread_62 4 rfl ?_
              refine h_iald ok _ a_258 (by omega) d_Mo_thread_64 ?_
              refine g_imul ok d_Mo_thread_65 ?_
              refine g_aload_n ok d_Mo_thread_66 rfl 0 rfl ?_
              refine gI_Mo_dy ok _ rfl k_1011 d_Mo_thread_67 ?_
              refine g_iload ok d_Mo_thread_70 4 rfl ?_
              refine h_iald ok _ a_259 (by omega) d_Mo_thread_72 ?_
              refine g_aload_n ok d_Mo_thread_73 rfl 0 rfl ?_
              refine gI_Mo_dy ok _ rfl k_1011 d_Mo_thread_74 ?_
              refine g_iload ok d_Mo_thread_77 4 rfl ?_
              refine h_iald ok _ a_259 (by omega) d_Mo_thread_79 ?_
              refine g_imul ok d_Mo_thread_80 ?_
              refine g_iadd ok d_Mo_thread_81 ?_
              refine g_callPS (As := [.int (iI (((G 258 i) * (G 258 i)) + ((G 259 i) * (G 259 i))))]) (st := [.int (iI tt)]) ok (c_Mo_rootUp (fU F 244 0 0) G _ (by omega) s0 a0 D t ad) k_1305 k_11 k_1303 k_1304 q_Mo_rootUp (by decide) (Nat.le_of_ble_eq_true rfl) (by decide) d_Mo_thread_82 (fun z5 hc5 => ?_)
              have hrl := root_le hc5 (by omega)
              have hr0 := hc5.1
              have hrt := rootU_of hc5
              refine g_iadd ok d_Mo_thread_85 ?_
              refine g_istore_n (lv' := [(3, .int (iI (tt + z5))), (0, .ref (ad 244)), (1, .int (iI n)), (2, .int (iI ps)), (4, .int (iI i))]) ok d_Mo_thread_86 rfl (by decide) rfl ?_
              refine g_iinc (lv' := [(4, .int (iI (i + 1))), (3, .int (iI (tt + z5))), (0, .ref (ad 244)), (1, .int (iI n)), (2, .int (iI ps))]) ok d_Mo_thread_87 4 rfl (by decide) rfl ?_
              refine g_goto ok 12 d_Mo_thread_90 (by decide) ?_
              refine g_lv [2, 3, 4, 1, 0] rfl ?_
              exact ih_i ps (tt + z5) (i + 1) (by omega) (by omega) (by rw [stN_step hi.1, ← hps]; split <;> omega) (by rw [thN_step hi.1, ← hps, ← htt]; split <;> omega) (by omega)
        · refine g_iinc (lv' := [(2, .int (iI (ps + 1))), (0, .ref (ad 244)), (1, .int (iI n)), (3, .int (iI tt)), (4, .int (iI i))]) ok d_Mo_thread_32 2 rfl (by decide) rfl ?_
          refine g_aload_n ok d_Mo_thread_35 rfl 1 rfl ?_
          refine gI_Mo_kind ok _ rfl k_1012 d_Mo_thread_36 ?_
          refine g_iload ok d_Mo_thread_39 4 rfl ?_
          refine h_iald ok _ a_260 (by omega) d_Mo_thread_41 ?_
          refine g_if_ne ok 87 d_Mo_thread_42 (by decide) (by omega) (fun h6 => ?_) (fun h6 => ?_)
          · refine g_iinc (lv' := [(4, .int (iI (i + 1))), (2, .int (iI (ps + 1))), (0, .ref (ad 244)), (1, .int (iI n)), (3, .int (iI tt))]) ok d_Mo_thread_87 4 rfl (by decide) rfl ?_
            refine g_goto ok 12 d_Mo_thread_90 (by decide) ?_
            refine g_lv [2, 3, 1, 4, 0] rfl ?_
            exact ih_i (ps + 1) tt (i + 1) (by omega) (by omega) (by rw [stN_step hi.1, ← hps]; split <;> omega) (by rw [thN_step hi.1, ← hps, ← htt]; split <;> omega) (by omega)
          · refine g_iload_n ok d_Mo_thread_45 rfl 0 rfl ?_
            refine g_iload_n ok d_Mo_thread_46 rfl 2 rfl ?_
            refine g_icmp_ne ok 87 d_Mo_thread_47 (by decide) (by omega) (by omega) (fun h7 => ?_) (fun h7 => ?_)
            · refine g_iinc (lv' := [(4, .int (iI (i + 1))), (2, .int (iI (ps + 1))), (0, .ref (ad 244)), (1, .int (iI n)), (3, .int (iI tt))]) ok d_Mo_thread_87 4 rfl (by decide) rfl ?_
              refine g_goto ok 12 d_Mo_thread_90 (by decide) ?_
              refine g_lv [2, 3, 1, 4, 0] rfl ?_
              exact ih_i (ps + 1) tt (i + 1) (by omega) (by omega) (by rw [stN_step hi.1, ← hps]; split <;> omega) (by rw [thN_step hi.1, ← hps, ← htt]; split <;> omega) (by omega)
            · refine g_iload_n ok d_Mo_thread_50 rfl 3 rfl ?_
              refine g_aload_n ok d_Mo_thread_51 rfl 1 rfl ?_
              refine gI_Mo_dx ok _ rfl k_1010 d_Mo_thread_52 ?_
              refine g_iload ok d_Mo_thread_55 4 rfl ?_
              refine h_iald ok _ a_258 (by omega) d_Mo_thread_57 ?_
              refine g_aload_n ok d_Mo_thread_58 rfl 1 rfl ?_
              refine gI_Mo_dx ok _ rfl k_1010 d_Mo_thread_59 ?_
              refine g_iload ok d_Mo_thread_62 4 rfl ?_
              refine h_iald ok _ a_258 (by omega) d_Mo_thread_64 ?_
              refine g_imul ok d_Mo_thread_65 ?_
              refine g_aload_n ok d_Mo_thread_66 rfl 1 rfl ?_
              refine gI_Mo_dy ok _ rfl k_1011 d_Mo_thread_67 ?_
              refine g_iload ok d_Mo_thread_70 4 rfl ?_
              refine h_iald ok _ a_259 (by omega) d_Mo_thread_72 ?_
              refine g_aload_n ok d_Mo_thread_73 rfl 1 rfl ?_
              refine gI_Mo_dy ok _ rfl k_1011 d_Mo_thread_74 ?_
              refine g_iload ok d_Mo_thread_77 4 rfl ?_
              refine h_iald ok _ a_259 (by omega) d_Mo_thread_79 ?_
              refine g_imul ok d_Mo_thread_80 ?_
              refine g_iadd ok d_Mo_thread_81 ?_
              refine g_callPS (As := [.int (iI (((G 258 i) * (G 258 i)) + ((G 259 i) * (G 259 i))))]) (st := [.int (iI tt)]) ok (c_Mo_rootUp (fU F 244 0 0) G _ (by omega) s0 a0 D t ad) k_1305 k_11 k_1303 k_1304 q_Mo_rootUp (by decide) (Nat.le_of_ble_eq_true rfl) (by decide) d_Mo_thread_82 (fun z8 hc8 => ?_)
              have hrl := root_le hc8 (by omega)
              have hr0 := hc8.1
              have hrt := rootU_of hc8
              refine g_iadd ok d_Mo_thread_85 ?_
              refine g_istore_n (lv' := [(3, .int (iI (tt + z8))), (2, .int (iI (ps + 1))), (0, .ref (ad 244)), (1, .int (iI n)), (4, .int (iI i))]) ok d_Mo_thread_86 rfl (by decide) rfl ?_
              refine g_iinc (lv' := [(4, .int (iI (i + 1))), (3, .int (iI (tt + z8))), (2, .int (iI (ps + 1))), (0, .ref (ad 244)), (1, .int (iI n))]) ok d_Mo_thread_87 4 rfl (by decide) rfl ?_
              refine g_goto ok 12 d_Mo_thread_90 (by decide) ?_
              refine g_lv [3, 4, 2, 1, 0] rfl ?_
              exact ih_i (ps + 1) (tt + z8) (i + 1) (by omega) (by omega) (by rw [stN_step hi.1, ← hps]; split <;> omega) (by rw [thN_step hi.1, ← hps, ← htt]; split <;> omega) (by omega)
  refine g_z ?_
  refine g_lv [3, 4, 2, 1, 0] rfl ?_
  exact L_i ((F 244 20 + 1 - 0 : Int).toNat + 1) 0 0 0 (by omega) (by omega) (rfl) (rfl) (by omega)
def grpA (g : Int → Int) (i : Int) : Int := g i * 65536 + g (i + 1) * 256 + g (i + 2)
def dWrong (g : Int → Int) (L i : Int) : Prop := L < i + 3 ∨ ¬ okRec (grpA g i)
def byOk (g : Int → Int) (L : Int) : Prop := (0 ≤ L ∧ L ≤ 1500) ∧ ∀ i : Int, 0 ≤ i → i < L → 0 ≤ g i ∧ g i < 256
theorem grp_rng {g : Int → Int} {L i : Int} (h : byOk g L) (hi : 0 ≤ i ∧ i + 3 ≤ L) : 0 ≤ grpA g i ∧ grpA g i < 16777216 := by
  have a := h.2 i (by omega) (by omega)
  have b := h.2 (i + 1) (by omega) (by omega)
  have c := h.2 (i + 2) (by omega) (by omega)
  unfold grpA
  omega
/-- the first wrong group: none, or at i -/
def fWrong (g : Int → Int) (L z : Int) : Prop := (z = -1 ∧ ∀ j : Int, 0 ≤ j → j < L → j % 3 = 0 → ¬ dWrong g L j) ∨ ((0 ≤ z ∧ z < L ∧ z % 3 = 0) ∧ dWrong g L z ∧ ∀ j : Int, 0 ≤ j → j < z → j % 3 = 0 → ¬ dWrong g L j)
def cdOf (b : Int) : Int := b / 1048576 % 4 * 65536 + (numC (b / 1024 % 1024) + 128) * 256 + (numC (b % 1024) + 128)
theorem d_Dk_firstWrongGroup_0 : decode b_Dk_firstWrongGroup 0 = .ok (.iconst 0, 1) := by decide +kernel
theorem d_Dk_firstWrongGroup_1 : decode b_Dk_firstWrongGroup 1 = .ok (.istore_n 1, 1) := by decide +kernel
theorem d_Dk_firstWrongGroup_2 : decode b_Dk_firstWrongGroup 2 = .ok (.iload_n 1, 1) := by decide +kernel
theorem d_Dk_firstWrongGroup_3 : decode b_Dk_firstWrongGroup 3 = .ok (.aload_n 0, 1) := by decide +kernel
theorem d_Dk_firstWrongGroup_4 : decode b_Dk_firstWrongGroup 4 = .ok (.getfield 186, 3) := by decide +kernel
theorem d_Dk_firstWrongGroup_7 : decode b_Dk_firstWrongGroup 7 = .ok (.if_icmp .ge 32, 3) := by decide +kernel
theorem d_Dk_firstWrongGroup_10 : decode b_Dk_firstWrongGroup 10 = .ok (.iload_n 1, 1) := by decide +kernel
theorem d_Dk_firstWrongGroup_11 : decode b_Dk_firstWrongGroup 11 = .ok (.iconst 3, 1) := by decide +kernel
theorem d_Dk_firstWrongGroup_12 : decode b_Dk_firstWrongGroup 12 = .ok (.iadd, 1) := by decide +kernel
theorem d_Dk_firstWrongGroup_13 : decode b_Dk_firstWrongGroup 13 = .ok (.aload_n 0, 1) := by decide +kernel
theorem d_Dk_firstWrongGroup_14 : decode b_Dk_firstWrongGroup 14 = .ok (.getfield 186, 3) := by decide +kernel
theorem d_Dk_firstWrongGroup_17 : decode b_Dk_firstWrongGroup 17 = .ok (.if_icmp .gt 14, 3) := by decide +kernel
theorem d_Dk_firstWrongGroup_20 : decode b_Dk_firstWrongGroup 20 = .ok (.aload_n 0, 1) := by decide +kernel
theorem d_Dk_firstWrongGroup_21 : decode b_Dk_firstWrongGroup 21 = .ok (.iload_n 1, 1) := by decide +kernel
theorem d_Dk_firstWrongGroup_22 : decode b_Dk_firstWrongGroup 22 = .ok (.invokevirtual 230, 3) := by decide +kernel
theorem d_Dk_firstWrongGroup_25 : decode b_Dk_firstWrongGroup 25 = .ok (.invokestatic 262, 3) := by decide +kernel
theorem d_Dk_firstWrongGroup_28 : decode b_Dk_firstWrongGroup 28 = .ok (.ifCond .ne 5, 3) := by decide +kernel
theorem d_Dk_firstWrongGroup_31 : decode b_Dk_firstWrongGroup 31 = .ok (.iload_n 1, 1) := by decide +kernel
theorem d_Dk_firstWrongGroup_32 : decode b_Dk_firstWrongGroup 32 = .ok (.ireturn, 1) := by decide +kernel
theorem d_Dk_firstWrongGroup_33 : decode b_Dk_firstWrongGroup 33 = .ok (.iinc 1 3, 3) := by decide +kernel
theorem d_Dk_firstWrongGroup_36 : decode b_Dk_firstWrongGroup 36 = .ok (.goto (-34), 3) := by decide +kernel
theorem d_Dk_firstWrongGroup_39 : decode b_Dk_firstWrongGroup 39 = .ok (.iconst (-1), 1) := by decide +kernel
theorem d_Dk_firstWrongGroup_40 : decode b_Dk_firstWrongGroup 40 = .ok (.ireturn, 1) := by decide +kernel
set_option maxHeartbeats 1000000 in
set_option maxRecDepth 100000 in
theorem c_Dk_firstWrongGroup (F : Nat → Nat → Int) (G : Nat → Int → Int) (hB : byOk (G 223) (F 0 9)) : cP y_Dk_firstWrongGroup b_Dk_firstWrongGroup 2 (some .int) 1 21 F G (fun ad => [.ref (ad 0)]) (fun z => fWrong (G 223) (F 0 9) z) := by
  have hL := hB.1
  intro s0 a0 D t ad
  refine g_startP (by decide +kernel) (Nat.le_of_ble_eq_true rfl) (fun p l e R s m args below meth c A ok => ?_)
  show gW p l e R s m args below meth c _ D A 2 (gZ0 s) 0 0 ad 265 (mem ad t F G) 0 [(0, .ref (ad 0))] []
  refine g_iconst ok d_Dk_firstWrongGroup_0 ?_
  refine g_istore_n (lv' := [(1, .int (iI 0)), (0, .ref (ad 0))]) ok d_Dk_firstWrongGroup_1 rfl (by decide) rfl ?_
  have L_i : ∀ (n_i : Nat) (i : Int), (0 ≤ i ∧ i ≤ F 0 9 + 3 ∧ i % 3 = 0) → (∀ j : Int, 0 ≤ j → j < i → j % 3 = 0 → ¬ dWrong (G 223) (F 0 9) j) → (F 0 9 + 4 - i) < (n_i : Int) → gW p l e R s m args below meth c (MQ below (gQp (fun z => fWrong (G 223) (F 0 9) z)) args s 0 0 (fun _ => False)) D A 2 (gZ0 s) 0 0 ad 265 (mem ad t F G) 2 [(0, .ref (ad 0)), (1, .int (iI i))] [] := by
    intro n_i
    induction n_i with
    | zero =>
      intro i hi ho hm_i
      exact absurd hm_i (by omega)
    | succ n_i ih_i =>
      intro i hi ho hm_i
      refine g_iload_n ok d_Dk_firstWrongGroup_2 rfl 1 rfl ?_
      refine g_aload_n ok d_Dk_firstWrongGroup_3 rfl 0 rfl ?_
      refine gI_Dk_loadedTotal ok _ rfl k_326 d_Dk_firstWrongGroup_4 ?_
      refine g_icmp_ge ok 39 d_Dk_firstWrongGroup_7 (by decide) (by omega) (by omega) (fun h1 => ?_) (fun h1 => ?_)
      · refine g_iconst ok d_Dk_firstWrongGroup_39 ?_
        exact g_ipret ok d_Dk_firstWrongGroup_40 (Or.inl ⟨rfl, fun j q1 q2 q3 => ho j q1 (by omega) q3⟩)
      · refine g_iload_n ok d_Dk_firstWrongGroup_10 rfl 1 rfl ?_
        refine g_iconst ok d_Dk_firstWrongGroup_11 ?_
        refine g_iadd ok d_Dk_firstWrongGroup_12 ?_
        refine g_aload_n ok d_Dk_firstWrongGroup_13 rfl 0 rfl ?_
        refine gI_Dk_loadedTotal ok _ rfl k_326 d_Dk_firstWrongGroup_14 ?_
        refine g_icmp_gt ok 31 d_Dk_firstWrongGroup_17 (by decide) (by omega) (by omega) (fun h2 => ?_) (fun h2 => ?_)
        · refine g_iload_n ok d_Dk_firstWrongGroup_31 rfl 1 rfl ?_
          exact g_ipret ok d_Dk_firstWrongGroup_32 (Or.inr ⟨by omega, by first | exact Or.inl (by omega) | exact Or.inr (fun q => absurd (hB.2.mpr q) (by omega)), ho⟩)
        · refine g_aload_n ok d_Dk_firstWrongGroup_20 rfl 0 rfl ?_
          refine g_iload_n ok d_Dk_firstWrongGroup_21 rfl 1 rfl ?_
          refine g_callPV (As := [.int (iI i)]) (st := []) ok _ (c_Dk_groupAt F G _ (by omega) (hB.2 _ (by omega) (by omega)) (hB.2 _ (by omega) (by omega)) (hB.2 _ (by omega) (by omega)) s0 a0 D t ad) k_559 k_1 k_556 cl_Dk (m_Dk (ad := ad) (t := t) (F := F) (G := G) rfl).1 (m_Dk rfl).2 k_558 s_Dk_groupAt q_Dk_groupAt (by decide) (Nat.le_of_ble_eq_true rfl) (by decide) d_Dk_firstWrongGroup_22 (fun z3 hc3 => ?_)
          subst hc3
          have hgr := grp_rng hB (i := i) (by omega)
          refine g_callPSN (As := [.int (iI (grpA (G 223) i))]) (st := []) ok (c_Pa_isRecord F G _ hgr s0 a0 D t ad) k_562 k_9 k_560 k_561 q_Pa_isRecord (by decide) (Nat.le_of_ble_eq_true rfl) (by decide) d_Dk_firstWrongGroup_25 (fun z4 hc4 => ?_)
          refine g_if_ne ok 33 d_Dk_firstWrongGroup_28 (by decide) (by omega) (fun h5 => ?_) (fun h5 => ?_)
          · refine g_iinc (lv' := [(1, .int (iI (i + 3))), (0, .ref (ad 0))]) ok d_Dk_firstWrongGroup_33 1 rfl (by decide) rfl ?_
            refine g_goto ok 2 d_Dk_firstWrongGroup_36 (by decide) ?_
            refine g_lv [1, 0] rfl ?_
            exact ih_i (i + 3) (by omega) (fun j q1 q2 q3 => (Int.lt_or_le j i).elim (fun z => ho j q1 z q3) (fun z => by have e : j = i := (by omega); subst e; exact fun q => q.elim (fun q => by omega) (fun q => q (hc4.2.mp (by omega))))) (by omega)
          · refine g_iload_n ok d_Dk_firstWrongGroup_31 rfl 1 rfl ?_
            exact g_ipret ok d_Dk_firstWrongGroup_32 (Or.inr ⟨by omega, by first | exact Or.inl (by omega) | exact Or.inr (fun q => absurd (hc4.2.mpr q) (by omega)), ho⟩)
  refine g_lv [1, 0] rfl ?_
  exact L_i ((F 0 9 + 4 - 0 : Int).toNat + 1) 0 (by omega) (fun j q1 q2 => by omega) (by omega)
theorem fU_sw (F : Nat → Nat → Int) (k : Nat) (a b c : Int) : fU (fU (fU F k 1 a) k 2 b) k 1 c = fU (fU F k 1 c) k 2 b := by
  funext x y
  unfold fU
  by_cases h : x = k
  · subst h
    by_cases h1 : y = 1
    · simp [h1]
    · by_cases h2 : y = 2
      · simp [h2]
      · simp [h1, h2]
  · simp [h]
theorem d_Dk_decode_0 : decode b_Dk_decode 0 = .ok (.aload_n 0, 1) := by decide +kernel
theorem d_Dk_decode_1 : decode b_Dk_decode 1 = .ok (.invokevirtual 226, 3) := by decide +kernel
theorem d_Dk_decode_4 : decode b_Dk_decode 4 = .ok (.istore_n 1, 1) := by decide +kernel
theorem d_Dk_decode_5 : decode b_Dk_decode 5 = .ok (.iload_n 1, 1) := by decide +kernel
theorem d_Dk_decode_6 : decode b_Dk_decode 6 = .ok (.iconst (-1), 1) := by decide +kernel
theorem d_Dk_decode_7 : decode b_Dk_decode 7 = .ok (.if_icmp .eq 7, 3) := by decide +kernel
theorem d_Dk_decode_10 : decode b_Dk_decode 10 = .ok (.iconst (-1), 1) := by decide +kernel
theorem d_Dk_decode_11 : decode b_Dk_decode 11 = .ok (.iload_n 1, 1) := by decide +kernel
theorem d_Dk_decode_12 : decode b_Dk_decode 12 = .ok (.isub, 1) := by decide +kernel
theorem d_Dk_decode_13 : decode b_Dk_decode 13 = .ok (.ireturn, 1) := by decide +kernel
theorem d_Dk_decode_14 : decode b_Dk_decode 14 = .ok (.aload_n 0, 1) := by decide +kernel
theorem d_Dk_decode_15 : decode b_Dk_decode 15 = .ok (.getfield 48, 3) := by decide +kernel
theorem d_Dk_decode_18 : decode b_Dk_decode 18 = .ok (.invokevirtual 199, 3) := by decide +kernel
theorem d_Dk_decode_21 : decode b_Dk_decode 21 = .ok (.iconst 0, 1) := by decide +kernel
theorem d_Dk_decode_22 : decode b_Dk_decode 22 = .ok (.istore_n 2, 1) := by decide +kernel
theorem d_Dk_decode_23 : decode b_Dk_decode 23 = .ok (.iload_n 2, 1) := by decide +kernel
theorem d_Dk_decode_24 : decode b_Dk_decode 24 = .ok (.aload_n 0, 1) := by decide +kernel
theorem d_Dk_decode_25 : decode b_Dk_decode 25 = .ok (.getfield 186, 3) := by decide +kernel
theorem d_Dk_decode_28 : decode b_Dk_decode 28 = .ok (.if_icmp .ge 21, 3) := by decide +kernel
theorem d_Dk_decode_31 : decode b_Dk_decode 31 = .ok (.aload_n 0, 1) := by decide +kernel
theorem d_Dk_decode_32 : decode b_Dk_decode 32 = .ok (.getfield 48, 3) := by decide +kernel
theorem d_Dk_decode_35 : decode b_Dk_decode 35 = .ok (.aload_n 0, 1) := by decide +kernel
theorem d_Dk_decode_36 : decode b_Dk_decode 36 = .ok (.iload_n 2, 1) := by decide +kernel
theorem d_Dk_decode_37 : decode b_Dk_decode 37 = .ok (.invokevirtual 230, 3) := by decide +kernel
theorem d_Dk_decode_40 : decode b_Dk_decode 40 = .ok (.invokevirtual 233, 3) := by decide +kernel
theorem d_Dk_decode_43 : decode b_Dk_decode 43 = .ok (.iinc 2 3, 3) := by decide +kernel
theorem d_Dk_decode_46 : decode b_Dk_decode 46 = .ok (.goto (-23), 3) := by decide +kernel
theorem d_Dk_decode_49 : decode b_Dk_decode 49 = .ok (.aload_n 0, 1) := by decide +kernel
theorem d_Dk_decode_50 : decode b_Dk_decode 50 = .ok (.iconst 0, 1) := by decide +kernel
theorem d_Dk_decode_51 : decode b_Dk_decode 51 = .ok (.putfield 186, 3) := by decide +kernel
theorem d_Dk_decode_54 : decode b_Dk_decode 54 = .ok (.aload_n 0, 1) := by decide +kernel
theorem d_Dk_decode_55 : decode b_Dk_decode 55 = .ok (.getfield 48, 3) := by decide +kernel
theorem d_Dk_decode_58 : decode b_Dk_decode 58 = .ok (.getfield 183, 3) := by decide +kernel
theorem d_Dk_decode_61 : decode b_Dk_decode 61 = .ok (.ireturn, 1) := by decide +kernel
set_option maxHeartbeats 1000000 in
set_option maxRecDepth 100000 in
theorem c_Dk_decode (F : Nat → Nat → Int) (G : Nat → Int → Int) (hB : byOk (G 223) (F 0 9)) : cI y_Dk_decode b_Dk_decode 3 (some .int) 2 44 F G (fun ad => [.ref (ad 0)]) (fun z F' G' => (∃ i : Int, (0 ≤ i ∧ i < F 0 9) ∧ fWrong (G 223) (F 0 9) i ∧ z = -1 - i ∧ F' = F ∧ G' = G) ∨ (fWrong (G 223) (F 0 9) (-1) ∧ F 0 9 % 3 = 0 ∧ z = F 0 9 / 3 ∧ F' = fU (fU (fU F 236 1 (F 0 9 / 3)) 236 2 0) 0 9 0 ∧ (∀ a : Nat, a ≠ 237 → G' a = G a) ∧ ∀ j : Int, 0 ≤ j → j < F 0 9 / 3 → G' 237 j = cdOf (grpA (G 223) (3 * j)))) := by
  have hL := hB.1
  intro s0 a0 D t ad
  refine g_startI (by decide +kernel) (Nat.le_of_ble_eq_true rfl) (fun p l e R s m args below meth c A ok => ?_)
  show gW p l e R s m args below meth c _ D A 3 (gZ0 s) 0 0 ad 265 (mem ad t F G) 0 [(0, .ref (ad 0))] []
  refine g_aload_n ok d_Dk_decode_0 rfl 0 rfl ?_
  refine g_callPV (As := []) (st := []) ok _ (c_Dk_firstWrongGroup F G hB s0 a0 D t ad) k_555 k_1 k_552 cl_Dk (m_Dk (ad := ad) (t := t) (F := F) (G := G) rfl).1 (m_Dk rfl).2 k_554 s_Dk_firstWrongGroup q_Dk_firstWrongGroup (by decide) (Nat.le_of_ble_eq_true rfl) (by decide) d_Dk_decode_1 (fun z1 hc1 => ?_)
  have hwr : -1 ≤ z1 ∧ z1 ≤ 1500 := by rcases hc1 with q | q <;> omega
  refine g_istore_n (lv' := [(1, .int (iI z1)), (0, .ref (ad 0))]) ok d_Dk_decode_4 rfl (by decide) rfl ?_
  refine g_iload_n ok d_Dk_decode_5 rfl 0 rfl ?_
  refine g_iconst ok d_Dk_decode_6 ?_
  refine g_icmp_eq ok 14 d_Dk_decode_7 (by decide) (by omega) (by omega) (fun h2 => ?_) (fun h2 => ?_)
  · have hno : ∀ j : Int, 0 ≤ j → j < F 0 9 → j % 3 = 0 → ¬ dWrong (G 223) (F 0 9) j := by rcases hc1 with q | q; exact q.2; exact absurd q.1 (by omega)
    have hL3 : F 0 9 % 3 = 0 := by
      rcases Classical.em (F 0 9 % 3 = 0) with q | q
      · exact q
      · exact absurd (Or.inl (by omega)) (hno (F 0 9 / 3 * 3) (by omega) (by omega) (by omega))
    refine g_aload_n ok d_Dk_decode_14 rfl 1 rfl ?_
    refine gI_Dk_path ok _ rfl k_322 d_Dk_decode_15 ?_
    refine g_callVVN (As := []) (st := []) ok _ (c_Pa_clear F G  s0 a0 D t ad) k_370 k_9 k_547 cl_Pa (m_Pa (ad := ad) (t := t) (F := F) (G := G) rfl).1 (m_Pa rfl).2 k_369 s_Pa_clear q_Pa_clear (by decide) (Nat.le_of_ble_eq_true rfl) (by decide) d_Dk_decode_18 (fun ce1 hc3 => ?_)
    obtain ⟨Fq, Gq, rfl, hFq, hGq⟩ := hc3
    rw [hFq, hGq]
    clear hFq hGq
    refine g_iconst ok d_Dk_decode_21 ?_
    refine g_istore_n (lv' := [(2, .int (iI 0)), (1, .int (iI z1)), (0, .ref (ad 0))]) ok d_Dk_decode_22 rfl (by decide) rfl ?_
    have L_i : ∀ (n_i : Nat) (i : Int) (E : Int) (G1 : Nat → Int → Int), (0 ≤ i ∧ i ≤ F 0 9 ∧ i % 3 = 0) → (i = 3 * E) → (∀ a : Nat, a ≠ 237 → G1 a = G a) → (∀ j : Int, 0 ≤ j → j < E → G1 237 j = cdOf (grpA (G 223) (3 * j))) → (F 0 9 + 1 - i) < (n_i : Int) → gW p l e R s m args below meth c (MQ below (gQi D A ad 265 (fun z ce' => ∃ F' G', ce' = mem ad t F' G' ∧ (fun z F' G' => (∃ i : Int, (0 ≤ i ∧ i < F 0 9) ∧ fWrong (G 223) (F 0 9) i ∧ z = -1 - i ∧ F' = F ∧ G' = G) ∨ (fWrong (G 223) (F 0 9) (-1) ∧ F 0 9 % 3 = 0 ∧ z = F 0 9 / 3 ∧ F' = fU (fU (fU F 236 1 (F 0 9 / 3)) 236 2 0) 0 9 0 ∧ (∀ a : Nat, a ≠ 237 → G' a = G a) ∧ ∀ j : Int, 0 ≤ j → j < F 0 9 / 3 → G' 237 j = cdOf (grpA (G 223) (3 * j)))) z F' G')) args s 0 0 A) D A 3 (gZ) 0 0 ad 265 (mem ad t (fU (fU F 236 1 E) 236 2 0) G1) 23 [(0, .ref (ad 0)), (1, .int (iI z1)), (2, .int (iI i))] [] := by
      intro n_i
      induction n_i with
      | zero =>
        intro i E G1 hi hE hfr hcd hm_i
        exact absurd hm_i (by omega)
      | succ n_i ih_i =>
        intro i E G1 hi hE hfr hcd hm_i
        refine g_iload_n ok d_Dk_decode_23 rfl 2 rfl ?_
        refine g_aload_n ok d_Dk_decode_24 rfl 0 rfl ?_
        refine gI_Dk_loadedTotal ok _ rfl k_326 d_Dk_decode_25 ?_
        refine g_top (y := F 0 9) (by show (fU (fU F 236 1 E) 236 2 0) 0 9 = _; rw [fU_ja (show (9 : Nat) ≠ 2 by decide), fU_ja (show (9 : Nat) ≠ 1 by decide)]) ?_
        refine g_icmp_ge ok 49 d_Dk_decode_28 (by decide) (by omega) (by omega) (fun h4 => ?_) (fun h4 => ?_)
        · refine g_aload_n ok d_Dk_decode_49 rfl 0 rfl ?_
          refine g_iconst ok d_Dk_decode_50 ?_
          refine pI_Dk_loadedTotal ok _ rfl k_326 d_Dk_decode_51 ?_
          refine g_aload_n ok d_Dk_decode_54 rfl 0 rfl ?_
          refine gI_Dk_path ok _ rfl k_322 d_Dk_decode_55 ?_
          refine gN_Pa_size ok _ rfl k_258 d_Dk_decode_58 ?_
          refine g_top (y := E) (by show (fU (fU (fU F 236 1 E) 236 2 0) 0 9 0) 236 1 = _; rw [fU_ja (show (1 : Nat) ≠ 9 by decide), fU_ja (show (1 : Nat) ≠ 2 by decide), fU_hit]) ?_
          exact g_iret ok d_Dk_decode_61 ⟨_, _, rfl, Or.inr ⟨Or.inl ⟨rfl, hno⟩, hL3, by omega, by rw [show E = F 0 9 / 3 by omega], hfr, fun j q1 q2 => hcd j q1 (by omega)⟩⟩
        · refine g_aload_n ok d_Dk_decode_31 rfl 0 rfl ?_
          refine gI_Dk_path ok _ rfl k_322 d_Dk_decode_32 ?_
          refine g_aload_n ok d_Dk_decode_35 rfl 0 rfl ?_
          refine g_iload_n ok d_Dk_decode_36 rfl 2 rfl ?_
          refine g_callPV (As := [.int (iI i)]) (st := [.ref (ad 236)]) ok _ (c_Dk_groupAt (fU (fU F 236 1 E) 236 2 0) G1 _ (by omega) (by rw [hfr 223 (by decide)]; exact hB.2 _ (by omega) (by omega)) (by rw [hfr 223 (by decide)]; exact hB.2 _ (by omega) (by omega)) (by rw [hfr 223 (by decide)]; exact hB.2 _ (by omega) (by omega)) s0 a0 D t ad) k_559 k_1 k_556 cl_Dk (m_Dk (ad := ad) (t := t) (F := (fU (fU F 236 1 E) 236 2 0)) (G := G1) rfl).1 (m_Dk rfl).2 k_558 s_Dk_groupAt q_Dk_groupAt (by decide) (Nat.le_of_ble_eq_true rfl) (by decide) d_Dk_decode_37 (fun z5 hc5 => ?_)
          subst hc5
          refine g_top (y := grpA (G 223) i) (by rw [← hfr 223 (by decide)]; rfl) ?_
          have hgr := grp_rng hB (i := i) (by omega)
          have hok : okRec (grpA (G 223) i) := by have h := hno i (by omega) (by omega) (by omega); unfold dWrong at h; exact Classical.not_not.mp (fun q => h (Or.inr q))
          refine g_callVVN (As := [.int (iI (grpA (G 223) i))]) (st := []) ok _ (c_Pa_addPacked (fU (fU F 236 1 E) 236 2 0) G1 _ hgr hok (by rw [fU_ja (by decide), fU_hit]; omega) s0 a0 D t ad) k_567 k_9 k_564 cl_Pa (m_Pa (ad := ad) (t := t) (F := (fU (fU F 236 1 E) 236 2 0)) (G := G1) rfl).1 (m_Pa rfl).2 k_566 s_Pa_addPacked q_Pa_addPacked (by decide) (Nat.le_of_ble_eq_true rfl) (by decide) d_Dk_decode_40 (fun ce1 hc6 => ?_)
          obtain ⟨F2, G2, rfl, rfl, rfl⟩ := hc6
          rw [fU_ja (show (1 : Nat) ≠ 2 by decide), fU_hit, fU_sw]
          refine g_iinc (lv' := [(2, .int (iI (i + 3))), (0, .ref (ad 0)), (1, .int (iI z1))]) ok d_Dk_decode_43 2 rfl (by decide) rfl ?_
          refine g_goto ok 23 d_Dk_decode_46 (by decide) ?_
          refine g_lv [1, 2, 0] rfl ?_
          exact ih_i (i + 3) (E + 1) (gU G1 237 E (cdOf (grpA (G 223) i))) (by omega) (by omega) (fun a q => by rw [gU_k _ _ _ q]; exact hfr a q) (fun j q1 q2 => (Int.lt_or_eq_of_le (show j ≤ E by omega)).elim (fun z => by rw [gU_i (by omega)]; exact hcd j q1 z) (fun z => by subst z; rw [gU_hit, hE])) (by omega)
    refine g_z ?_
    refine g_lv [2, 1, 0] rfl ?_
    exact L_i ((F 0 9 + 1 - 0 : Int).toNat + 1) 0 0 G (by omega) (by omega) (fun _ _ => rfl) (fun j q1 q2 => by omega) (by omega)
  · refine g_iconst ok d_Dk_decode_10 ?_
    refine g_iload_n ok d_Dk_decode_11 rfl 0 rfl ?_
    refine g_isub ok d_Dk_decode_12 ?_
    exact g_iret ok d_Dk_decode_13 ⟨_, _, rfl, Or.inl ⟨z1, by rcases hc1 with q | q <;> omega, hc1, rfl, rfl, rfl⟩⟩
