section GZ
variable {s0 : State} {a0 : Array Value} {D : va_G} {t : Nat → ClassId} {p : Program} {l : Launch} {e : Env} {R : Room} {s : State} {m : MethodId} {args : Array Value} {below : List Frame} {meth : Method} {c : Code} {Q : State → Prop} {Z : Heap → List Loc → Prop} {A : Nat → Prop} {own : String} {cc : ByteArray} {nL : Nat} {ret : Option FieldType} {mn : String} {fr lo mc ms : Nat} {cells slots : Nat} {ad : Nat → Nat} {pc : Nat} {lv : List (Nat × Value)} {st : List Value} {F : Nat → Nat → Int} {G : Nat → Int → Int}
theorem h_zald (ok : gOk s0 a0 D t p R s m meth c A own cc nL ret mn fr lo mc ms) {z : Int} (hz : 0 ≤ z ∧ z < 4) (hd : decode cc pc = .ok (.baload, 1)) (kk : gW p l e R s m args below meth c Q D A nL Z cells slots ad 265 (mem ad t F G) (pc + 1) lv (.int (iI (G 257 z)) :: st)) : gW p l e R s m args below meth c Q D A nL Z cells slots ad 265 (mem ad t F G) pc lv (.int (iI z) :: .ref (ad 257) :: st) := by
  intro H locs ls hZ hP hD hS hl
  refine va_zald ok.x ok.b ok.k hP 257 4 (n := 4) (f := zA (G 257)) ((wW_get (by decide)).trans rfl) rfl (iI_in (by decide) hz) hd ?_
  rw [zA_at (by omega)]
  exact kk H locs ls hZ hP hD hS hl
theorem nar_z {v : Int} (h : v = 0 ∨ v = 1) : vp_nar .boolean (iI v) = iI v := by
  rcases h with rfl | rfl <;> decide +kernel
theorem h_zast (ok : gOk s0 a0 D t p R s m meth c A own cc nL ret mn fr lo mc ms) {z v : Int} (hz : 0 ≤ z ∧ z < 4) (hv : v = 0 ∨ v = 1) (hd : decode cc pc = .ok (.bastore, 1)) (kk : gW p l e R s m args below meth c Q D A nL gZ cells slots ad 265 (mem ad t F (gU G 257 z v)) (pc + 1) lv st) : gW p l e R s m args below meth c Q D A nL Z cells slots ad 265 (mem ad t F G) pc lv (.int (iI v) :: .int (iI z) :: .ref (ad 257) :: st) := by
  intro H locs ls hZ hP hD hS hl
  refine va_zast ok.x ok.b ok.k hP hD hS 257 4 (n := 4) (f := zA (G 257)) ((wW_get (by decide)).trans rfl) rfl (iI_in (by decide) hz) hd (fun H1 locs1 hP1 hD1 hS1 => ?_)
  rw [nar_z hv, zA_up (by omega), wW_set] at hP1 hD1
  have q : va_up (mem ad t F G) 257 (.inl (t 4, 4, .inl (zA (zU (G 257) z v)))) = mem ad t F (gU G 257 z v) := mem_set (by rw [← gU_self]; rfl)
  rw [q] at hP1 hD1
  exact kk H1 locs1 ls trivial hP1 hD1 hS1 hl
end GZ
def mPk (G : Nat → Int → Int) (i : Int) : Int := dgC 5 (G 258 i + 121) + dgC 5 (G 259 i + 121) * 1024 + G 260 i * 1048576
theorem d_Mo_byteAt_0 : decode b_Mo_byteAt 0 = .ok (.aload_n 0, 1) := by decide +kernel
theorem d_Mo_byteAt_1 : decode b_Mo_byteAt 1 = .ok (.iload_n 1, 1) := by decide +kernel
theorem d_Mo_byteAt_2 : decode b_Mo_byteAt 2 = .ok (.ifCond .lt 13, 3) := by decide +kernel
theorem d_Mo_byteAt_5 : decode b_Mo_byteAt 5 = .ok (.iload_n 1, 1) := by decide +kernel
theorem d_Mo_byteAt_6 : decode b_Mo_byteAt 6 = .ok (.iconst 3, 1) := by decide +kernel
theorem d_Mo_byteAt_7 : decode b_Mo_byteAt 7 = .ok (.aload_n 0, 1) := by decide +kernel
theorem d_Mo_byteAt_8 : decode b_Mo_byteAt 8 = .ok (.getfield 73, 3) := by decide +kernel
theorem d_Mo_byteAt_11 : decode b_Mo_byteAt 11 = .ok (.imul, 1) := by decide +kernel
theorem d_Mo_byteAt_12 : decode b_Mo_byteAt 12 = .ok (.if_icmp .lt 7, 3) := by decide +kernel
theorem d_Mo_byteAt_15 : decode b_Mo_byteAt 15 = .ok (.iconst 1, 1) := by decide +kernel
theorem d_Mo_byteAt_16 : decode b_Mo_byteAt 16 = .ok (.goto 4, 3) := by decide +kernel
theorem d_Mo_byteAt_19 : decode b_Mo_byteAt 19 = .ok (.iconst 0, 1) := by decide +kernel
theorem d_Mo_byteAt_20 : decode b_Mo_byteAt 20 = .ok (.putfield 7, 3) := by decide +kernel
theorem d_Mo_byteAt_23 : decode b_Mo_byteAt 23 = .ok (.aload_n 0, 1) := by decide +kernel
theorem d_Mo_byteAt_24 : decode b_Mo_byteAt 24 = .ok (.getfield 7, 3) := by decide +kernel
theorem d_Mo_byteAt_27 : decode b_Mo_byteAt 27 = .ok (.ifCond .eq 5, 3) := by decide +kernel
theorem d_Mo_byteAt_30 : decode b_Mo_byteAt 30 = .ok (.iconst 0, 1) := by decide +kernel
theorem d_Mo_byteAt_31 : decode b_Mo_byteAt 31 = .ok (.ireturn, 1) := by decide +kernel
theorem d_Mo_byteAt_32 : decode b_Mo_byteAt 32 = .ok (.iload_n 1, 1) := by decide +kernel
theorem d_Mo_byteAt_33 : decode b_Mo_byteAt 33 = .ok (.iconst 3, 1) := by decide +kernel
theorem d_Mo_byteAt_34 : decode b_Mo_byteAt 34 = .ok (.idiv, 1) := by decide +kernel
theorem d_Mo_byteAt_35 : decode b_Mo_byteAt 35 = .ok (.istore_n 2, 1) := by decide +kernel
theorem d_Mo_byteAt_36 : decode b_Mo_byteAt 36 = .ok (.aload_n 0, 1) := by decide +kernel
theorem d_Mo_byteAt_37 : decode b_Mo_byteAt 37 = .ok (.getfield 76, 3) := by decide +kernel
theorem d_Mo_byteAt_40 : decode b_Mo_byteAt 40 = .ok (.iload_n 2, 1) := by decide +kernel
theorem d_Mo_byteAt_41 : decode b_Mo_byteAt 41 = .ok (.iaload, 1) := by decide +kernel
theorem d_Mo_byteAt_42 : decode b_Mo_byteAt 42 = .ok (.invokestatic 234, 3) := by decide +kernel
theorem d_Mo_byteAt_45 : decode b_Mo_byteAt 45 = .ok (.aload_n 0, 1) := by decide +kernel
theorem d_Mo_byteAt_46 : decode b_Mo_byteAt 46 = .ok (.getfield 79, 3) := by decide +kernel
theorem d_Mo_byteAt_49 : decode b_Mo_byteAt 49 = .ok (.iload_n 2, 1) := by decide +kernel
theorem d_Mo_byteAt_50 : decode b_Mo_byteAt 50 = .ok (.iaload, 1) := by decide +kernel
theorem d_Mo_byteAt_51 : decode b_Mo_byteAt 51 = .ok (.invokestatic 234, 3) := by decide +kernel
theorem d_Mo_byteAt_54 : decode b_Mo_byteAt 54 = .ok (.bipush 10, 2) := by decide +kernel
theorem d_Mo_byteAt_56 : decode b_Mo_byteAt 56 = .ok (.ishl, 1) := by decide +kernel
theorem d_Mo_byteAt_57 : decode b_Mo_byteAt 57 = .ok (.ior, 1) := by decide +kernel
theorem d_Mo_byteAt_58 : decode b_Mo_byteAt 58 = .ok (.aload_n 0, 1) := by decide +kernel
theorem d_Mo_byteAt_59 : decode b_Mo_byteAt 59 = .ok (.getfield 82, 3) := by decide +kernel
theorem d_Mo_byteAt_62 : decode b_Mo_byteAt 62 = .ok (.iload_n 2, 1) := by decide +kernel
theorem d_Mo_byteAt_63 : decode b_Mo_byteAt 63 = .ok (.iaload, 1) := by decide +kernel
theorem d_Mo_byteAt_64 : decode b_Mo_byteAt 64 = .ok (.bipush 20, 2) := by decide +kernel
theorem d_Mo_byteAt_66 : decode b_Mo_byteAt 66 = .ok (.ishl, 1) := by decide +kernel
theorem d_Mo_byteAt_67 : decode b_Mo_byteAt 67 = .ok (.ior, 1) := by decide +kernel
theorem d_Mo_byteAt_68 : decode b_Mo_byteAt 68 = .ok (.istore_n 3, 1) := by decide +kernel
theorem d_Mo_byteAt_69 : decode b_Mo_byteAt 69 = .ok (.iload_n 3, 1) := by decide +kernel
theorem d_Mo_byteAt_70 : decode b_Mo_byteAt 70 = .ok (.bipush 16, 2) := by decide +kernel
theorem d_Mo_byteAt_72 : decode b_Mo_byteAt 72 = .ok (.bipush 8, 2) := by decide +kernel
theorem d_Mo_byteAt_74 : decode b_Mo_byteAt 74 = .ok (.iload_n 1, 1) := by decide +kernel
theorem d_Mo_byteAt_75 : decode b_Mo_byteAt 75 = .ok (.iconst 3, 1) := by decide +kernel
theorem d_Mo_byteAt_76 : decode b_Mo_byteAt 76 = .ok (.irem, 1) := by decide +kernel
theorem d_Mo_byteAt_77 : decode b_Mo_byteAt 77 = .ok (.imul, 1) := by decide +kernel
theorem d_Mo_byteAt_78 : decode b_Mo_byteAt 78 = .ok (.isub, 1) := by decide +kernel
theorem d_Mo_byteAt_79 : decode b_Mo_byteAt 79 = .ok (.ishr, 1) := by decide +kernel
theorem d_Mo_byteAt_80 : decode b_Mo_byteAt 80 = .ok (.sipush 255, 3) := by decide +kernel
theorem d_Mo_byteAt_83 : decode b_Mo_byteAt 83 = .ok (.iand, 1) := by decide +kernel
theorem d_Mo_byteAt_84 : decode b_Mo_byteAt 84 = .ok (.ireturn, 1) := by decide +kernel
set_option maxHeartbeats 1000000 in
set_option maxRecDepth 100000 in
theorem c_Mo_byteAt (F : Nat → Nat → Int) (G : Nat → Int → Int) (i : Int) (hi : -2147483648 ≤ i ∧ i < 2147483648) (hp : mRec F G) : cI y_Mo_byteAt b_Mo_byteAt 4 (some .int) 1 24 F G (fun ad => [.ref (ad 244), .int (iI i)]) (fun z F' G' => G' = G ∧ ((¬ (0 ≤ i ∧ i < 3 * F 244 20) ∧ F' = fU F 244 0 1) ∨ ((0 ≤ i ∧ i < 3 * F 244 20) ∧ F' = fU F 244 0 0 ∧ z = mPk G (i / 3) / 2 ^ (16 - 8 * (i % 3)).toNat % 256))) := by
  obtain ⟨hs, hC⟩ := hp
  intro s0 a0 D t ad
  refine g_startI (by decide +kernel) (Nat.le_of_ble_eq_true rfl) (fun p l e R s m args below meth c A ok => ?_)
  show gW p l e R s m args below meth c _ D A 4 (gZ0 s) 0 0 ad 265 (mem ad t F G) 0 [(0, .ref (ad 244)), (1, .int (iI i))] []
  refine g_aload_n ok d_Mo_byteAt_0 rfl 0 rfl ?_
  refine g_iload_n ok d_Mo_byteAt_1 rfl 1 rfl ?_
  refine g_if_lt ok 15 d_Mo_byteAt_2 (by decide) (by omega) (fun h1 => ?_) (fun h1 => ?_)
  · refine g_iconst ok d_Mo_byteAt_15 ?_
    refine g_goto ok 20 d_Mo_byteAt_16 (by decide) ?_
    refine pI_Mo_thrownCode ok _ rfl k_989 d_Mo_byteAt_20 ?_
    refine g_aload_n ok d_Mo_byteAt_23 rfl 0 rfl ?_
    refine gI_Mo_thrownCode ok _ rfl k_989 d_Mo_byteAt_24 ?_
    refine g_top (y := 1) (by show (fU F 244 0 1) 244 0 = _; rw [fU_hit]) ?_
    refine g_if_eq ok 32 d_Mo_byteAt_27 (by decide) (by omega) (fun h2 => ?_) (fun h2 => ?_)
    · exact absurd h2 (by decide)
    · refine g_iconst ok d_Mo_byteAt_30 ?_
      exact g_iret ok d_Mo_byteAt_31 ⟨_, _, rfl, rfl, by first | exact Or.inl ⟨by omega, rfl⟩ | exact Or.inr ⟨by omega, rfl, rfl⟩⟩
  · refine g_iload_n ok d_Mo_byteAt_5 rfl 1 rfl ?_
    refine g_iconst ok d_Mo_byteAt_6 ?_
    refine g_aload_n ok d_Mo_byteAt_7 rfl 0 rfl ?_
    refine gI_Mo_records ok _ rfl k_1009 d_Mo_byteAt_8 ?_
    refine g_imul ok d_Mo_byteAt_11 ?_
    refine g_icmp_lt ok 19 d_Mo_byteAt_12 (by decide) (by omega) (by omega) (fun h3 => ?_) (fun h3 => ?_)
    · refine g_iconst ok d_Mo_byteAt_19 ?_
      refine pI_Mo_thrownCode ok _ rfl k_989 d_Mo_byteAt_20 ?_
      refine g_aload_n ok d_Mo_byteAt_23 rfl 0 rfl ?_
      refine gI_Mo_thrownCode ok _ rfl k_989 d_Mo_byteAt_24 ?_
      refine g_top (y := 0) (by show (fU F 244 0 0) 244 0 = _; rw [fU_hit]) ?_
      refine g_if_eq ok 32 d_Mo_byteAt_27 (by decide) (by omega) (fun h4 => ?_) (fun h4 => ?_)
      · refine g_iload_n ok d_Mo_byteAt_32 rfl 1 rfl ?_
        refine g_iconst ok d_Mo_byteAt_33 ?_
        refine g_idiv (z := i / 3) ok (iI_ne0 (by decide)) (iI_divN (by omega) (by decide)) d_Mo_byteAt_34 ?_
        refine g_istore_n (lv' := [(2, .int (iI (i / 3))), (0, .ref (ad 244)), (1, .int (iI i))]) ok d_Mo_byteAt_35 rfl (by decide) rfl ?_
        obtain ⟨hcx, hcy, hk⟩ := hC (i / 3) (by omega) (by omega)
        have hdy := dgC_5 (r := G 259 (i / 3) + 121) (by omega)
        have hdx := dgC_5 (r := G 258 (i / 3) + 121) (by omega)
        have hP : 0 ≤ mPk G (i / 3) ∧ mPk G (i / 3) < 4194304 := by unfold mPk; omega
        refine g_aload_n ok d_Mo_byteAt_36 rfl 1 rfl ?_
        refine gI_Mo_dx ok _ rfl k_1010 d_Mo_byteAt_37 ?_
        refine g_iload_n ok d_Mo_byteAt_40 rfl 0 rfl ?_
        refine h_iald ok _ a_258 (by omega) d_Mo_byteAt_41 ?_
        refine g_callPS (As := [.int (iI (G 258 (i / 3)))]) (st := []) ok (c_Mo_digits (fU F 244 0 0) G _ (by omega) s0 a0 D t ad) k_1259 k_11 k_1257 k_1258 q_Mo_digits (by decide) (Nat.le_of_ble_eq_true rfl) (by decide) d_Mo_byteAt_42 (fun z5 hc5 => ?_)
        refine g_top (y := dgC 5 (G 258 (i / 3) + 121)) (by rw [hc5, dg_eq (by omega)]) ?_
        refine g_aload_n ok d_Mo_byteAt_45 rfl 1 rfl ?_
        refine gI_Mo_dy ok _ rfl k_1011 d_Mo_byteAt_46 ?_
        refine g_iload_n ok d_Mo_byteAt_49 rfl 0 rfl ?_
        refine h_iald ok _ a_259 (by omega) d_Mo_byteAt_50 ?_
        refine g_callPS (As := [.int (iI (G 259 (i / 3)))]) (st := [.int (iI (dgC 5 (G 258 (i / 3) + 121)))]) ok (c_Mo_digits (fU F 244 0 0) G _ (by omega) s0 a0 D t ad) k_1259 k_11 k_1257 k_1258 q_Mo_digits (by decide) (Nat.le_of_ble_eq_true rfl) (by decide) d_Mo_byteAt_51 (fun z6 hc6 => ?_)
        refine g_top (y := dgC 5 (G 259 (i / 3) + 121)) (by rw [hc6, dg_eq (by omega)]) ?_
        refine g_bipush ok (by decide) d_Mo_byteAt_54 ?_
        refine g_ishl (z := (dgC 5 (G 259 (i / 3) + 121)) * 1024) ok (iI_shl 10 (by decide) (by omega) (by omega) rfl) d_Mo_byteAt_56 ?_
        refine g_ior (z := (dgC 5 (G 258 (i / 3) + 121)) + (dgC 5 (G 259 (i / 3) + 121)) * 1024) ok (iI_orC 10 (by omega) (by omega)) d_Mo_byteAt_57 ?_
        refine g_aload_n ok d_Mo_byteAt_58 rfl 1 rfl ?_
        refine gI_Mo_kind ok _ rfl k_1012 d_Mo_byteAt_59 ?_
        refine g_iload_n ok d_Mo_byteAt_62 rfl 0 rfl ?_
        refine h_iald ok _ a_260 (by omega) d_Mo_byteAt_63 ?_
        refine g_bipush ok (by decide) d_Mo_byteAt_64 ?_
        refine g_ishl (z := (G 260 (i / 3)) * 1048576) ok (iI_shl 20 (by decide) (by omega) (by omega) rfl) d_Mo_byteAt_66 ?_
        refine g_ior (z := mPk G (i / 3)) ok (iI_orC 20 (by omega) (by omega)) d_Mo_byteAt_67 ?_
        refine g_istore_n (lv' := [(3, .int (iI (mPk G (i / 3)))), (2, .int (iI (i / 3))), (0, .ref (ad 244)), (1, .int (iI i))]) ok d_Mo_byteAt_68 rfl (by decide) rfl ?_
        refine g_iload_n ok d_Mo_byteAt_69 rfl 0 rfl ?_
        refine g_bipush ok (by decide) d_Mo_byteAt_70 ?_
        refine g_bipush ok (by decide) d_Mo_byteAt_72 ?_
        refine g_iload_n ok d_Mo_byteAt_74 rfl 3 rfl ?_
        refine g_iconst ok d_Mo_byteAt_75 ?_
        refine g_irem (z := i % 3) ok (iI_ne0 (by decide)) (iI_remN (by omega) (by decide)) d_Mo_byteAt_76 ?_
        refine g_imul ok d_Mo_byteAt_77 ?_
        refine g_isub ok d_Mo_byteAt_78 ?_
        refine g_ishr (z := mPk G (i / 3) / 2 ^ (16 - 8 * (i % 3)).toNat) ok (iI_shr (16 - 8 * (i % 3)).toNat (by omega) (by omega) (by omega)) d_Mo_byteAt_79 ?_
        refine g_sipush ok (by decide) d_Mo_byteAt_80 ?_
        refine g_iand (z := mPk G (i / 3) / 2 ^ (16 - 8 * (i % 3)).toNat % 256) ok (iI_mask 8 (sh_rng (by omega)) rfl (by decide)) d_Mo_byteAt_83 ?_
        exact g_iret ok d_Mo_byteAt_84 ⟨_, _, rfl, rfl, by first | exact Or.inl ⟨by omega, rfl⟩ | exact Or.inr ⟨by omega, rfl, rfl⟩⟩
      · exact absurd h4 (by decide)
    · refine g_iconst ok d_Mo_byteAt_15 ?_
      refine g_goto ok 20 d_Mo_byteAt_16 (by decide) ?_
      refine pI_Mo_thrownCode ok _ rfl k_989 d_Mo_byteAt_20 ?_
      refine g_aload_n ok d_Mo_byteAt_23 rfl 0 rfl ?_
      refine gI_Mo_thrownCode ok _ rfl k_989 d_Mo_byteAt_24 ?_
      refine g_top (y := 1) (by show (fU F 244 0 1) 244 0 = _; rw [fU_hit]) ?_
      refine g_if_eq ok 32 d_Mo_byteAt_27 (by decide) (by omega) (fun h7 => ?_) (fun h7 => ?_)
      · exact absurd h7 (by decide)
      · refine g_iconst ok d_Mo_byteAt_30 ?_
        exact g_iret ok d_Mo_byteAt_31 ⟨_, _, rfl, rfl, by first | exact Or.inl ⟨by omega, rfl⟩ | exact Or.inr ⟨by omega, rfl, rfl⟩⟩
theorem num_iff {r b : Int} (h : (r = 1000 ∧ has3 b) ∨ (¬ has3 b ∧ r = numC b)) : (r = 1000 ↔ has3 b) ∧ (-121 ≤ r ∧ r ≤ 1000) := by
  rcases h with h | h
  · exact ⟨⟨fun _ => h.2, fun _ => h.1⟩, by omega⟩
  · have := numC_rng h.1
    exact ⟨⟨fun q => by omega, fun q => absurd q h.1⟩, by omega⟩
theorem d_Mo_decode_0 : decode b_Mo_decode 0 = .ok (.aload_n 0, 1) := by decide +kernel
theorem d_Mo_decode_1 : decode b_Mo_decode 1 = .ok (.iconst 0, 1) := by decide +kernel
theorem d_Mo_decode_2 : decode b_Mo_decode 2 = .ok (.putfield 7, 3) := by decide +kernel
theorem d_Mo_decode_5 : decode b_Mo_decode 5 = .ok (.iconst 0, 1) := by decide +kernel
theorem d_Mo_decode_6 : decode b_Mo_decode 6 = .ok (.istore_n 1, 1) := by decide +kernel
theorem d_Mo_decode_7 : decode b_Mo_decode 7 = .ok (.iload_n 1, 1) := by decide +kernel
theorem d_Mo_decode_8 : decode b_Mo_decode 8 = .ok (.aload_n 0, 1) := by decide +kernel
theorem d_Mo_decode_9 : decode b_Mo_decode 9 = .ok (.getfield 103, 3) := by decide +kernel
theorem d_Mo_decode_12 : decode b_Mo_decode 12 = .ok (.if_icmp .ge 71, 3) := by decide +kernel
theorem d_Mo_decode_15 : decode b_Mo_decode 15 = .ok (.iload_n 1, 1) := by decide +kernel
theorem d_Mo_decode_16 : decode b_Mo_decode 16 = .ok (.iconst 3, 1) := by decide +kernel
theorem d_Mo_decode_17 : decode b_Mo_decode 17 = .ok (.iadd, 1) := by decide +kernel
theorem d_Mo_decode_18 : decode b_Mo_decode 18 = .ok (.aload_n 0, 1) := by decide +kernel
theorem d_Mo_decode_19 : decode b_Mo_decode 19 = .ok (.getfield 103, 3) := by decide +kernel
theorem d_Mo_decode_22 : decode b_Mo_decode 22 = .ok (.if_icmp .le 7, 3) := by decide +kernel
theorem d_Mo_decode_25 : decode b_Mo_decode 25 = .ok (.iconst (-1), 1) := by decide +kernel
theorem d_Mo_decode_26 : decode b_Mo_decode 26 = .ok (.iload_n 1, 1) := by decide +kernel
theorem d_Mo_decode_27 : decode b_Mo_decode 27 = .ok (.isub, 1) := by decide +kernel
theorem d_Mo_decode_28 : decode b_Mo_decode 28 = .ok (.ireturn, 1) := by decide +kernel
theorem d_Mo_decode_29 : decode b_Mo_decode 29 = .ok (.aload_n 0, 1) := by decide +kernel
theorem d_Mo_decode_30 : decode b_Mo_decode 30 = .ok (.iload_n 1, 1) := by decide +kernel
theorem d_Mo_decode_31 : decode b_Mo_decode 31 = .ok (.invokevirtual 237, 3) := by decide +kernel
theorem d_Mo_decode_34 : decode b_Mo_decode 34 = .ok (.istore_n 2, 1) := by decide +kernel
theorem d_Mo_decode_35 : decode b_Mo_decode 35 = .ok (.iload_n 2, 1) := by decide +kernel
theorem d_Mo_decode_36 : decode b_Mo_decode 36 = .ok (.bipush 22, 2) := by decide +kernel
theorem d_Mo_decode_38 : decode b_Mo_decode 38 = .ok (.ishr, 1) := by decide +kernel
theorem d_Mo_decode_39 : decode b_Mo_decode 39 = .ok (.ifCond .ne 34, 3) := by decide +kernel
theorem d_Mo_decode_42 : decode b_Mo_decode 42 = .ok (.iload_n 2, 1) := by decide +kernel
theorem d_Mo_decode_43 : decode b_Mo_decode 43 = .ok (.sipush 1023, 3) := by decide +kernel
theorem d_Mo_decode_46 : decode b_Mo_decode 46 = .ok (.iand, 1) := by decide +kernel
theorem d_Mo_decode_47 : decode b_Mo_decode 47 = .ok (.invokestatic 240, 3) := by decide +kernel
theorem d_Mo_decode_50 : decode b_Mo_decode 50 = .ok (.sipush 1000, 3) := by decide +kernel
theorem d_Mo_decode_53 : decode b_Mo_decode 53 = .ok (.if_icmp .eq 20, 3) := by decide +kernel
theorem d_Mo_decode_56 : decode b_Mo_decode 56 = .ok (.iload_n 2, 1) := by decide +kernel
theorem d_Mo_decode_57 : decode b_Mo_decode 57 = .ok (.bipush 10, 2) := by decide +kernel
theorem d_Mo_decode_59 : decode b_Mo_decode 59 = .ok (.ishr, 1) := by decide +kernel
theorem d_Mo_decode_60 : decode b_Mo_decode 60 = .ok (.sipush 1023, 3) := by decide +kernel
theorem d_Mo_decode_63 : decode b_Mo_decode 63 = .ok (.iand, 1) := by decide +kernel
theorem d_Mo_decode_64 : decode b_Mo_decode 64 = .ok (.invokestatic 240, 3) := by decide +kernel
theorem d_Mo_decode_67 : decode b_Mo_decode 67 = .ok (.sipush 1000, 3) := by decide +kernel
theorem d_Mo_decode_70 : decode b_Mo_decode 70 = .ok (.if_icmp .ne 7, 3) := by decide +kernel
theorem d_Mo_decode_73 : decode b_Mo_decode 73 = .ok (.iconst (-1), 1) := by decide +kernel
theorem d_Mo_decode_74 : decode b_Mo_decode 74 = .ok (.iload_n 1, 1) := by decide +kernel
theorem d_Mo_decode_75 : decode b_Mo_decode 75 = .ok (.isub, 1) := by decide +kernel
theorem d_Mo_decode_76 : decode b_Mo_decode 76 = .ok (.ireturn, 1) := by decide +kernel
theorem d_Mo_decode_77 : decode b_Mo_decode 77 = .ok (.iinc 1 3, 3) := by decide +kernel
theorem d_Mo_decode_80 : decode b_Mo_decode 80 = .ok (.goto (-73), 3) := by decide +kernel
theorem d_Mo_decode_83 : decode b_Mo_decode 83 = .ok (.aload_n 0, 1) := by decide +kernel
theorem d_Mo_decode_84 : decode b_Mo_decode 84 = .ok (.aload_n 0, 1) := by decide +kernel
theorem d_Mo_decode_85 : decode b_Mo_decode 85 = .ok (.getfield 103, 3) := by decide +kernel
theorem d_Mo_decode_88 : decode b_Mo_decode 88 = .ok (.iconst 3, 1) := by decide +kernel
theorem d_Mo_decode_89 : decode b_Mo_decode 89 = .ok (.idiv, 1) := by decide +kernel
theorem d_Mo_decode_90 : decode b_Mo_decode 90 = .ok (.putfield 73, 3) := by decide +kernel
theorem d_Mo_decode_93 : decode b_Mo_decode 93 = .ok (.iconst 0, 1) := by decide +kernel
theorem d_Mo_decode_94 : decode b_Mo_decode 94 = .ok (.istore_n 1, 1) := by decide +kernel
theorem d_Mo_decode_95 : decode b_Mo_decode 95 = .ok (.iload_n 1, 1) := by decide +kernel
theorem d_Mo_decode_96 : decode b_Mo_decode 96 = .ok (.aload_n 0, 1) := by decide +kernel
theorem d_Mo_decode_97 : decode b_Mo_decode 97 = .ok (.getfield 73, 3) := by decide +kernel
theorem d_Mo_decode_100 : decode b_Mo_decode 100 = .ok (.if_icmp .ge 58, 3) := by decide +kernel
theorem d_Mo_decode_103 : decode b_Mo_decode 103 = .ok (.aload_n 0, 1) := by decide +kernel
theorem d_Mo_decode_104 : decode b_Mo_decode 104 = .ok (.iconst 3, 1) := by decide +kernel
theorem d_Mo_decode_105 : decode b_Mo_decode 105 = .ok (.iload_n 1, 1) := by decide +kernel
theorem d_Mo_decode_106 : decode b_Mo_decode 106 = .ok (.imul, 1) := by decide +kernel
theorem d_Mo_decode_107 : decode b_Mo_decode 107 = .ok (.invokevirtual 237, 3) := by decide +kernel
theorem d_Mo_decode_110 : decode b_Mo_decode 110 = .ok (.istore_n 2, 1) := by decide +kernel
theorem d_Mo_decode_111 : decode b_Mo_decode 111 = .ok (.aload_n 0, 1) := by decide +kernel
theorem d_Mo_decode_112 : decode b_Mo_decode 112 = .ok (.getfield 76, 3) := by decide +kernel
theorem d_Mo_decode_115 : decode b_Mo_decode 115 = .ok (.iload_n 1, 1) := by decide +kernel
theorem d_Mo_decode_116 : decode b_Mo_decode 116 = .ok (.iload_n 2, 1) := by decide +kernel
theorem d_Mo_decode_117 : decode b_Mo_decode 117 = .ok (.sipush 1023, 3) := by decide +kernel
theorem d_Mo_decode_120 : decode b_Mo_decode 120 = .ok (.iand, 1) := by decide +kernel
theorem d_Mo_decode_121 : decode b_Mo_decode 121 = .ok (.invokestatic 240, 3) := by decide +kernel
theorem d_Mo_decode_124 : decode b_Mo_decode 124 = .ok (.iastore, 1) := by decide +kernel
theorem d_Mo_decode_125 : decode b_Mo_decode 125 = .ok (.aload_n 0, 1) := by decide +kernel
theorem d_Mo_decode_126 : decode b_Mo_decode 126 = .ok (.getfield 79, 3) := by decide +kernel
theorem d_Mo_decode_129 : decode b_Mo_decode 129 = .ok (.iload_n 1, 1) := by decide +kernel
theorem d_Mo_decode_130 : decode b_Mo_decode 130 = .ok (.iload_n 2, 1) := by decide +kernel
theorem d_Mo_decode_131 : decode b_Mo_decode 131 = .ok (.bipush 10, 2) := by decide +kernel
theorem d_Mo_decode_133 : decode b_Mo_decode 133 = .ok (.ishr, 1) := by decide +kernel
theorem d_Mo_decode_134 : decode b_Mo_decode 134 = .ok (.sipush 1023, 3) := by decide +kernel
theorem d_Mo_decode_137 : decode b_Mo_decode 137 = .ok (.iand, 1) := by decide +kernel
theorem d_Mo_decode_138 : decode b_Mo_decode 138 = .ok (.invokestatic 240, 3) := by decide +kernel
theorem d_Mo_decode_141 : decode b_Mo_decode 141 = .ok (.iastore, 1) := by decide +kernel
theorem d_Mo_decode_142 : decode b_Mo_decode 142 = .ok (.aload_n 0, 1) := by decide +kernel
theorem d_Mo_decode_143 : decode b_Mo_decode 143 = .ok (.getfield 82, 3) := by decide +kernel
theorem d_Mo_decode_146 : decode b_Mo_decode 146 = .ok (.iload_n 1, 1) := by decide +kernel
theorem d_Mo_decode_147 : decode b_Mo_decode 147 = .ok (.iload_n 2, 1) := by decide +kernel
theorem d_Mo_decode_148 : decode b_Mo_decode 148 = .ok (.bipush 20, 2) := by decide +kernel
theorem d_Mo_decode_150 : decode b_Mo_decode 150 = .ok (.ishr, 1) := by decide +kernel
theorem d_Mo_decode_151 : decode b_Mo_decode 151 = .ok (.iastore, 1) := by decide +kernel
theorem d_Mo_decode_152 : decode b_Mo_decode 152 = .ok (.iinc 1 1, 3) := by decide +kernel
theorem d_Mo_decode_155 : decode b_Mo_decode 155 = .ok (.goto (-60), 3) := by decide +kernel
theorem d_Mo_decode_158 : decode b_Mo_decode 158 = .ok (.aload_n 0, 1) := by decide +kernel
theorem d_Mo_decode_159 : decode b_Mo_decode 159 = .ok (.iconst 0, 1) := by decide +kernel
theorem d_Mo_decode_160 : decode b_Mo_decode 160 = .ok (.putfield 103, 3) := by decide +kernel
theorem d_Mo_decode_163 : decode b_Mo_decode 163 = .ok (.aload_n 0, 1) := by decide +kernel
theorem d_Mo_decode_164 : decode b_Mo_decode 164 = .ok (.getfield 73, 3) := by decide +kernel
theorem d_Mo_decode_167 : decode b_Mo_decode 167 = .ok (.ireturn, 1) := by decide +kernel
set_option maxHeartbeats 1000000 in
set_option maxRecDepth 100000 in
theorem c_Mo_decode (F : Nat → Nat → Int) (G : Nat → Int → Int) (hB : byOk (G 261) (F 244 30)) : cI y_Mo_decode b_Mo_decode 3 (some .int) 1 24 F G (fun ad => [.ref (ad 244)]) (fun z F' G' => (∃ i : Int, (0 ≤ i ∧ i < F 244 30) ∧ fWrong (G 261) (F 244 30) i ∧ z = -1 - i ∧ F' = fU F 244 0 0 ∧ G' = G) ∨ (fWrong (G 261) (F 244 30) (-1) ∧ F 244 30 % 3 = 0 ∧ z = F 244 30 / 3 ∧ F' = fU (fU (fU F 244 0 0) 244 20 (F 244 30 / 3)) 244 30 0 ∧ (∀ a : Nat, a ≠ 258 → a ≠ 259 → a ≠ 260 → G' a = G a) ∧ ∀ j : Int, 0 ≤ j → j < F 244 30 / 3 → G' 258 j = numC (grpA (G 261) (3 * j) % 1024) ∧ G' 259 j = numC (grpA (G 261) (3 * j) / 1024 % 1024) ∧ G' 260 j = grpA (G 261) (3 * j) / 1048576)) := by
  have hL := hB.1
  intro s0 a0 D t ad
  refine g_startI (by decide +kernel) (Nat.le_of_ble_eq_true rfl) (fun p l e R s m args below meth c A ok => ?_)
  show gW p l e R s m args below meth c _ D A 3 (gZ0 s) 0 0 ad 265 (mem ad t F G) 0 [(0, .ref (ad 244))] []
  refine g_aload_n ok d_Mo_decode_0 rfl 0 rfl ?_
  refine g_iconst ok d_Mo_decode_1 ?_
  refine pI_Mo_thrownCode ok _ rfl k_989 d_Mo_decode_2 ?_
  refine g_iconst ok d_Mo_decode_5 ?_
  refine g_istore_n (lv' := [(1, .int (iI 0)), (0, .ref (ad 244))]) ok d_Mo_decode_6 rfl (by decide) rfl ?_
  have L_i : ∀ (n_i : Nat) (i : Int), (0 ≤ i ∧ i ≤ F 244 30 + 3 ∧ i % 3 = 0) → (∀ j : Int, 0 ≤ j → j < i → j % 3 = 0 → ¬ dWrong (G 261) (F 244 30) j) → (F 244 30 + 4 - i) < (n_i : Int) → gW p l e R s m args below meth c (MQ below (gQi D A ad 265 (fun z ce' => ∃ F' G', ce' = mem ad t F' G' ∧ (fun z F' G' => (∃ i : Int, (0 ≤ i ∧ i < F 244 30) ∧ fWrong (G 261) (F 244 30) i ∧ z = -1 - i ∧ F' = fU F 244 0 0 ∧ G' = G) ∨ (fWrong (G 261) (F 244 30) (-1) ∧ F 244 30 % 3 = 0 ∧ z = F 244 30 / 3 ∧ F' = fU (fU (fU F 244 0 0) 244 20 (F 244 30 / 3)) 244 30 0 ∧ (∀ a : Nat, a ≠ 258 → a ≠ 259 → a ≠ 260 → G' a = G a) ∧ ∀ j : Int, 0 ≤ j → j < F 244 30 / 3 → G' 258 j = numC (grpA (G 261) (3 * j) % 1024) ∧ G' 259 j = numC (grpA (G 261) (3 * j) / 1024 % 1024) ∧ G' 260 j = grpA (G 261) (3 * j) / 1048576)) z F' G')) args s 0 0 A) D A 3 (gZ) 0 0 ad 265 (mem ad t (fU F 244 0 0) G) 7 [(0, .ref (ad 244)), (1, .int (iI i))] [] := by
    intro n_i
    induction n_i with
    | zero =>
      intro i hi ho hm_i
      exact absurd hm_i (by omega)
    | succ n_i ih_i =>
      intro i hi ho hm_i
      refine g_iload_n ok d_Mo_decode_7 rfl 1 rfl ?_
      refine g_aload_n ok d_Mo_decode_8 rfl 0 rfl ?_
      refine gI_Mo_loaded ok _ rfl k_1019 d_Mo_decode_9 ?_
      refine g_top (y := F 244 30) (by show (fU F 244 0 0) 244 30 = _; rw [fU_ja (show (30 : Nat) ≠ 0 by decide)]) ?_
      refine g_icmp_ge ok 83 d_Mo_decode_12 (by decide) (by omega) (by omega) (fun h1 => ?_) (fun h1 => ?_)
      · have hno : ∀ j : Int, 0 ≤ j → j < F 244 30 → j % 3 = 0 → ¬ dWrong (G 261) (F 244 30) j := fun j q1 q2 q3 => ho j q1 (by omega) q3
        have hL3 : F 244 30 % 3 = 0 := by
          rcases Classical.em (F 244 30 % 3 = 0) with q | q
          · exact q
          · exact absurd (Or.inl (by omega)) (hno (F 244 30 / 3 * 3) (by omega) (by omega) (by omega))
        refine g_aload_n ok d_Mo_decode_83 rfl 0 rfl ?_
        refine g_aload_n ok d_Mo_decode_84 rfl 0 rfl ?_
        refine gI_Mo_loaded ok _ rfl k_1019 d_Mo_decode_85 ?_
        refine g_top (y := F 244 30) (by show (fU F 244 0 0) 244 30 = _; rw [fU_ja (show (30 : Nat) ≠ 0 by decide)]) ?_
        refine g_iconst ok d_Mo_decode_88 ?_
        refine g_idiv (z := F 244 30 / 3) ok (iI_ne0 (by decide)) (iI_divN (by omega) (by decide)) d_Mo_decode_89 ?_
        refine pI_Mo_records ok _ rfl k_1009 d_Mo_decode_90 ?_
        refine g_iconst ok d_Mo_decode_93 ?_
        refine g_istore_n (lv' := [(1, .int (iI 0)), (0, .ref (ad 244))]) ok d_Mo_decode_94 rfl (by decide) rfl ?_
        have L_r : ∀ (n_r : Nat) (r : Int) (G1 : Nat → Int → Int), (0 ≤ r ∧ r ≤ F 244 30 / 3) → (∀ a : Nat, (a ≠ 258 ∧ a ≠ 259 ∧ a ≠ 260) → G1 a = G a) → (∀ j : Int, 0 ≤ j → j < r → G1 258 j = numC (grpA (G 261) (3 * j) % 1024) ∧ G1 259 j = numC (grpA (G 261) (3 * j) / 1024 % 1024) ∧ G1 260 j = grpA (G 261) (3 * j) / 1048576) → (F 244 30 / 3 + 1 - r) < (n_r : Int) → gW p l e R s m args below meth c (MQ below (gQi D A ad 265 (fun z ce' => ∃ F' G', ce' = mem ad t F' G' ∧ (fun z F' G' => (∃ i : Int, (0 ≤ i ∧ i < F 244 30) ∧ fWrong (G 261) (F 244 30) i ∧ z = -1 - i ∧ F' = fU F 244 0 0 ∧ G' = G) ∨ (fWrong (G 261) (F 244 30) (-1) ∧ F 244 30 % 3 = 0 ∧ z = F 244 30 / 3 ∧ F' = fU (fU (fU F 244 0 0) 244 20 (F 244 30 / 3)) 244 30 0 ∧ (∀ a : Nat, a ≠ 258 → a ≠ 259 → a ≠ 260 → G' a = G a) ∧ ∀ j : Int, 0 ≤ j → j < F 244 30 / 3 → G' 258 j = numC (grpA (G 261) (3 * j) % 1024) ∧ G' 259 j = numC (grpA (G 261) (3 * j) / 1024 % 1024) ∧ G' 260 j = grpA (G 261) (3 * j) / 1048576)) z F' G')) args s 0 0 A) D A 3 (gZ) 0 0 ad 265 (mem ad t (fU (fU F 244 0 0) 244 20 (F 244 30 / 3)) G1) 95 [(0, .ref (ad 244)), (1, .int (iI r))] [] := by
          intro n_r
          induction n_r with
          | zero =>
            intro r G1 hr hfr hcd hm_r
            exact absurd hm_r (by omega)
          | succ n_r ih_r =>
            intro r G1 hr hfr hcd hm_r
            refine g_iload_n ok d_Mo_decode_95 rfl 1 rfl ?_
            refine g_aload_n ok d_Mo_decode_96 rfl 0 rfl ?_
            refine gI_Mo_records ok _ rfl k_1009 d_Mo_decode_97 ?_
            refine g_top (y := F 244 30 / 3) (by show (fU (fU F 244 0 0) 244 20 (F 244 30 / 3)) 244 20 = _; rw [fU_hit]) ?_
            refine g_icmp_ge ok 158 d_Mo_decode_100 (by decide) (by omega) (by omega) (fun h2 => ?_) (fun h2 => ?_)
            · refine g_aload_n ok d_Mo_decode_158 rfl 0 rfl ?_
              refine g_iconst ok d_Mo_decode_159 ?_
              refine pI_Mo_loaded ok _ rfl k_1019 d_Mo_decode_160 ?_
              refine g_aload_n ok d_Mo_decode_163 rfl 0 rfl ?_
              refine gI_Mo_records ok _ rfl k_1009 d_Mo_decode_164 ?_
              refine g_top (y := F 244 30 / 3) (by show (fU (fU (fU F 244 0 0) 244 20 (F 244 30 / 3)) 244 30 0) 244 20 = _; rw [fU_ja (show (20 : Nat) ≠ 30 by decide), fU_hit]) ?_
              exact g_iret ok d_Mo_decode_167 ⟨_, _, rfl, Or.inr ⟨Or.inl ⟨rfl, hno⟩, hL3, by omega, rfl, fun a q1 q2 q3 => hfr a ⟨q1, q2, q3⟩, fun j q1 q2 => hcd j q1 (by omega)⟩⟩
            · refine g_aload_n ok d_Mo_decode_103 rfl 0 rfl ?_
              refine g_iconst ok d_Mo_decode_104 ?_
              refine g_iload_n ok d_Mo_decode_105 rfl 1 rfl ?_
              refine g_imul ok d_Mo_decode_106 ?_
              refine g_callPV (As := [.int (iI (3 * r))]) (st := []) ok _ (c_Mo_group (fU (fU F 244 0 0) 244 20 (F 244 30 / 3)) G1 _ (by omega) (by rw [hfr 261 (by decide)]; exact hB.2 _ (by omega) (by omega)) (by rw [hfr 261 (by decide)]; exact hB.2 _ (by omega) (by omega)) (by rw [hfr 261 (by decide)]; exact hB.2 _ (by omega) (by omega)) s0 a0 D t ad) k_1271 k_11 k_1268 cl_Mo (m_Mo (ad := ad) (t := t) (F := (fU (fU F 244 0 0) 244 20 (F 244 30 / 3))) (G := G1) rfl).1 (m_Mo rfl).2 k_1270 s_Mo_group q_Mo_group (by decide) (Nat.le_of_ble_eq_true rfl) (by decide) d_Mo_decode_107 (fun z3 hc3 => ?_)
              subst hc3
              refine g_top (y := grpA (G 261) (3 * r)) (by rw [← hfr 261 (by decide)]; rfl) ?_
              have hgr := grp_rng hB (i := 3 * r) (by omega)
              refine g_istore_n (lv' := [(2, .int (iI (grpA (G 261) (3 * r)))), (0, .ref (ad 244)), (1, .int (iI r))]) ok d_Mo_decode_110 rfl (by decide) rfl ?_
              have hok : okRec (grpA (G 261) (3 * r)) := by have h := hno (3 * r) (by omega) (by omega) (by omega); unfold dWrong at h; exact Classical.not_not.mp (fun q => h (Or.inr q))
              refine g_aload_n ok d_Mo_decode_111 rfl 1 rfl ?_
              refine gI_Mo_dx ok _ rfl k_1010 d_Mo_decode_112 ?_
              refine g_iload_n ok d_Mo_decode_115 rfl 2 rfl ?_
              refine g_iload_n ok d_Mo_decode_116 rfl 0 rfl ?_
              refine g_sipush ok (by decide) d_Mo_decode_117 ?_
              refine g_iand (z := (grpA (G 261) (3 * r)) % 1024) ok (iI_mask 10 (by omega) rfl (by decide)) d_Mo_decode_120 ?_
              refine g_callPS (As := [.int (iI ((grpA (G 261) (3 * r)) % 1024))]) (st := [.int (iI r), .ref (ad 258)]) ok (c_Mo_number (fU (fU F 244 0 0) 244 20 (F 244 30 / 3)) G1 _ (by omega) s0 a0 D t ad) k_1274 k_11 k_1272 k_1273 q_Mo_number (by decide) (Nat.le_of_ble_eq_true rfl) (by decide) d_Mo_decode_121 (fun z4 hc4 => ?_)
              have hn4 := num_iff hc4
              have hm4 : z4 = numC ((grpA (G 261) (3 * r)) % 1024) := by rcases hc4 with q | q; exact absurd q.2 hok.1; exact q.2
              subst hm4
              refine h_iast ok _ a_258 (by omega) d_Mo_decode_124 ?_
              refine g_aload_n ok d_Mo_decode_125 rfl 1 rfl ?_
              refine gI_Mo_dy ok _ rfl k_1011 d_Mo_decode_126 ?_
              refine g_iload_n ok d_Mo_decode_129 rfl 2 rfl ?_
              refine g_iload_n ok d_Mo_decode_130 rfl 0 rfl ?_
              refine g_bipush ok (by decide) d_Mo_decode_131 ?_
              refine g_ishr (z := (grpA (G 261) (3 * r)) / 1024) ok (iI_shr 10 (by decide) (by omega) rfl) d_Mo_decode_133 ?_
              refine g_sipush ok (by decide) d_Mo_decode_134 ?_
              refine g_iand (z := ((grpA (G 261) (3 * r)) / 1024) % 1024) ok (iI_mask 10 (by omega) rfl (by decide)) d_Mo_decode_137 ?_
              refine g_callPS (As := [.int (iI (((grpA (G 261) (3 * r)) / 1024) % 1024))]) (st := [.int (iI r), .ref (ad 259)]) ok (c_Mo_number (fU (fU F 244 0 0) 244 20 (F 244 30 / 3)) (gU G1 258 r (numC ((grpA (G 261) (3 * r)) % 1024))) _ (by omega) s0 a0 D t ad) k_1274 k_11 k_1272 k_1273 q_Mo_number (by decide) (Nat.le_of_ble_eq_true rfl) (by decide) d_Mo_decode_138 (fun z5 hc5 => ?_)
              have hn5 := num_iff hc5
              have hm5 : z5 = numC (((grpA (G 261) (3 * r)) / 1024) % 1024) := by rcases hc5 with q | q; exact absurd q.2 hok.2.1; exact q.2
              subst hm5
              refine h_iast ok _ a_259 (by omega) d_Mo_decode_141 ?_
              refine g_aload_n ok d_Mo_decode_142 rfl 1 rfl ?_
              refine gI_Mo_kind ok _ rfl k_1012 d_Mo_decode_143 ?_
              refine g_iload_n ok d_Mo_decode_146 rfl 2 rfl ?_
              refine g_iload_n ok d_Mo_decode_147 rfl 0 rfl ?_
              refine g_bipush ok (by decide) d_Mo_decode_148 ?_
              refine g_ishr (z := (grpA (G 261) (3 * r)) / 1048576) ok (iI_shr 20 (by decide) (by omega) rfl) d_Mo_decode_150 ?_
              refine h_iast ok _ a_260 (by omega) d_Mo_decode_151 ?_
              refine g_iinc (lv' := [(1, .int (iI (r + 1))), (2, .int (iI (grpA (G 261) (3 * r)))), (0, .ref (ad 244))]) ok d_Mo_decode_152 2 rfl (by decide) rfl ?_
              refine g_goto ok 95 d_Mo_decode_155 (by decide) ?_
              refine g_lv [2, 0] rfl ?_
              exact ih_r (r + 1) (gU (gU (gU G1 258 r (numC ((grpA (G 261) (3 * r)) % 1024))) 259 r (numC (((grpA (G 261) (3 * r)) / 1024) % 1024))) 260 r ((grpA (G 261) (3 * r)) / 1048576)) (by omega) (fun a q => by rw [gU_k _ _ _ q.2.2, gU_k _ _ _ q.2.1, gU_k _ _ _ q.1]; exact hfr a q) (fun j q1 q2 => (Int.lt_or_eq_of_le (show j ≤ r by omega)).elim (fun z => by rw [gU_a (by decide), gU_a (by decide), gU_i (by omega), gU_a (by decide), gU_i (by omega), gU_a (by decide), gU_i (by omega), gU_a (by decide), gU_a (by decide)]; exact hcd j q1 z) (fun z => by subst z; rw [gU_a (by decide), gU_a (by decide), gU_hit, gU_a (by decide), gU_hit, gU_hit]; exact ⟨rfl, rfl, rfl⟩)) (by omega)
        refine g_z ?_
        refine g_lv [1, 0] rfl ?_
        exact L_r ((F 244 30 / 3 + 1 - 0 : Int).toNat + 1) 0 G (by omega) (fun _ _ => rfl) (fun j q1 q2 => by omega) (by omega)
      · refine g_iload_n ok d_Mo_decode_15 rfl 1 rfl ?_
        refine g_iconst ok d_Mo_decode_16 ?_
        refine g_iadd ok d_Mo_decode_17 ?_
        refine g_aload_n ok d_Mo_decode_18 rfl 0 rfl ?_
        refine gI_Mo_loaded ok _ rfl k_1019 d_Mo_decode_19 ?_
        refine g_top (y := F 244 30) (by show (fU F 244 0 0) 244 30 = _; rw [fU_ja (show (30 : Nat) ≠ 0 by decide)]) ?_
        refine g_icmp_le ok 29 d_Mo_decode_22 (by decide) (by omega) (by omega) (fun h6 => ?_) (fun h6 => ?_)
        · refine g_aload_n ok d_Mo_decode_29 rfl 0 rfl ?_
          refine g_iload_n ok d_Mo_decode_30 rfl 1 rfl ?_
          refine g_callPV (As := [.int (iI i)]) (st := []) ok _ (c_Mo_group (fU F 244 0 0) G _ (by omega) (hB.2 _ (by omega) (by omega)) (hB.2 _ (by omega) (by omega)) (hB.2 _ (by omega) (by omega)) s0 a0 D t ad) k_1271 k_11 k_1268 cl_Mo (m_Mo (ad := ad) (t := t) (F := (fU F 244 0 0)) (G := G) rfl).1 (m_Mo rfl).2 k_1270 s_Mo_group q_Mo_group (by decide) (Nat.le_of_ble_eq_true rfl) (by decide) d_Mo_decode_31 (fun z7 hc7 => ?_)
          subst hc7
          refine g_top (y := grpA (G 261) i) (by rfl) ?_
          have hgr := grp_rng hB (i := i) (by omega)
          refine g_istore_n (lv' := [(2, .int (iI (grpA (G 261) i))), (0, .ref (ad 244)), (1, .int (iI i))]) ok d_Mo_decode_34 rfl (by decide) rfl ?_
          refine g_iload_n ok d_Mo_decode_35 rfl 0 rfl ?_
          refine g_bipush ok (by decide) d_Mo_decode_36 ?_
          refine g_ishr (z := (grpA (G 261) i) / 4194304) ok (iI_shr 22 (by decide) (by omega) rfl) d_Mo_decode_38 ?_
          refine g_if_ne ok 73 d_Mo_decode_39 (by decide) (by omega) (fun h8 => ?_) (fun h8 => ?_)
          · refine g_iconst ok d_Mo_decode_73 ?_
            refine g_iload_n ok d_Mo_decode_74 rfl 2 rfl ?_
            refine g_isub ok d_Mo_decode_75 ?_
            exact g_iret ok d_Mo_decode_76 ⟨_, _, rfl, Or.inl ⟨i, by omega, Or.inr ⟨by omega, Or.inr (fun q => by have := q.2.2; omega), ho⟩, rfl, rfl, rfl⟩⟩
          · refine g_iload_n ok d_Mo_decode_42 rfl 0 rfl ?_
            refine g_sipush ok (by decide) d_Mo_decode_43 ?_
            refine g_iand (z := (grpA (G 261) i) % 1024) ok (iI_mask 10 (by omega) rfl (by decide)) d_Mo_decode_46 ?_
            refine g_callPS (As := [.int (iI ((grpA (G 261) i) % 1024))]) (st := []) ok (c_Mo_number (fU F 244 0 0) G _ (by omega) s0 a0 D t ad) k_1274 k_11 k_1272 k_1273 q_Mo_number (by decide) (Nat.le_of_ble_eq_true rfl) (by decide) d_Mo_decode_47 (fun z9 hc9 => ?_)
            have hn9 := num_iff hc9
            refine g_sipush ok (by decide) d_Mo_decode_50 ?_
            refine g_icmp_eq ok 73 d_Mo_decode_53 (by decide) (by omega) (by omega) (fun h10 => ?_) (fun h10 => ?_)
            · refine g_iconst ok d_Mo_decode_73 ?_
              refine g_iload_n ok d_Mo_decode_74 rfl 2 rfl ?_
              refine g_isub ok d_Mo_decode_75 ?_
              exact g_iret ok d_Mo_decode_76 ⟨_, _, rfl, Or.inl ⟨i, by omega, Or.inr ⟨by omega, Or.inr (fun q => q.1 (hn9.1.mp (by omega))), ho⟩, rfl, rfl, rfl⟩⟩
            · refine g_iload_n ok d_Mo_decode_56 rfl 0 rfl ?_
              refine g_bipush ok (by decide) d_Mo_decode_57 ?_
              refine g_ishr (z := (grpA (G 261) i) / 1024) ok (iI_shr 10 (by decide) (by omega) rfl) d_Mo_decode_59 ?_
              refine g_sipush ok (by decide) d_Mo_decode_60 ?_
              refine g_iand (z := ((grpA (G 261) i) / 1024) % 1024) ok (iI_mask 10 (by omega) rfl (by decide)) d_Mo_decode_63 ?_
              refine g_callPS (As := [.int (iI (((grpA (G 261) i) / 1024) % 1024))]) (st := []) ok (c_Mo_number (fU F 244 0 0) G _ (by omega) s0 a0 D t ad) k_1274 k_11 k_1272 k_1273 q_Mo_number (by decide) (Nat.le_of_ble_eq_true rfl) (by decide) d_Mo_decode_64 (fun z11 hc11 => ?_)
              have hn11 := num_iff hc11
              refine g_sipush ok (by decide) d_Mo_decode_67 ?_
              refine g_icmp_ne ok 77 d_Mo_decode_70 (by decide) (by omega) (by omega) (fun h12 => ?_) (fun h12 => ?_)
              · refine g_iinc (lv' := [(1, .int (iI (i + 3))), (2, .int (iI (grpA (G 261) i))), (0, .ref (ad 244))]) ok d_Mo_decode_77 2 rfl (by decide) rfl ?_
                refine g_goto ok 7 d_Mo_decode_80 (by decide) ?_
                refine g_lv [2, 0] rfl ?_
                exact ih_i (i + 3) (by omega) (fun j q1 q2 q3 => (Int.lt_or_le j i).elim (fun z => ho j q1 z q3) (fun z => by have e : j = i := (by omega); subst e; exact fun q => q.elim (fun q => by omega) (fun q => q ⟨fun h => absurd (hn9.1.mpr h) (by omega), fun h => absurd (hn11.1.mpr h) (by omega), by omega⟩))) (by omega)
              · refine g_iconst ok d_Mo_decode_73 ?_
                refine g_iload_n ok d_Mo_decode_74 rfl 2 rfl ?_
                refine g_isub ok d_Mo_decode_75 ?_
                exact g_iret ok d_Mo_decode_76 ⟨_, _, rfl, Or.inl ⟨i, by omega, Or.inr ⟨by omega, Or.inr (fun q => q.2.1 (hn11.1.mp (by omega))), ho⟩, rfl, rfl, rfl⟩⟩
        · refine g_iconst ok d_Mo_decode_25 ?_
          refine g_iload_n ok d_Mo_decode_26 rfl 1 rfl ?_
          refine g_isub ok d_Mo_decode_27 ?_
          exact g_iret ok d_Mo_decode_28 ⟨_, _, rfl, Or.inl ⟨i, by omega, Or.inr ⟨by omega, Or.inl (by omega), ho⟩, rfl, rfl, rfl⟩⟩
  refine g_z ?_
  refine g_lv [1, 0] rfl ?_
  exact L_i ((F 244 30 + 4 - 0 : Int).toNat + 1) 0 (by omega) (fun j q1 q2 => by omega) (by omega)
