/-! the law's methods that catch -/
theorem i2l_eq (z : Int) : (iI z).toInt64 = Int64.ofInt (iI z).toInt := by
  have h := iI_rng (iI z)
  apply Int64.toInt_inj.mp
  rw [Int32.toInt_toInt64, Int64.toInt_ofInt_of_le (by omega) (by omega)]
section LR
variable {s0 : State} {a0 : Array Value} {D : va_G} {t : Nat → ClassId} {p : Program} {l : Launch} {e : Env} {R : Room} {s : State} {m : MethodId} {args : Array Value} {below : List Frame} {meth : Method} {c : Code} {Q : State → Prop} {Z : Heap → List Loc → Prop} {A : Nat → Prop} {own : String} {cc : ByteArray} {nL : Nat} {ret : Option FieldType} {mn : String} {fr lo mc ms : Nat} {cells slots : Nat} {ad : Nat → Nat} {n : Nat} {ce : Nat → va_E} {pc : Nat} {lv lv' : List (Nat × Value)} {st : List Value} {F : Nat → Nat → Int} {G : Nat → Int → Int}
theorem g_i2l (ok : gOk s0 a0 D t p R s m meth c A own cc nL ret mn fr lo mc ms) {z : Int} (hd : decode cc pc = .ok (.i2l, 1)) (kk : gW p l e R s m args below meth c Q D A nL Z cells slots ad 265 (mem ad t F G) (pc + 1) lv (.long (Int64.ofInt (iI z).toInt) :: st)) : gW p l e R s m args below meth c Q D A nL Z cells slots ad 265 (mem ad t F G) pc lv (.int (iI z) :: st) :=
  fun H locs ls hZ hP hD hS hl => lv_i2l ok.x ok.b hd (i2l_eq z) (kk H locs ls hZ hP hD hS hl)
theorem h_last (ok : gOk s0 a0 D t p R s m meth c A own cc nL ret mn fr lo mc ms) {v : Int} (hd : decode cc pc = .ok (.lastore, 1)) (kk : gW p l e R s m args below meth c Q D A nL gZ cells slots ad 265 (mem ad t F (gU G 264 0 v)) (pc + 1) lv st) : gW p l e R s m args below meth c Q D A nL Z cells slots ad 265 (mem ad t F G) pc lv (.long (Int64.ofInt v) :: .int (iI 0) :: .ref (ad 264) :: st) := by
  intro H locs ls hZ hP hD hS hl
  refine va_last ok.x ok.b ok.k hP hD hS 264 1 (n := 1) (f := fun j => Int64.ofInt (G 264 (j : Int))) ((wW_get (by decide)).trans rfl) rfl (iI_in (by decide) (by decide)) hd (fun H1 locs1 hP1 hD1 hS1 => ?_)
  have hu : vp_updL (fun j : Nat => Int64.ofInt (G 264 (j : Int))) (iI 0).toNatClampNeg (Int64.ofInt v) = fun j : Nat => Int64.ofInt (zU (G 264) 0 v (j : Int)) := by
    funext j
    have h0 : (iI 0).toNatClampNeg = 0 := by decide
    unfold vp_updL zU
    rw [h0]
    by_cases hj : j = 0
    · subst hj
      simp
    · simp [hj, show ¬ (j : Int) = 0 by omega]
  rw [hu, wW_set] at hP1 hD1
  have q : va_up (mem ad t F G) 264 (.inl (t 1, 1, .inr (.inl (fun j : Nat => Int64.ofInt (zU (G 264) 0 v (j : Int)))))) = mem ad t F (gU G 264 0 v) := mem_set (by rw [← gU_self]; rfl)
  rw [q] at hP1 hD1
  exact kk H1 locs1 ls trivial hP1 hD1 hS1 hl
theorem h_lald (ok : gOk s0 a0 D t p R s m meth c A own cc nL ret mn fr lo mc ms) (hd : decode cc pc = .ok (.laload, 1)) (kk : gW p l e R s m args below meth c Q D A nL Z cells slots ad 265 (mem ad t F G) (pc + 1) lv (.long (Int64.ofInt (G 264 0)) :: st)) : gW p l e R s m args below meth c Q D A nL Z cells slots ad 265 (mem ad t F G) pc lv (.int (iI 0) :: .ref (ad 264) :: st) := by
  intro H locs ls hZ hP hD hS hl
  refine va_lald ok.x ok.b ok.k hP 264 1 (n := 1) (f := fun j => Int64.ofInt (G 264 (j : Int))) ((wW_get (by decide)).trans rfl) rfl (iI_in (by decide) (by decide)) hd ?_
  exact kk H locs ls hZ hP hD hS hl
theorem g_lcmpE (ok : gOk s0 a0 D t p R s m meth c A own cc nL ret mn fr lo mc ms) {x : Int64} (hd : decode cc pc = .ok (.lcmp, 1)) (kk : gW p l e R s m args below meth c Q D A nL Z cells slots ad 265 (mem ad t F G) (pc + 1) lv (.int (iI 0) :: st)) : gW p l e R s m args below meth c Q D A nL Z cells slots ad 265 (mem ad t F G) pc lv (.long x :: .long x :: st) := by
  intro H locs ls hZ hP hD hS hl T hT X
  obtain ⟨t2, h1, h2⟩ := kk H locs ls hZ hP hD hS hl T hT X
  refine ⟨t2, ?_, h2⟩
  jvm_step X.here [X.here.top, ok.x, ok.b, hd]
  exact h1
end LR
def cL (y : MethodName) (cc : ByteArray) (mL : Nat) (hh : List (Nat × Nat × Nat × Nat)) (fr lo : Nat) (F : Nat → Nat → Int) (G : Nat → Int → Int) (av : (Nat → Nat) → List Value) (post : Int → (Nat → Nat → Int) → (Nat → Int → Int) → Prop) : Prop :=
  ∀ (s0 : State) (a0 : Array Value) (D : va_G) (t : Nat → ClassId) (ad : Nat → Nat), gY s0 a0 D t y cc mL (some .int) hh fr lo 1 6 ad 265 (mem ad t F G) (av ad) (fun z ce' => ∃ F' G', ce' = mem ad t F' G' ∧ post z F' G')
theorem d_Lw_begin_0 : decode b_Lw_begin 0 = .ok (.aload_n 0, 1) := by decide +kernel
theorem d_Lw_begin_1 : decode b_Lw_begin 1 = .ok (.iload_n 1, 1) := by decide +kernel
theorem d_Lw_begin_2 : decode b_Lw_begin 2 = .ok (.iload_n 2, 1) := by decide +kernel
theorem d_Lw_begin_3 : decode b_Lw_begin 3 = .ok (.iload_n 3, 1) := by decide +kernel
theorem d_Lw_begin_4 : decode b_Lw_begin 4 = .ok (.iload 4, 2) := by decide +kernel
theorem d_Lw_begin_6 : decode b_Lw_begin 6 = .ok (.invokevirtual 7, 3) := by decide +kernel
theorem d_Lw_begin_9 : decode b_Lw_begin 9 = .ok (.goto 15, 3) := by decide +kernel
theorem d_Lw_begin_12 : decode b_Lw_begin 12 = .ok (.astore 5, 2) := by decide +kernel
theorem d_Lw_begin_14 : decode b_Lw_begin 14 = .ok (.iconst 1, 1) := by decide +kernel
theorem d_Lw_begin_15 : decode b_Lw_begin 15 = .ok (.ireturn, 1) := by decide +kernel
theorem d_Lw_begin_16 : decode b_Lw_begin 16 = .ok (.astore 5, 2) := by decide +kernel
theorem d_Lw_begin_18 : decode b_Lw_begin 18 = .ok (.iconst 2, 1) := by decide +kernel
theorem d_Lw_begin_19 : decode b_Lw_begin 19 = .ok (.ireturn, 1) := by decide +kernel
theorem d_Lw_begin_20 : decode b_Lw_begin 20 = .ok (.astore 5, 2) := by decide +kernel
theorem d_Lw_begin_22 : decode b_Lw_begin 22 = .ok (.iconst 3, 1) := by decide +kernel
theorem d_Lw_begin_23 : decode b_Lw_begin 23 = .ok (.ireturn, 1) := by decide +kernel
theorem d_Lw_begin_24 : decode b_Lw_begin 24 = .ok (.iconst 0, 1) := by decide +kernel
theorem d_Lw_begin_25 : decode b_Lw_begin 25 = .ok (.ireturn, 1) := by decide +kernel
set_option maxHeartbeats 1000000 in
set_option maxRecDepth 100000 in
theorem l_begin_ok (F : Nat → Nat → Int) (G : Nat → Int → Int) (c0 f0 sp d : Int) (post : (Nat → Nat → Int) → (Nat → Int → Int) → Prop) (hc : cV y_Dk_begin b_Dk_begin 6 none 6 82 F G (fun ad => [.ref (ad 0), .int (iI c0), .int (iI f0), .int (iI sp), .int (iI d)]) post) : cL y_Lw_begin b_Lw_begin 6 [(0, 9, 12, 13), (0, 9, 16, 15), (0, 9, 20, 17)] 7 107 F G (fun ad => [.ref (ad 0), .int (iI c0), .int (iI f0), .int (iI sp), .int (iI d)]) (fun z F' G' => z = 0 ∧ post F' G') := by
  intro s0 a0 D t ad
  refine g_startY (by decide +kernel) (Nat.le_of_ble_eq_true rfl) (fun p l e R s m args below meth c A hlt htb ok => ?_)
  show gW p l e R s m args below meth c _ D A 6 (gZ0 s) 0 0 ad 265 (mem ad t F G) 0 [(0, .ref (ad 0)), (1, .int (iI c0)), (2, .int (iI f0)), (3, .int (iI sp)), (4, .int (iI d))] []
  refine g_aload_n ok d_Lw_begin_0 rfl 0 rfl ?_
  refine g_iload_n ok d_Lw_begin_1 rfl 1 rfl ?_
  refine g_iload_n ok d_Lw_begin_2 rfl 2 rfl ?_
  refine g_iload_n ok d_Lw_begin_3 rfl 3 rfl ?_
  refine g_iload ok d_Lw_begin_4 4 rfl ?_
  refine g_callVV (As := [.int (iI c0), .int (iI f0), .int (iI sp), .int (iI d)]) (st := []) ok _ (hc s0 a0 D t ad) k_664 k_1 k_661 cl_Dk (m_Dk (ad := ad) (t := t) (F := F) (G := G) rfl).1 (m_Dk rfl).2 k_662 k_663 q_Dk_begin (by decide) (Nat.le_of_ble_eq_true rfl) (by decide) d_Lw_begin_6 (fun ce1 hc1 => ?_)
  obtain ⟨F1, G1, rfl, hq⟩ := hc1
  refine g_goto ok 24 d_Lw_begin_9 (by decide) ?_
  refine g_iconst ok d_Lw_begin_24 ?_
  refine g_widen (k := 1) (j := 6) (by decide) (by decide) ?_
  exact g_iret ok d_Lw_begin_25 ⟨_, _, rfl, rfl, hq⟩
set_option maxHeartbeats 1000000 in
set_option maxRecDepth 100000 in
theorem l_begin_ISE (F : Nat → Nat → Int) (G : Nat → Int → Int) (c0 f0 sp d : Int) (hc : cT y_Dk_begin b_Dk_begin 6 none 6 82 F G (fun ad => [.ref (ad 0), .int (iI c0), .int (iI f0), .int (iI sp), .int (iI d)]) "java/lang/IllegalStateException") : cL y_Lw_begin b_Lw_begin 6 [(0, 9, 12, 13), (0, 9, 16, 15), (0, 9, 20, 17)] 7 107 F G (fun ad => [.ref (ad 0), .int (iI c0), .int (iI f0), .int (iI sp), .int (iI d)]) (fun z F' G' => z = 1 ∧ F' = F ∧ G' = G) := by
  intro s0 a0 D t ad
  refine g_startY (by decide +kernel) (Nat.le_of_ble_eq_true rfl) (fun p l e R s m args below meth c A hlt htb ok => ?_)
  show gW p l e R s m args below meth c _ D A 6 (gZ0 s) 0 0 ad 265 (mem ad t F G) 0 [(0, .ref (ad 0)), (1, .int (iI c0)), (2, .int (iI f0)), (3, .int (iI sp)), (4, .int (iI d))] []
  refine g_aload_n ok d_Lw_begin_0 rfl 0 rfl ?_
  refine g_iload_n ok d_Lw_begin_1 rfl 1 rfl ?_
  refine g_iload_n ok d_Lw_begin_2 rfl 2 rfl ?_
  refine g_iload_n ok d_Lw_begin_3 rfl 3 rfl ?_
  refine g_iload ok d_Lw_begin_4 4 rfl ?_
  refine g_catch (hs := [((0, 9, 12, 13), "java/lang/IllegalStateException"), ((0, 9, 16, 15), "java/lang/UnsupportedOperationException"), ((0, 9, 20, 17), "java/lang/IllegalArgumentException")]) (hp := 12) (As := [.int (iI c0), .int (iI f0), .int (iI sp), .int (iI d)]) (st := []) ok _ hlt (hc s0 a0 D t ad) k_664 k_1 k_661 cl_Dk (m_Dk (ad := ad) (t := t) (F := F) (G := G) rfl).1 (m_Dk rfl).2 k_662 k_663 q_Dk_begin (by decide) (Nat.le_of_ble_eq_true rfl) (by decide) d_Lw_begin_6 htb (⟨⟨by decide, by decide, by decide, ok.w k_658 rfl⟩, Or.inl ⟨ok.f k_667 rfl, rfl⟩⟩) (fun xq => ?_)
  refine g_astore (lv' := [(5, .ref xq), (0, .ref (ad 0)), (1, .int (iI c0)), (2, .int (iI f0)), (3, .int (iI sp)), (4, .int (iI d))]) ok d_Lw_begin_12 (by decide) rfl ?_
  refine g_iconst ok d_Lw_begin_14 ?_
  exact g_iret ok d_Lw_begin_15 ⟨_, _, rfl, rfl, rfl, rfl⟩
set_option maxHeartbeats 1000000 in
set_option maxRecDepth 100000 in
theorem l_begin_UOE (F : Nat → Nat → Int) (G : Nat → Int → Int) (c0 f0 sp d : Int) (hc : cT y_Dk_begin b_Dk_begin 6 none 6 82 F G (fun ad => [.ref (ad 0), .int (iI c0), .int (iI f0), .int (iI sp), .int (iI d)]) "java/lang/UnsupportedOperationException") : cL y_Lw_begin b_Lw_begin 6 [(0, 9, 12, 13), (0, 9, 16, 15), (0, 9, 20, 17)] 7 107 F G (fun ad => [.ref (ad 0), .int (iI c0), .int (iI f0), .int (iI sp), .int (iI d)]) (fun z F' G' => z = 2 ∧ F' = F ∧ G' = G) := by
  intro s0 a0 D t ad
  refine g_startY (by decide +kernel) (Nat.le_of_ble_eq_true rfl) (fun p l e R s m args below meth c A hlt htb ok => ?_)
  show gW p l e R s m args below meth c _ D A 6 (gZ0 s) 0 0 ad 265 (mem ad t F G) 0 [(0, .ref (ad 0)), (1, .int (iI c0)), (2, .int (iI f0)), (3, .int (iI sp)), (4, .int (iI d))] []
  refine g_aload_n ok d_Lw_begin_0 rfl 0 rfl ?_
  refine g_iload_n ok d_Lw_begin_1 rfl 1 rfl ?_
  refine g_iload_n ok d_Lw_begin_2 rfl 2 rfl ?_
  refine g_iload_n ok d_Lw_begin_3 rfl 3 rfl ?_
  refine g_iload ok d_Lw_begin_4 4 rfl ?_
  refine g_catch (hs := [((0, 9, 12, 13), "java/lang/IllegalStateException"), ((0, 9, 16, 15), "java/lang/UnsupportedOperationException"), ((0, 9, 20, 17), "java/lang/IllegalArgumentException")]) (hp := 16) (As := [.int (iI c0), .int (iI f0), .int (iI sp), .int (iI d)]) (st := []) ok _ hlt (hc s0 a0 D t ad) k_664 k_1 k_661 cl_Dk (m_Dk (ad := ad) (t := t) (F := F) (G := G) rfl).1 (m_Dk rfl).2 k_662 k_663 q_Dk_begin (by decide) (Nat.le_of_ble_eq_true rfl) (by decide) d_Lw_begin_6 htb (⟨⟨by decide, by decide, by decide, ok.w k_658 rfl⟩, Or.inr ⟨nc_at ok (nw_at ok 29 (by decide +kernel)), ⟨⟨by decide, by decide, by decide, ok.w k_659 rfl⟩, Or.inl ⟨ok.f k_737 rfl, rfl⟩⟩⟩⟩) (fun xq => ?_)
  refine g_astore (lv' := [(5, .ref xq), (0, .ref (ad 0)), (1, .int (iI c0)), (2, .int (iI f0)), (3, .int (iI sp)), (4, .int (iI d))]) ok d_Lw_begin_16 (by decide) rfl ?_
  refine g_iconst ok d_Lw_begin_18 ?_
  exact g_iret ok d_Lw_begin_19 ⟨_, _, rfl, rfl, rfl, rfl⟩
set_option maxHeartbeats 1000000 in
set_option maxRecDepth 100000 in
theorem l_begin_IAE (F : Nat → Nat → Int) (G : Nat → Int → Int) (c0 f0 sp d : Int) (hc : cT y_Dk_begin b_Dk_begin 6 none 6 82 F G (fun ad => [.ref (ad 0), .int (iI c0), .int (iI f0), .int (iI sp), .int (iI d)]) "java/lang/IllegalArgumentException") : cL y_Lw_begin b_Lw_begin 6 [(0, 9, 12, 13), (0, 9, 16, 15), (0, 9, 20, 17)] 7 107 F G (fun ad => [.ref (ad 0), .int (iI c0), .int (iI f0), .int (iI sp), .int (iI d)]) (fun z F' G' => z = 3 ∧ F' = F ∧ G' = G) := by
  intro s0 a0 D t ad
  refine g_startY (by decide +kernel) (Nat.le_of_ble_eq_true rfl) (fun p l e R s m args below meth c A hlt htb ok => ?_)
  show gW p l e R s m args below meth c _ D A 6 (gZ0 s) 0 0 ad 265 (mem ad t F G) 0 [(0, .ref (ad 0)), (1, .int (iI c0)), (2, .int (iI f0)), (3, .int (iI sp)), (4, .int (iI d))] []
  refine g_aload_n ok d_Lw_begin_0 rfl 0 rfl ?_
  refine g_iload_n ok d_Lw_begin_1 rfl 1 rfl ?_
  refine g_iload_n ok d_Lw_begin_2 rfl 2 rfl ?_
  refine g_iload_n ok d_Lw_begin_3 rfl 3 rfl ?_
  refine g_iload ok d_Lw_begin_4 4 rfl ?_
  refine g_catch (hs := [((0, 9, 12, 13), "java/lang/IllegalStateException"), ((0, 9, 16, 15), "java/lang/UnsupportedOperationException"), ((0, 9, 20, 17), "java/lang/IllegalArgumentException")]) (hp := 20) (As := [.int (iI c0), .int (iI f0), .int (iI sp), .int (iI d)]) (st := []) ok _ hlt (hc s0 a0 D t ad) k_664 k_1 k_661 cl_Dk (m_Dk (ad := ad) (t := t) (F := F) (G := G) rfl).1 (m_Dk rfl).2 k_662 k_663 q_Dk_begin (by decide) (Nat.le_of_ble_eq_true rfl) (by decide) d_Lw_begin_6 htb (⟨⟨by decide, by decide, by decide, ok.w k_658 rfl⟩, Or.inr ⟨nc_at ok (nw_at ok 30 (by decide +kernel)), ⟨⟨by decide, by decide, by decide, ok.w k_659 rfl⟩, Or.inr ⟨nc_at ok (nw_at ok 45 (by decide +kernel)), ⟨⟨by decide, by decide, by decide, ok.w k_660 rfl⟩, Or.inl ⟨ok.f k_753 rfl, rfl⟩⟩⟩⟩⟩⟩) (fun xq => ?_)
  refine g_astore (lv' := [(5, .ref xq), (0, .ref (ad 0)), (1, .int (iI c0)), (2, .int (iI f0)), (3, .int (iI sp)), (4, .int (iI d))]) ok d_Lw_begin_20 (by decide) rfl ?_
  refine g_iconst ok d_Lw_begin_22 ?_
  exact g_iret ok d_Lw_begin_23 ⟨_, _, rfl, rfl, rfl, rfl⟩
theorem d_Lw_corner_0 : decode b_Lw_corner 0 = .ok (.aload 4, 2) := by decide +kernel
theorem d_Lw_corner_2 : decode b_Lw_corner 2 = .ok (.iconst 0, 1) := by decide +kernel
theorem d_Lw_corner_3 : decode b_Lw_corner 3 = .ok (.aload_n 0, 1) := by decide +kernel
theorem d_Lw_corner_4 : decode b_Lw_corner 4 = .ok (.iload_n 1, 1) := by decide +kernel
theorem d_Lw_corner_5 : decode b_Lw_corner 5 = .ok (.iload_n 2, 1) := by decide +kernel
theorem d_Lw_corner_6 : decode b_Lw_corner 6 = .ok (.iload_n 3, 1) := by decide +kernel
theorem d_Lw_corner_7 : decode b_Lw_corner 7 = .ok (.invokevirtual 19, 3) := by decide +kernel
theorem d_Lw_corner_10 : decode b_Lw_corner 10 = .ok (.i2l, 1) := by decide +kernel
theorem d_Lw_corner_11 : decode b_Lw_corner 11 = .ok (.lastore, 1) := by decide +kernel
theorem d_Lw_corner_12 : decode b_Lw_corner 12 = .ok (.goto 15, 3) := by decide +kernel
theorem d_Lw_corner_15 : decode b_Lw_corner 15 = .ok (.astore 5, 2) := by decide +kernel
theorem d_Lw_corner_17 : decode b_Lw_corner 17 = .ok (.iconst 1, 1) := by decide +kernel
theorem d_Lw_corner_18 : decode b_Lw_corner 18 = .ok (.ireturn, 1) := by decide +kernel
theorem d_Lw_corner_19 : decode b_Lw_corner 19 = .ok (.astore 5, 2) := by decide +kernel
theorem d_Lw_corner_21 : decode b_Lw_corner 21 = .ok (.iconst 2, 1) := by decide +kernel
theorem d_Lw_corner_22 : decode b_Lw_corner 22 = .ok (.ireturn, 1) := by decide +kernel
theorem d_Lw_corner_23 : decode b_Lw_corner 23 = .ok (.astore 5, 2) := by decide +kernel
theorem d_Lw_corner_25 : decode b_Lw_corner 25 = .ok (.iconst 3, 1) := by decide +kernel
theorem d_Lw_corner_26 : decode b_Lw_corner 26 = .ok (.ireturn, 1) := by decide +kernel
theorem d_Lw_corner_27 : decode b_Lw_corner 27 = .ok (.iconst 0, 1) := by decide +kernel
theorem d_Lw_corner_28 : decode b_Lw_corner 28 = .ok (.ireturn, 1) := by decide +kernel
set_option maxHeartbeats 1000000 in
set_option maxRecDepth 100000 in
theorem l_corner_ok (F : Nat → Nat → Int) (G : Nat → Int → Int) (r x y : Int) (post : Int → (Nat → Nat → Int) → (Nat → Int → Int) → Prop) (hc : cI y_Dk_corner b_Dk_corner 5 (some .int) 6 82 F G (fun ad => [.ref (ad 0), .int (iI r), .int (iI x), .int (iI y)]) post) : cL y_Lw_corner b_Lw_corner 6 [(0, 12, 15, 13), (0, 12, 19, 17), (0, 12, 23, 15)] 7 106 F G (fun ad => [.ref (ad 0), .int (iI r), .int (iI x), .int (iI y), .ref (ad 264)]) (fun z F' G' => z = 0 ∧ ∃ w G1, post w F' G1 ∧ G' = gU G1 264 0 (iI w).toInt) := by
  intro s0 a0 D t ad
  refine g_startY (by decide +kernel) (Nat.le_of_ble_eq_true rfl) (fun p l e R s m args below meth c A hlt htb ok => ?_)
  show gW p l e R s m args below meth c _ D A 6 (gZ0 s) 0 0 ad 265 (mem ad t F G) 0 [(0, .ref (ad 0)), (1, .int (iI r)), (2, .int (iI x)), (3, .int (iI y)), (4, .ref (ad 264))] []
  refine g_aload ok d_Lw_corner_0 4 rfl ?_
  refine g_iconst ok d_Lw_corner_2 ?_
  refine g_aload_n ok d_Lw_corner_3 rfl 0 rfl ?_
  refine g_iload_n ok d_Lw_corner_4 rfl 1 rfl ?_
  refine g_iload_n ok d_Lw_corner_5 rfl 2 rfl ?_
  refine g_iload_n ok d_Lw_corner_6 rfl 3 rfl ?_
  refine g_callIV (As := [.int (iI r), .int (iI x), .int (iI y)]) (st := [.int (iI 0), .ref (ad 264)]) ok _ (hc s0 a0 D t ad) k_785 k_1 k_782 cl_Dk (m_Dk (ad := ad) (t := t) (F := F) (G := G) rfl).1 (m_Dk rfl).2 k_783 k_784 q_Dk_corner (by decide) (Nat.le_of_ble_eq_true rfl) (by decide) d_Lw_corner_7 (fun z1 ce1 hc1 => ?_)
  obtain ⟨F1, G1, rfl, hq⟩ := hc1
  refine g_i2l ok d_Lw_corner_10 ?_
  refine h_last ok d_Lw_corner_11 ?_
  refine g_goto ok 27 d_Lw_corner_12 (by decide) ?_
  refine g_iconst ok d_Lw_corner_27 ?_
  refine g_widen (k := 1) (j := 6) (by decide) (by decide) ?_
  exact g_iret ok d_Lw_corner_28 ⟨_, _, rfl, rfl, _, _, hq, rfl⟩
set_option maxHeartbeats 1000000 in
set_option maxRecDepth 100000 in
theorem l_corner_ISE (F : Nat → Nat → Int) (G : Nat → Int → Int) (r x y : Int) (hc : cT y_Dk_corner b_Dk_corner 5 (some .int) 6 82 F G (fun ad => [.ref (ad 0), .int (iI r), .int (iI x), .int (iI y)]) "java/lang/IllegalStateException") : cL y_Lw_corner b_Lw_corner 6 [(0, 12, 15, 13), (0, 12, 19, 17), (0, 12, 23, 15)] 7 106 F G (fun ad => [.ref (ad 0), .int (iI r), .int (iI x), .int (iI y), .ref (ad 264)]) (fun z F' G' => z = 1 ∧ F' = F ∧ G' = G) := by
  intro s0 a0 D t ad
  refine g_startY (by decide +kernel) (Nat.le_of_ble_eq_true rfl) (fun p l e R s m args below meth c A hlt htb ok => ?_)
  show gW p l e R s m args below meth c _ D A 6 (gZ0 s) 0 0 ad 265 (mem ad t F G) 0 [(0, .ref (ad 0)), (1, .int (iI r)), (2, .int (iI x)), (3, .int (iI y)), (4, .ref (ad 264))] []
  refine g_aload ok d_Lw_corner_0 4 rfl ?_
  refine g_iconst ok d_Lw_corner_2 ?_
  refine g_aload_n ok d_Lw_corner_3 rfl 0 rfl ?_
  refine g_iload_n ok d_Lw_corner_4 rfl 1 rfl ?_
  refine g_iload_n ok d_Lw_corner_5 rfl 2 rfl ?_
  refine g_iload_n ok d_Lw_corner_6 rfl 3 rfl ?_
  refine g_catch (hs := [((0, 12, 15, 13), "java/lang/IllegalStateException"), ((0, 12, 19, 17), "java/lang/IllegalArgumentException"), ((0, 12, 23, 15), "java/lang/UnsupportedOperationException")]) (hp := 15) (As := [.int (iI r), .int (iI x), .int (iI y)]) (st := [.int (iI 0), .ref (ad 264)]) ok _ hlt (hc s0 a0 D t ad) k_785 k_1 k_782 cl_Dk (m_Dk (ad := ad) (t := t) (F := F) (G := G) rfl).1 (m_Dk rfl).2 k_783 k_784 q_Dk_corner (by decide) (Nat.le_of_ble_eq_true rfl) (by decide) d_Lw_corner_7 htb (⟨⟨by decide, by decide, by decide, ok.w k_658 rfl⟩, Or.inl ⟨ok.f k_667 rfl, rfl⟩⟩) (fun xq => ?_)
  refine g_astore (lv' := [(5, .ref xq), (0, .ref (ad 0)), (1, .int (iI r)), (2, .int (iI x)), (3, .int (iI y)), (4, .ref (ad 264))]) ok d_Lw_corner_15 (by decide) rfl ?_
  refine g_iconst ok d_Lw_corner_17 ?_
  exact g_iret ok d_Lw_corner_18 ⟨_, _, rfl, rfl, rfl, rfl⟩
set_option maxHeartbeats 1000000 in
set_option maxRecDepth 100000 in
theorem l_corner_UOE (F : Nat → Nat → Int) (G : Nat → Int → Int) (r x y : Int) (hc : cT y_Dk_corner b_Dk_corner 5 (some .int) 6 82 F G (fun ad => [.ref (ad 0), .int (iI r), .int (iI x), .int (iI y)]) "java/lang/UnsupportedOperationException") : cL y_Lw_corner b_Lw_corner 6 [(0, 12, 15, 13), (0, 12, 19, 17), (0, 12, 23, 15)] 7 106 F G (fun ad => [.ref (ad 0), .int (iI r), .int (iI x), .int (iI y), .ref (ad 264)]) (fun z F' G' => z = 3 ∧ F' = F ∧ G' = G) := by
  intro s0 a0 D t ad
  refine g_startY (by decide +kernel) (Nat.le_of_ble_eq_true rfl) (fun p l e R s m args below meth c A hlt htb ok => ?_)
  show gW p l e R s m args below meth c _ D A 6 (gZ0 s) 0 0 ad 265 (mem ad t F G) 0 [(0, .ref (ad 0)), (1, .int (iI r)), (2, .int (iI x)), (3, .int (iI y)), (4, .ref (ad 264))] []
  refine g_aload ok d_Lw_corner_0 4 rfl ?_
  refine g_iconst ok d_Lw_corner_2 ?_
  refine g_aload_n ok d_Lw_corner_3 rfl 0 rfl ?_
  refine g_iload_n ok d_Lw_corner_4 rfl 1 rfl ?_
  refine g_iload_n ok d_Lw_corner_5 rfl 2 rfl ?_
  refine g_iload_n ok d_Lw_corner_6 rfl 3 rfl ?_
  refine g_catch (hs := [((0, 12, 15, 13), "java/lang/IllegalStateException"), ((0, 12, 19, 17), "java/lang/IllegalArgumentException"), ((0, 12, 23, 15), "java/lang/UnsupportedOperationException")]) (hp := 23) (As := [.int (iI r), .int (iI x), .int (iI y)]) (st := [.int (iI 0), .ref (ad 264)]) ok _ hlt (hc s0 a0 D t ad) k_785 k_1 k_782 cl_Dk (m_Dk (ad := ad) (t := t) (F := F) (G := G) rfl).1 (m_Dk rfl).2 k_783 k_784 q_Dk_corner (by decide) (Nat.le_of_ble_eq_true rfl) (by decide) d_Lw_corner_7 htb (⟨⟨by decide, by decide, by decide, ok.w k_658 rfl⟩, Or.inr ⟨nc_at ok (nw_at ok 29 (by decide +kernel)), ⟨⟨by decide, by decide, by decide, ok.w k_660 rfl⟩, Or.inr ⟨nc_at ok (nw_at ok 60 (by decide +kernel)), ⟨⟨by decide, by decide, by decide, ok.w k_659 rfl⟩, Or.inl ⟨ok.f k_737 rfl, rfl⟩⟩⟩⟩⟩⟩) (fun xq => ?_)
  refine g_astore (lv' := [(5, .ref xq), (0, .ref (ad 0)), (1, .int (iI r)), (2, .int (iI x)), (3, .int (iI y)), (4, .ref (ad 264))]) ok d_Lw_corner_23 (by decide) rfl ?_
  refine g_iconst ok d_Lw_corner_25 ?_
  exact g_iret ok d_Lw_corner_26 ⟨_, _, rfl, rfl, rfl, rfl⟩
set_option maxHeartbeats 1000000 in
set_option maxRecDepth 100000 in
theorem l_corner_IAE (F : Nat → Nat → Int) (G : Nat → Int → Int) (r x y : Int) (hc : cT y_Dk_corner b_Dk_corner 5 (some .int) 6 82 F G (fun ad => [.ref (ad 0), .int (iI r), .int (iI x), .int (iI y)]) "java/lang/IllegalArgumentException") : cL y_Lw_corner b_Lw_corner 6 [(0, 12, 15, 13), (0, 12, 19, 17), (0, 12, 23, 15)] 7 106 F G (fun ad => [.ref (ad 0), .int (iI r), .int (iI x), .int (iI y), .ref (ad 264)]) (fun z F' G' => z = 2 ∧ F' = F ∧ G' = G) := by
  intro s0 a0 D t ad
  refine g_startY (by decide +kernel) (Nat.le_of_ble_eq_true rfl) (fun p l e R s m args below meth c A hlt htb ok => ?_)
  show gW p l e R s m args below meth c _ D A 6 (gZ0 s) 0 0 ad 265 (mem ad t F G) 0 [(0, .ref (ad 0)), (1, .int (iI r)), (2, .int (iI x)), (3, .int (iI y)), (4, .ref (ad 264))] []
  refine g_aload ok d_Lw_corner_0 4 rfl ?_
  refine g_iconst ok d_Lw_corner_2 ?_
  refine g_aload_n ok d_Lw_corner_3 rfl 0 rfl ?_
  refine g_iload_n ok d_Lw_corner_4 rfl 1 rfl ?_
  refine g_iload_n ok d_Lw_corner_5 rfl 2 rfl ?_
  refine g_iload_n ok d_Lw_corner_6 rfl 3 rfl ?_
  refine g_catch (hs := [((0, 12, 15, 13), "java/lang/IllegalStateException"), ((0, 12, 19, 17), "java/lang/IllegalArgumentException"), ((0, 12, 23, 15), "java/lang/UnsupportedOperationException")]) (hp := 19) (As := [.int (iI r), .int (iI x), .int (iI y)]) (st := [.int (iI 0), .ref (ad 264)]) ok _ hlt (hc s0 a0 D t ad) k_785 k_1 k_782 cl_Dk (m_Dk (ad := ad) (t := t) (F := F) (G := G) rfl).1 (m_Dk rfl).2 k_783 k_784 q_Dk_corner (by decide) (Nat.le_of_ble_eq_true rfl) (by decide) d_Lw_corner_7 htb (⟨⟨by decide, by decide, by decide, ok.w k_658 rfl⟩, Or.inr ⟨nc_at ok (nw_at ok 30 (by decide +kernel)), ⟨⟨by decide, by decide, by decide, ok.w k_660 rfl⟩, Or.inl ⟨ok.f k_753 rfl, rfl⟩⟩⟩⟩) (fun xq => ?_)
  refine g_astore (lv' := [(5, .ref xq), (0, .ref (ad 0)), (1, .int (iI r)), (2, .int (iI x)), (3, .int (iI y)), (4, .ref (ad 264))]) ok d_Lw_corner_19 (by decide) rfl ?_
  refine g_iconst ok d_Lw_corner_21 ?_
  exact g_iret ok d_Lw_corner_22 ⟨_, _, rfl, rfl, rfl, rfl⟩
theorem d_Lw_rail_0 : decode b_Lw_rail 0 = .ok (.aload 4, 2) := by decide +kernel
theorem d_Lw_rail_2 : decode b_Lw_rail 2 = .ok (.iconst 0, 1) := by decide +kernel
theorem d_Lw_rail_3 : decode b_Lw_rail 3 = .ok (.aload_n 0, 1) := by decide +kernel
theorem d_Lw_rail_4 : decode b_Lw_rail 4 = .ok (.iload_n 1, 1) := by decide +kernel
theorem d_Lw_rail_5 : decode b_Lw_rail 5 = .ok (.iload_n 2, 1) := by decide +kernel
theorem d_Lw_rail_6 : decode b_Lw_rail 6 = .ok (.iload_n 3, 1) := by decide +kernel
theorem d_Lw_rail_7 : decode b_Lw_rail 7 = .ok (.invokevirtual 23, 3) := by decide +kernel
theorem d_Lw_rail_10 : decode b_Lw_rail 10 = .ok (.i2l, 1) := by decide +kernel
theorem d_Lw_rail_11 : decode b_Lw_rail 11 = .ok (.lastore, 1) := by decide +kernel
theorem d_Lw_rail_12 : decode b_Lw_rail 12 = .ok (.goto 15, 3) := by decide +kernel
theorem d_Lw_rail_15 : decode b_Lw_rail 15 = .ok (.astore 5, 2) := by decide +kernel
theorem d_Lw_rail_17 : decode b_Lw_rail 17 = .ok (.iconst 1, 1) := by decide +kernel
theorem d_Lw_rail_18 : decode b_Lw_rail 18 = .ok (.ireturn, 1) := by decide +kernel
theorem d_Lw_rail_19 : decode b_Lw_rail 19 = .ok (.astore 5, 2) := by decide +kernel
theorem d_Lw_rail_21 : decode b_Lw_rail 21 = .ok (.iconst 2, 1) := by decide +kernel
theorem d_Lw_rail_22 : decode b_Lw_rail 22 = .ok (.ireturn, 1) := by decide +kernel
theorem d_Lw_rail_23 : decode b_Lw_rail 23 = .ok (.astore 5, 2) := by decide +kernel
theorem d_Lw_rail_25 : decode b_Lw_rail 25 = .ok (.iconst 3, 1) := by decide +kernel
theorem d_Lw_rail_26 : decode b_Lw_rail 26 = .ok (.ireturn, 1) := by decide +kernel
theorem d_Lw_rail_27 : decode b_Lw_rail 27 = .ok (.iconst 0, 1) := by decide +kernel
theorem d_Lw_rail_28 : decode b_Lw_rail 28 = .ok (.ireturn, 1) := by decide +kernel
set_option maxHeartbeats 1000000 in
set_option maxRecDepth 100000 in
theorem l_rail_ok (F : Nat → Nat → Int) (G : Nat → Int → Int) (r x y : Int) (post : Int → (Nat → Nat → Int) → (Nat → Int → Int) → Prop) (hc : cI y_Dk_rail b_Dk_rail 5 (some .int) 6 82 F G (fun ad => [.ref (ad 0), .int (iI r), .int (iI x), .int (iI y)]) post) : cL y_Lw_rail b_Lw_rail 6 [(0, 12, 15, 13), (0, 12, 19, 17), (0, 12, 23, 15)] 7 106 F G (fun ad => [.ref (ad 0), .int (iI r), .int (iI x), .int (iI y), .ref (ad 264)]) (fun z F' G' => z = 0 ∧ ∃ w G1, post w F' G1 ∧ G' = gU G1 264 0 (iI w).toInt) := by
  intro s0 a0 D t ad
  refine g_startY (by decide +kernel) (Nat.le_of_ble_eq_true rfl) (fun p l e R s m args below meth c A hlt htb ok => ?_)
  show gW p l e R s m args below meth c _ D A 6 (gZ0 s) 0 0 ad 265 (mem ad t F G) 0 [(0, .ref (ad 0)), (1, .int (iI r)), (2, .int (iI x)), (3, .int (iI y)), (4, .ref (ad 264))] []
  refine g_aload ok d_Lw_rail_0 4 rfl ?_
  refine g_iconst ok d_Lw_rail_2 ?_
  refine g_aload_n ok d_Lw_rail_3 rfl 0 rfl ?_
  refine g_iload_n ok d_Lw_rail_4 rfl 1 rfl ?_
  refine g_iload_n ok d_Lw_rail_5 rfl 2 rfl ?_
  refine g_iload_n ok d_Lw_rail_6 rfl 3 rfl ?_
  refine g_callIV (As := [.int (iI r), .int (iI x), .int (iI y)]) (st := [.int (iI 0), .ref (ad 264)]) ok _ (hc s0 a0 D t ad) k_802 k_1 k_799 cl_Dk (m_Dk (ad := ad) (t := t) (F := F) (G := G) rfl).1 (m_Dk rfl).2 k_800 k_801 q_Dk_rail (by decide) (Nat.le_of_ble_eq_true rfl) (by decide) d_Lw_rail_7 (fun z1 ce1 hc1 => ?_)
  obtain ⟨F1, G1, rfl, hq⟩ := hc1
  refine g_i2l ok d_Lw_rail_10 ?_
  refine h_last ok d_Lw_rail_11 ?_
  refine g_goto ok 27 d_Lw_rail_12 (by decide) ?_
  refine g_iconst ok d_Lw_rail_27 ?_
  refine g_widen (k := 1) (j := 6) (by decide) (by decide) ?_
  exact g_iret ok d_Lw_rail_28 ⟨_, _, rfl, rfl, _, _, hq, rfl⟩
set_option maxHeartbeats 1000000 in
set_option maxRecDepth 100000 in
theorem l_rail_ISE (F : Nat → Nat → Int) (G : Nat → Int → Int) (r x y : Int) (hc : cT y_Dk_rail b_Dk_rail 5 (some .int) 6 82 F G (fun ad => [.ref (ad 0), .int (iI r), .int (iI x), .int (iI y)]) "java/lang/IllegalStateException") : cL y_Lw_rail b_Lw_rail 6 [(0, 12, 15, 13), (0, 12, 19, 17), (0, 12, 23, 15)] 7 106 F G (fun ad => [.ref (ad 0), .int (iI r), .int (iI x), .int (iI y), .ref (ad 264)]) (fun z F' G' => z = 1 ∧ F' = F ∧ G' = G) := by
  intro s0 a0 D t ad
  refine g_startY (by decide +kernel) (Nat.le_of_ble_eq_true rfl) (fun p l e R s m args below meth c A hlt htb ok => ?_)
  show gW p l e R s m args below meth c _ D A 6 (gZ0 s) 0 0 ad 265 (mem ad t F G) 0 [(0, .ref (ad 0)), (1, .int (iI r)), (2, .int (iI x)), (3, .int (iI y)), (4, .ref (ad 264))] []
  refine g_aload ok d_Lw_rail_0 4 rfl ?_
  refine g_iconst ok d_Lw_rail_2 ?_
  refine g_aload_n ok d_Lw_rail_3 rfl 0 rfl ?_
  refine g_iload_n ok d_Lw_rail_4 rfl 1 rfl ?_
  refine g_iload_n ok d_Lw_rail_5 rfl 2 rfl ?_
  refine g_iload_n ok d_Lw_rail_6 rfl 3 rfl ?_
  refine g_catch (hs := [((0, 12, 15, 13), "java/lang/IllegalStateException"), ((0, 12, 19, 17), "java/lang/IllegalArgumentException"), ((0, 12, 23, 15), "java/lang/UnsupportedOperationException")]) (hp := 15) (As := [.int (iI r), .int (iI x), .int (iI y)]) (st := [.int (iI 0), .ref (ad 264)]) ok _ hlt (hc s0 a0 D t ad) k_802 k_1 k_799 cl_Dk (m_Dk (ad := ad) (t := t) (F := F) (G := G) rfl).1 (m_Dk rfl).2 k_800 k_801 q_Dk_rail (by decide) (Nat.le_of_ble_eq_true rfl) (by decide) d_Lw_rail_7 htb (⟨⟨by decide, by decide, by decide, ok.w k_658 rfl⟩, Or.inl ⟨ok.f k_667 rfl, rfl⟩⟩) (fun xq => ?_)
  refine g_astore (lv' := [(5, .ref xq), (0, .ref (ad 0)), (1, .int (iI r)), (2, .int (iI x)), (3, .int (iI y)), (4, .ref (ad 264))]) ok d_Lw_rail_15 (by decide) rfl ?_
  refine g_iconst ok d_Lw_rail_17 ?_
  exact g_iret ok d_Lw_rail_18 ⟨_, _, rfl, rfl, rfl, rfl⟩
set_option maxHeartbeats 1000000 in
set_option maxRecDepth 100000 in
theorem l_rail_UOE (F : Nat → Nat → Int) (G : Nat → Int → Int) (r x y : Int) (hc : cT y_Dk_rail b_Dk_rail 5 (some .int) 6 82 F G (fun ad => [.ref (ad 0), .int (iI r), .int (iI x), .int (iI y)]) "java/lang/UnsupportedOperationException") : cL y_Lw_rail b_Lw_rail 6 [(0, 12, 15, 13), (0, 12, 19, 17), (0, 12, 23, 15)] 7 106 F G (fun ad => [.ref (ad 0), .int (iI r), .int (iI x), .int (iI y), .ref (ad 264)]) (fun z F' G' => z = 3 ∧ F' = F ∧ G' = G) := by
  intro s0 a0 D t ad
  refine g_startY (by decide +kernel) (Nat.le_of_ble_eq_true rfl) (fun p l e R s m args below meth c A hlt htb ok => ?_)
  show gW p l e R s m args below meth c _ D A 6 (gZ0 s) 0 0 ad 265 (mem ad t F G) 0 [(0, .ref (ad 0)), (1, .int (iI r)), (2, .int (iI x)), (3, .int (iI y)), (4, .ref (ad 264))] []
  refine g_aload ok d_Lw_rail_0 4 rfl ?_
  refine g_iconst ok d_Lw_rail_2 ?_
  refine g_aload_n ok d_Lw_rail_3 rfl 0 rfl ?_
  refine g_iload_n ok d_Lw_rail_4 rfl 1 rfl ?_
  refine g_iload_n ok d_Lw_rail_5 rfl 2 rfl ?_
  refine g_iload_n ok d_Lw_rail_6 rfl 3 rfl ?_
  refine g_catch (hs := [((0, 12, 15, 13), "java/lang/IllegalStateException"), ((0, 12, 19, 17), "java/lang/IllegalArgumentException"), ((0, 12, 23, 15), "java/lang/UnsupportedOperationException")]) (hp := 23) (As := [.int (iI r), .int (iI x), .int (iI y)]) (st := [.int (iI 0), .ref (ad 264)]) ok _ hlt (hc s0 a0 D t ad) k_802 k_1 k_799 cl_Dk (m_Dk (ad := ad) (t := t) (F := F) (G := G) rfl).1 (m_Dk rfl).2 k_800 k_801 q_Dk_rail (by decide) (Nat.le_of_ble_eq_true rfl) (by decide) d_Lw_rail_7 htb (⟨⟨by decide, by decide, by decide, ok.w k_658 rfl⟩, Or.inr ⟨nc_at ok (nw_at ok 29 (by decide +kernel)), ⟨⟨by decide, by decide, by decide, ok.w k_660 rfl⟩, Or.inr ⟨nc_at ok (nw_at ok 60 (by decide +kernel)), ⟨⟨by decide, by decide, by decide, ok.w k_659 rfl⟩, Or.inl ⟨ok.f k_737 rfl, rfl⟩⟩⟩⟩⟩⟩) (fun xq => ?_)
  refine g_astore (lv' := [(5, .ref xq), (0, .ref (ad 0)), (1, .int (iI r)), (2, .int (iI x)), (3, .int (iI y)), (4, .ref (ad 264))]) ok d_Lw_rail_23 (by decide) rfl ?_
  refine g_iconst ok d_Lw_rail_25 ?_
  exact g_iret ok d_Lw_rail_26 ⟨_, _, rfl, rfl, rfl, rfl⟩
set_option maxHeartbeats 1000000 in
set_option maxRecDepth 100000 in
theorem l_rail_IAE (F : Nat → Nat → Int) (G : Nat → Int → Int) (r x y : Int) (hc : cT y_Dk_rail b_Dk_rail 5 (some .int) 6 82 F G (fun ad => [.ref (ad 0), .int (iI r), .int (iI x), .int (iI y)]) "java/lang/IllegalArgumentException") : cL y_Lw_rail b_Lw_rail 6 [(0, 12, 15, 13), (0, 12, 19, 17), (0, 12, 23, 15)] 7 106 F G (fun ad => [.ref (ad 0), .int (iI r), .int (iI x), .int (iI y), .ref (ad 264)]) (fun z F' G' => z = 2 ∧ F' = F ∧ G' = G) := by
  intro s0 a0 D t ad
  refine g_startY (by decide +kernel) (Nat.le_of_ble_eq_true rfl) (fun p l e R s m args below meth c A hlt htb ok => ?_)
  show gW p l e R s m args below meth c _ D A 6 (gZ0 s) 0 0 ad 265 (mem ad t F G) 0 [(0, .ref (ad 0)), (1, .int (iI r)), (2, .int (iI x)), (3, .int (iI y)), (4, .ref (ad 264))] []
  refine g_aload ok d_Lw_rail_0 4 rfl ?_
  refine g_iconst ok d_Lw_rail_2 ?_
  refine g_aload_n ok d_Lw_rail_3 rfl 0 rfl ?_
  refine g_iload_n ok d_Lw_rail_4 rfl 1 rfl ?_
  refine g_iload_n ok d_Lw_rail_5 rfl 2 rfl ?_
  refine g_iload_n ok d_Lw_rail_6 rfl 3 rfl ?_
  refine g_catch (hs := [((0, 12, 15, 13), "java/lang/IllegalStateException"), ((0, 12, 19, 17), "java/lang/IllegalArgumentException"), ((0, 12, 23, 15), "java/lang/UnsupportedOperationException")]) (hp := 19) (As := [.int (iI r), .int (iI x), .int (iI y)]) (st := [.int (iI 0), .ref (ad 264)]) ok _ hlt (hc s0 a0 D t ad) k_802 k_1 k_799 cl_Dk (m_Dk (ad := ad) (t := t) (F := F) (G := G) rfl).1 (m_Dk rfl).2 k_800 k_801 q_Dk_rail (by decide) (Nat.le_of_ble_eq_true rfl) (by decide) d_Lw_rail_7 htb (⟨⟨by decide, by decide, by decide, ok.w k_658 rfl⟩, Or.inr ⟨nc_at ok (nw_at ok 30 (by decide +kernel)), ⟨⟨by decide, by decide, by decide, ok.w k_660 rfl⟩, Or.inl ⟨ok.f k_753 rfl, rfl⟩⟩⟩⟩) (fun xq => ?_)
  refine g_astore (lv' := [(5, .ref xq), (0, .ref (ad 0)), (1, .int (iI r)), (2, .int (iI x)), (3, .int (iI y)), (4, .ref (ad 264))]) ok d_Lw_rail_19 (by decide) rfl ?_
  refine g_iconst ok d_Lw_rail_21 ?_
  exact g_iret ok d_Lw_rail_22 ⟨_, _, rfl, rfl, rfl, rfl⟩
theorem d_Lw_end_0 : decode b_Lw_end 0 = .ok (.aload_n 1, 1) := by decide +kernel
theorem d_Lw_end_1 : decode b_Lw_end 1 = .ok (.iconst 0, 1) := by decide +kernel
theorem d_Lw_end_2 : decode b_Lw_end 2 = .ok (.aload_n 0, 1) := by decide +kernel
theorem d_Lw_end_3 : decode b_Lw_end 3 = .ok (.invokevirtual 26, 3) := by decide +kernel
theorem d_Lw_end_6 : decode b_Lw_end 6 = .ok (.i2l, 1) := by decide +kernel
theorem d_Lw_end_7 : decode b_Lw_end 7 = .ok (.lastore, 1) := by decide +kernel
theorem d_Lw_end_8 : decode b_Lw_end 8 = .ok (.goto 6, 3) := by decide +kernel
theorem d_Lw_end_11 : decode b_Lw_end 11 = .ok (.astore_n 2, 1) := by decide +kernel
theorem d_Lw_end_12 : decode b_Lw_end 12 = .ok (.iconst 1, 1) := by decide +kernel
theorem d_Lw_end_13 : decode b_Lw_end 13 = .ok (.ireturn, 1) := by decide +kernel
theorem d_Lw_end_14 : decode b_Lw_end 14 = .ok (.iconst 0, 1) := by decide +kernel
theorem d_Lw_end_15 : decode b_Lw_end 15 = .ok (.ireturn, 1) := by decide +kernel
set_option maxHeartbeats 1000000 in
set_option maxRecDepth 100000 in
theorem l_end_ok (F : Nat → Nat → Int) (G : Nat → Int → Int) (post : Int → (Nat → Nat → Int) → (Nat → Int → Int) → Prop) (hc : cI y_Dk_end b_Dk_end 3 (some .int) 7 170 F G (fun ad => [.ref (ad 0)]) post) : cL y_Lw_end b_Lw_end 3 [(0, 8, 11, 13)] 8 192 F G (fun ad => [.ref (ad 0), .ref (ad 264)]) (fun z F' G' => z = 0 ∧ ∃ w G1, post w F' G1 ∧ G' = gU G1 264 0 (iI w).toInt) := by
  intro s0 a0 D t ad
  refine g_startY (by decide +kernel) (Nat.le_of_ble_eq_true rfl) (fun p l e R s m args below meth c A hlt htb ok => ?_)
  show gW p l e R s m args below meth c _ D A 3 (gZ0 s) 0 0 ad 265 (mem ad t F G) 0 [(0, .ref (ad 0)), (1, .ref (ad 264))] []
  refine g_aload_n ok d_Lw_end_0 rfl 1 rfl ?_
  refine g_iconst ok d_Lw_end_1 ?_
  refine g_aload_n ok d_Lw_end_2 rfl 0 rfl ?_
  refine g_callIV (As := []) (st := [.int (iI 0), .ref (ad 264)]) ok _ (hc s0 a0 D t ad) k_812 k_1 k_809 cl_Dk (m_Dk (ad := ad) (t := t) (F := F) (G := G) rfl).1 (m_Dk rfl).2 k_810 k_811 q_Dk_end (by decide) (Nat.le_of_ble_eq_true rfl) (by decide) d_Lw_end_3 (fun z1 ce1 hc1 => ?_)
  obtain ⟨F1, G1, rfl, hq⟩ := hc1
  refine g_i2l ok d_Lw_end_6 ?_
  refine h_last ok d_Lw_end_7 ?_
  refine g_goto ok 14 d_Lw_end_8 (by decide) ?_
  refine g_iconst ok d_Lw_end_14 ?_
  refine g_widen (k := 1) (j := 6) (by decide) (by decide) ?_
  exact g_iret ok d_Lw_end_15 ⟨_, _, rfl, rfl, _, _, hq, rfl⟩
set_option maxHeartbeats 1000000 in
set_option maxRecDepth 100000 in
theorem l_end_ISE (F : Nat → Nat → Int) (G : Nat → Int → Int) (hc : cT y_Dk_end b_Dk_end 3 (some .int) 7 170 F G (fun ad => [.ref (ad 0)]) "java/lang/IllegalStateException") : cL y_Lw_end b_Lw_end 3 [(0, 8, 11, 13)] 8 192 F G (fun ad => [.ref (ad 0), .ref (ad 264)]) (fun z F' G' => z = 1 ∧ F' = F ∧ G' = G) := by
  intro s0 a0 D t ad
  refine g_startY (by decide +kernel) (Nat.le_of_ble_eq_true rfl) (fun p l e R s m args below meth c A hlt htb ok => ?_)
  show gW p l e R s m args below meth c _ D A 3 (gZ0 s) 0 0 ad 265 (mem ad t F G) 0 [(0, .ref (ad 0)), (1, .ref (ad 264))] []
  refine g_aload_n ok d_Lw_end_0 rfl 1 rfl ?_
  refine g_iconst ok d_Lw_end_1 ?_
  refine g_aload_n ok d_Lw_end_2 rfl 0 rfl ?_
  refine g_catch (hs := [((0, 8, 11, 13), "java/lang/IllegalStateException")]) (hp := 11) (As := []) (st := [.int (iI 0), .ref (ad 264)]) ok _ hlt (hc s0 a0 D t ad) k_812 k_1 k_809 cl_Dk (m_Dk (ad := ad) (t := t) (F := F) (G := G) rfl).1 (m_Dk rfl).2 k_810 k_811 q_Dk_end (by decide) (Nat.le_of_ble_eq_true rfl) (by decide) d_Lw_end_3 htb (⟨⟨by decide, by decide, by decide, ok.w k_658 rfl⟩, Or.inl ⟨ok.f k_667 rfl, rfl⟩⟩) (fun xq => ?_)
  refine g_astore_n (lv' := [(2, .ref xq), (0, .ref (ad 0)), (1, .ref (ad 264))]) ok d_Lw_end_11 rfl (by decide) rfl ?_
  refine g_iconst ok d_Lw_end_12 ?_
  exact g_iret ok d_Lw_end_13 ⟨_, _, rfl, rfl, rfl, rfl⟩
theorem d_Lw_shape_0 : decode b_Lw_shape 0 = .ok (.aload_n 3, 1) := by decide +kernel
theorem d_Lw_shape_1 : decode b_Lw_shape 1 = .ok (.iconst 0, 1) := by decide +kernel
theorem d_Lw_shape_2 : decode b_Lw_shape 2 = .ok (.aload_n 0, 1) := by decide +kernel
theorem d_Lw_shape_3 : decode b_Lw_shape 3 = .ok (.iload_n 1, 1) := by decide +kernel
theorem d_Lw_shape_4 : decode b_Lw_shape 4 = .ok (.iload_n 2, 1) := by decide +kernel
theorem d_Lw_shape_5 : decode b_Lw_shape 5 = .ok (.invokevirtual 30, 3) := by decide +kernel
theorem d_Lw_shape_8 : decode b_Lw_shape 8 = .ok (.i2l, 1) := by decide +kernel
theorem d_Lw_shape_9 : decode b_Lw_shape 9 = .ok (.lastore, 1) := by decide +kernel
theorem d_Lw_shape_10 : decode b_Lw_shape 10 = .ok (.goto 11, 3) := by decide +kernel
theorem d_Lw_shape_13 : decode b_Lw_shape 13 = .ok (.astore 4, 2) := by decide +kernel
theorem d_Lw_shape_15 : decode b_Lw_shape 15 = .ok (.iconst 1, 1) := by decide +kernel
theorem d_Lw_shape_16 : decode b_Lw_shape 16 = .ok (.ireturn, 1) := by decide +kernel
theorem d_Lw_shape_17 : decode b_Lw_shape 17 = .ok (.astore 4, 2) := by decide +kernel
theorem d_Lw_shape_19 : decode b_Lw_shape 19 = .ok (.iconst 2, 1) := by decide +kernel
theorem d_Lw_shape_20 : decode b_Lw_shape 20 = .ok (.ireturn, 1) := by decide +kernel
theorem d_Lw_shape_21 : decode b_Lw_shape 21 = .ok (.iconst 0, 1) := by decide +kernel
theorem d_Lw_shape_22 : decode b_Lw_shape 22 = .ok (.ireturn, 1) := by decide +kernel
set_option maxHeartbeats 1000000 in
set_option maxRecDepth 100000 in
theorem l_shape_ok (F : Nat → Nat → Int) (G : Nat → Int → Int) (n wh : Int) (post : Int → Prop) (hc : cP y_Dk_shape b_Dk_shape 4 (some .int) 6 82 F G (fun ad => [.ref (ad 0), .int (iI n), .int (iI wh)]) post) : cL y_Lw_shape b_Lw_shape 5 [(0, 10, 13, 34), (0, 10, 17, 17)] 7 105 F G (fun ad => [.ref (ad 0), .int (iI n), .int (iI wh), .ref (ad 264)]) (fun z F' G' => z = 0 ∧ ∃ w, post w ∧ F' = F ∧ G' = gU G 264 0 (iI w).toInt) := by
  intro s0 a0 D t ad
  refine g_startY (by decide +kernel) (Nat.le_of_ble_eq_true rfl) (fun p l e R s m args below meth c A hlt htb ok => ?_)
  show gW p l e R s m args below meth c _ D A 5 (gZ0 s) 0 0 ad 265 (mem ad t F G) 0 [(0, .ref (ad 0)), (1, .int (iI n)), (2, .int (iI wh)), (3, .ref (ad 264))] []
  refine g_aload_n ok d_Lw_shape_0 rfl 3 rfl ?_
  refine g_iconst ok d_Lw_shape_1 ?_
  refine g_aload_n ok d_Lw_shape_2 rfl 0 rfl ?_
  refine g_iload_n ok d_Lw_shape_3 rfl 1 rfl ?_
  refine g_iload_n ok d_Lw_shape_4 rfl 2 rfl ?_
  refine g_callPV (As := [.int (iI n), .int (iI wh)]) (st := [.int (iI 0), .ref (ad 264)]) ok _ (hc s0 a0 D t ad) k_898 k_1 k_895 cl_Dk (m_Dk (ad := ad) (t := t) (F := F) (G := G) rfl).1 (m_Dk rfl).2 k_896 k_897 q_Dk_shape (by decide) (Nat.le_of_ble_eq_true rfl) (by decide) d_Lw_shape_5 (fun z1 hc1 => ?_)
  refine g_i2l ok d_Lw_shape_8 ?_
  refine h_last ok d_Lw_shape_9 ?_
  refine g_goto ok 21 d_Lw_shape_10 (by decide) ?_
  refine g_iconst ok d_Lw_shape_21 ?_
  refine g_widen (k := 1) (j := 6) (by decide) (by decide) ?_
  exact g_iret ok d_Lw_shape_22 ⟨_, _, rfl, rfl, _, hc1, rfl, rfl⟩
set_option maxHeartbeats 1000000 in
set_option maxRecDepth 100000 in
theorem l_shape_IAE (F : Nat → Nat → Int) (G : Nat → Int → Int) (n wh : Int) (hc : cT y_Dk_shape b_Dk_shape 4 (some .int) 6 82 F G (fun ad => [.ref (ad 0), .int (iI n), .int (iI wh)]) "java/lang/IllegalArgumentException") : cL y_Lw_shape b_Lw_shape 5 [(0, 10, 13, 34), (0, 10, 17, 17)] 7 105 F G (fun ad => [.ref (ad 0), .int (iI n), .int (iI wh), .ref (ad 264)]) (fun z F' G' => z = 2 ∧ F' = F ∧ G' = G) := by
  intro s0 a0 D t ad
  refine g_startY (by decide +kernel) (Nat.le_of_ble_eq_true rfl) (fun p l e R s m args below meth c A hlt htb ok => ?_)
  show gW p l e R s m args below meth c _ D A 5 (gZ0 s) 0 0 ad 265 (mem ad t F G) 0 [(0, .ref (ad 0)), (1, .int (iI n)), (2, .int (iI wh)), (3, .ref (ad 264))] []
  refine g_aload_n ok d_Lw_shape_0 rfl 3 rfl ?_
  refine g_iconst ok d_Lw_shape_1 ?_
  refine g_aload_n ok d_Lw_shape_2 rfl 0 rfl ?_
  refine g_iload_n ok d_Lw_shape_3 rfl 1 rfl ?_
  refine g_iload_n ok d_Lw_shape_4 rfl 2 rfl ?_
  refine g_catch (hs := [((0, 10, 13, 34), "java/util/NoSuchElementException"), ((0, 10, 17, 17), "java/lang/IllegalArgumentException")]) (hp := 17) (As := [.int (iI n), .int (iI wh)]) (st := [.int (iI 0), .ref (ad 264)]) ok _ hlt (hc s0 a0 D t ad) k_898 k_1 k_895 cl_Dk (m_Dk (ad := ad) (t := t) (F := F) (G := G) rfl).1 (m_Dk rfl).2 k_896 k_897 q_Dk_shape (by decide) (Nat.le_of_ble_eq_true rfl) (by decide) d_Lw_shape_5 htb (⟨⟨by decide, by decide, by decide, ok.w k_894 rfl⟩, Or.inr ⟨nc_at ok (nw_at ok 76 (by decide +kernel)), ⟨⟨by decide, by decide, by decide, ok.w k_660 rfl⟩, Or.inl ⟨ok.f k_753 rfl, rfl⟩⟩⟩⟩) (fun xq => ?_)
  refine g_astore (lv' := [(4, .ref xq), (0, .ref (ad 0)), (1, .int (iI n)), (2, .int (iI wh)), (3, .ref (ad 264))]) ok d_Lw_shape_17 (by decide) rfl ?_
  refine g_iconst ok d_Lw_shape_19 ?_
  exact g_iret ok d_Lw_shape_20 ⟨_, _, rfl, rfl, rfl, rfl⟩
set_option maxHeartbeats 1000000 in
set_option maxRecDepth 100000 in
theorem l_shape_NSE (F : Nat → Nat → Int) (G : Nat → Int → Int) (n wh : Int) (hc : cT y_Dk_shape b_Dk_shape 4 (some .int) 6 82 F G (fun ad => [.ref (ad 0), .int (iI n), .int (iI wh)]) nX) : cL y_Lw_shape b_Lw_shape 5 [(0, 10, 13, 34), (0, 10, 17, 17)] 7 105 F G (fun ad => [.ref (ad 0), .int (iI n), .int (iI wh), .ref (ad 264)]) (fun z F' G' => z = 1 ∧ F' = F ∧ G' = G) := by
  intro s0 a0 D t ad
  refine g_startY (by decide +kernel) (Nat.le_of_ble_eq_true rfl) (fun p l e R s m args below meth c A hlt htb ok => ?_)
  show gW p l e R s m args below meth c _ D A 5 (gZ0 s) 0 0 ad 265 (mem ad t F G) 0 [(0, .ref (ad 0)), (1, .int (iI n)), (2, .int (iI wh)), (3, .ref (ad 264))] []
  refine g_aload_n ok d_Lw_shape_0 rfl 3 rfl ?_
  refine g_iconst ok d_Lw_shape_1 ?_
  refine g_aload_n ok d_Lw_shape_2 rfl 0 rfl ?_
  refine g_iload_n ok d_Lw_shape_3 rfl 1 rfl ?_
  refine g_iload_n ok d_Lw_shape_4 rfl 2 rfl ?_
  refine g_catch (hs := [((0, 10, 13, 34), "java/util/NoSuchElementException"), ((0, 10, 17, 17), "java/lang/IllegalArgumentException")]) (hp := 13) (As := [.int (iI n), .int (iI wh)]) (st := [.int (iI 0), .ref (ad 264)]) ok _ hlt (hc s0 a0 D t ad) k_898 k_1 k_895 cl_Dk (m_Dk (ad := ad) (t := t) (F := F) (G := G) rfl).1 (m_Dk rfl).2 k_896 k_897 q_Dk_shape (by decide) (Nat.le_of_ble_eq_true rfl) (by decide) d_Lw_shape_5 htb (⟨⟨by decide, by decide, by decide, ok.w k_894 rfl⟩, Or.inl ⟨ok.f k_901 rfl, rfl⟩⟩) (fun xq => ?_)
  refine g_astore (lv' := [(4, .ref xq), (0, .ref (ad 0)), (1, .int (iI n)), (2, .int (iI wh)), (3, .ref (ad 264))]) ok d_Lw_shape_13 (by decide) rfl ?_
  refine g_iconst ok d_Lw_shape_15 ?_
  exact g_iret ok d_Lw_shape_16 ⟨_, _, rfl, rfl, rfl, rfl⟩
theorem d_Lw_record_0 : decode b_Lw_record 0 = .ok (.aload_n 3, 1) := by decide +kernel
theorem d_Lw_record_1 : decode b_Lw_record 1 = .ok (.iconst 0, 1) := by decide +kernel
theorem d_Lw_record_2 : decode b_Lw_record 2 = .ok (.aload_n 0, 1) := by decide +kernel
theorem d_Lw_record_3 : decode b_Lw_record 3 = .ok (.iload_n 1, 1) := by decide +kernel
theorem d_Lw_record_4 : decode b_Lw_record 4 = .ok (.iload_n 2, 1) := by decide +kernel
theorem d_Lw_record_5 : decode b_Lw_record 5 = .ok (.invokevirtual 36, 3) := by decide +kernel
theorem d_Lw_record_8 : decode b_Lw_record 8 = .ok (.i2l, 1) := by decide +kernel
theorem d_Lw_record_9 : decode b_Lw_record 9 = .ok (.lastore, 1) := by decide +kernel
theorem d_Lw_record_10 : decode b_Lw_record 10 = .ok (.goto 11, 3) := by decide +kernel
theorem d_Lw_record_13 : decode b_Lw_record 13 = .ok (.astore 4, 2) := by decide +kernel
theorem d_Lw_record_15 : decode b_Lw_record 15 = .ok (.iconst 1, 1) := by decide +kernel
theorem d_Lw_record_16 : decode b_Lw_record 16 = .ok (.ireturn, 1) := by decide +kernel
theorem d_Lw_record_17 : decode b_Lw_record 17 = .ok (.astore 4, 2) := by decide +kernel
theorem d_Lw_record_19 : decode b_Lw_record 19 = .ok (.iconst 2, 1) := by decide +kernel
theorem d_Lw_record_20 : decode b_Lw_record 20 = .ok (.ireturn, 1) := by decide +kernel
theorem d_Lw_record_21 : decode b_Lw_record 21 = .ok (.iconst 0, 1) := by decide +kernel
theorem d_Lw_record_22 : decode b_Lw_record 22 = .ok (.ireturn, 1) := by decide +kernel
set_option maxHeartbeats 1000000 in
set_option maxRecDepth 100000 in
theorem l_record_ok (F : Nat → Nat → Int) (G : Nat → Int → Int) (i f : Int) (post : Int → Prop) (hc : cP y_Dk_record b_Dk_record 3 (some .int) 6 82 F G (fun ad => [.ref (ad 0), .int (iI i), .int (iI f)]) post) : cL y_Lw_record b_Lw_record 5 [(0, 10, 13, 39), (0, 10, 17, 17)] 7 104 F G (fun ad => [.ref (ad 0), .int (iI i), .int (iI f), .ref (ad 264)]) (fun z F' G' => z = 0 ∧ ∃ w, post w ∧ F' = F ∧ G' = gU G 264 0 (iI w).toInt) := by
  intro s0 a0 D t ad
  refine g_startY (by decide +kernel) (Nat.le_of_ble_eq_true rfl) (fun p l e R s m args below meth c A hlt htb ok => ?_)
  show gW p l e R s m args below meth c _ D A 5 (gZ0 s) 0 0 ad 265 (mem ad t F G) 0 [(0, .ref (ad 0)), (1, .int (iI i)), (2, .int (iI f)), (3, .ref (ad 264))] []
  refine g_aload_n ok d_Lw_record_0 rfl 3 rfl ?_
  refine g_iconst ok d_Lw_record_1 ?_
  refine g_aload_n ok d_Lw_record_2 rfl 0 rfl ?_
  refine g_iload_n ok d_Lw_record_3 rfl 1 rfl ?_
  refine g_iload_n ok d_Lw_record_4 rfl 2 rfl ?_
  refine g_callPV (As := [.int (iI i), .int (iI f)]) (st := [.int (iI 0), .ref (ad 264)]) ok _ (hc s0 a0 D t ad) k_922 k_1 k_919 cl_Dk (m_Dk (ad := ad) (t := t) (F := F) (G := G) rfl).1 (m_Dk rfl).2 k_920 k_921 q_Dk_record (by decide) (Nat.le_of_ble_eq_true rfl) (by decide) d_Lw_record_5 (fun z1 hc1 => ?_)
  refine g_i2l ok d_Lw_record_8 ?_
  refine h_last ok d_Lw_record_9 ?_
  refine g_goto ok 21 d_Lw_record_10 (by decide) ?_
  refine g_iconst ok d_Lw_record_21 ?_
  refine g_widen (k := 1) (j := 6) (by decide) (by decide) ?_
  exact g_iret ok d_Lw_record_22 ⟨_, _, rfl, rfl, _, hc1, rfl, rfl⟩
set_option maxHeartbeats 1000000 in
set_option maxRecDepth 100000 in
theorem l_record_IAE (F : Nat → Nat → Int) (G : Nat → Int → Int) (i f : Int) (hc : cT y_Dk_record b_Dk_record 3 (some .int) 6 82 F G (fun ad => [.ref (ad 0), .int (iI i), .int (iI f)]) "java/lang/IllegalArgumentException") : cL y_Lw_record b_Lw_record 5 [(0, 10, 13, 39), (0, 10, 17, 17)] 7 104 F G (fun ad => [.ref (ad 0), .int (iI i), .int (iI f), .ref (ad 264)]) (fun z F' G' => z = 2 ∧ F' = F ∧ G' = G) := by
  intro s0 a0 D t ad
  refine g_startY (by decide +kernel) (Nat.le_of_ble_eq_true rfl) (fun p l e R s m args below meth c A hlt htb ok => ?_)
  show gW p l e R s m args below meth c _ D A 5 (gZ0 s) 0 0 ad 265 (mem ad t F G) 0 [(0, .ref (ad 0)), (1, .int (iI i)), (2, .int (iI f)), (3, .ref (ad 264))] []
  refine g_aload_n ok d_Lw_record_0 rfl 3 rfl ?_
  refine g_iconst ok d_Lw_record_1 ?_
  refine g_aload_n ok d_Lw_record_2 rfl 0 rfl ?_
  refine g_iload_n ok d_Lw_record_3 rfl 1 rfl ?_
  refine g_iload_n ok d_Lw_record_4 rfl 2 rfl ?_
  refine g_catch (hs := [((0, 10, 13, 39), "java/lang/IndexOutOfBoundsException"), ((0, 10, 17, 17), "java/lang/IllegalArgumentException")]) (hp := 17) (As := [.int (iI i), .int (iI f)]) (st := [.int (iI 0), .ref (ad 264)]) ok _ hlt (hc s0 a0 D t ad) k_922 k_1 k_919 cl_Dk (m_Dk (ad := ad) (t := t) (F := F) (G := G) rfl).1 (m_Dk rfl).2 k_920 k_921 q_Dk_record (by decide) (Nat.le_of_ble_eq_true rfl) (by decide) d_Lw_record_5 htb (⟨⟨by decide, by decide, by decide, ok.w k_918 rfl⟩, Or.inr ⟨nc_at ok (nw_at ok 91 (by decide +kernel)), ⟨⟨by decide, by decide, by decide, ok.w k_660 rfl⟩, Or.inl ⟨ok.f k_753 rfl, rfl⟩⟩⟩⟩) (fun xq => ?_)
  refine g_astore (lv' := [(4, .ref xq), (0, .ref (ad 0)), (1, .int (iI i)), (2, .int (iI f)), (3, .ref (ad 264))]) ok d_Lw_record_17 (by decide) rfl ?_
  refine g_iconst ok d_Lw_record_19 ?_
  exact g_iret ok d_Lw_record_20 ⟨_, _, rfl, rfl, rfl, rfl⟩
set_option maxHeartbeats 1000000 in
set_option maxRecDepth 100000 in
theorem l_record_IOB (F : Nat → Nat → Int) (G : Nat → Int → Int) (i f : Int) (hc : cT y_Dk_record b_Dk_record 3 (some .int) 6 82 F G (fun ad => [.ref (ad 0), .int (iI i), .int (iI f)]) "java/lang/IndexOutOfBoundsException") : cL y_Lw_record b_Lw_record 5 [(0, 10, 13, 39), (0, 10, 17, 17)] 7 104 F G (fun ad => [.ref (ad 0), .int (iI i), .int (iI f), .ref (ad 264)]) (fun z F' G' => z = 1 ∧ F' = F ∧ G' = G) := by
  intro s0 a0 D t ad
  refine g_startY (by decide +kernel) (Nat.le_of_ble_eq_true rfl) (fun p l e R s m args below meth c A hlt htb ok => ?_)
  show gW p l e R s m args below meth c _ D A 5 (gZ0 s) 0 0 ad 265 (mem ad t F G) 0 [(0, .ref (ad 0)), (1, .int (iI i)), (2, .int (iI f)), (3, .ref (ad 264))] []
  refine g_aload_n ok d_Lw_record_0 rfl 3 rfl ?_
  refine g_iconst ok d_Lw_record_1 ?_
  refine g_aload_n ok d_Lw_record_2 rfl 0 rfl ?_
  refine g_iload_n ok d_Lw_record_3 rfl 1 rfl ?_
  refine g_iload_n ok d_Lw_record_4 rfl 2 rfl ?_
  refine g_catch (hs := [((0, 10, 13, 39), "java/lang/IndexOutOfBoundsException"), ((0, 10, 17, 17), "java/lang/IllegalArgumentException")]) (hp := 13) (As := [.int (iI i), .int (iI f)]) (st := [.int (iI 0), .ref (ad 264)]) ok _ hlt (hc s0 a0 D t ad) k_922 k_1 k_919 cl_Dk (m_Dk (ad := ad) (t := t) (F := F) (G := G) rfl).1 (m_Dk rfl).2 k_920 k_921 q_Dk_record (by decide) (Nat.le_of_ble_eq_true rfl) (by decide) d_Lw_record_5 htb (⟨⟨by decide, by decide, by decide, ok.w k_918 rfl⟩, Or.inl ⟨ok.f k_925 rfl, rfl⟩⟩) (fun xq => ?_)
  refine g_astore (lv' := [(4, .ref xq), (0, .ref (ad 0)), (1, .int (iI i)), (2, .int (iI f)), (3, .ref (ad 264))]) ok d_Lw_record_13 (by decide) rfl ?_
  refine g_iconst ok d_Lw_record_15 ?_
  exact g_iret ok d_Lw_record_16 ⟨_, _, rfl, rfl, rfl, rfl⟩
theorem d_Lw_byteAt_0 : decode b_Lw_byteAt 0 = .ok (.aload_n 2, 1) := by decide +kernel
theorem d_Lw_byteAt_1 : decode b_Lw_byteAt 1 = .ok (.iconst 0, 1) := by decide +kernel
theorem d_Lw_byteAt_2 : decode b_Lw_byteAt 2 = .ok (.aload_n 0, 1) := by decide +kernel
theorem d_Lw_byteAt_3 : decode b_Lw_byteAt 3 = .ok (.iload_n 1, 1) := by decide +kernel
theorem d_Lw_byteAt_4 : decode b_Lw_byteAt 4 = .ok (.invokevirtual 41, 3) := by decide +kernel
theorem d_Lw_byteAt_7 : decode b_Lw_byteAt 7 = .ok (.i2l, 1) := by decide +kernel
theorem d_Lw_byteAt_8 : decode b_Lw_byteAt 8 = .ok (.lastore, 1) := by decide +kernel
theorem d_Lw_byteAt_9 : decode b_Lw_byteAt 9 = .ok (.goto 6, 3) := by decide +kernel
theorem d_Lw_byteAt_12 : decode b_Lw_byteAt 12 = .ok (.astore_n 3, 1) := by decide +kernel
theorem d_Lw_byteAt_13 : decode b_Lw_byteAt 13 = .ok (.iconst 1, 1) := by decide +kernel
theorem d_Lw_byteAt_14 : decode b_Lw_byteAt 14 = .ok (.ireturn, 1) := by decide +kernel
theorem d_Lw_byteAt_15 : decode b_Lw_byteAt 15 = .ok (.iconst 0, 1) := by decide +kernel
theorem d_Lw_byteAt_16 : decode b_Lw_byteAt 16 = .ok (.ireturn, 1) := by decide +kernel
set_option maxHeartbeats 1000000 in
set_option maxRecDepth 100000 in
theorem l_byteAt_ok (F : Nat → Nat → Int) (G : Nat → Int → Int) (i : Int) (post : Int → Prop) (hc : cP y_Dk_byteAt b_Dk_byteAt 3 (some .int) 6 82 F G (fun ad => [.ref (ad 0), .int (iI i)]) post) : cL y_Lw_byteAt b_Lw_byteAt 4 [(0, 9, 12, 39)] 7 104 F G (fun ad => [.ref (ad 0), .int (iI i), .ref (ad 264)]) (fun z F' G' => z = 0 ∧ ∃ w, post w ∧ F' = F ∧ G' = gU G 264 0 (iI w).toInt) := by
  intro s0 a0 D t ad
  refine g_startY (by decide +kernel) (Nat.le_of_ble_eq_true rfl) (fun p l e R s m args below meth c A hlt htb ok => ?_)
  show gW p l e R s m args below meth c _ D A 4 (gZ0 s) 0 0 ad 265 (mem ad t F G) 0 [(0, .ref (ad 0)), (1, .int (iI i)), (2, .ref (ad 264))] []
  refine g_aload_n ok d_Lw_byteAt_0 rfl 2 rfl ?_
  refine g_iconst ok d_Lw_byteAt_1 ?_
  refine g_aload_n ok d_Lw_byteAt_2 rfl 0 rfl ?_
  refine g_iload_n ok d_Lw_byteAt_3 rfl 1 rfl ?_
  refine g_callPV (As := [.int (iI i)]) (st := [.int (iI 0), .ref (ad 264)]) ok _ (hc s0 a0 D t ad) k_948 k_1 k_945 cl_Dk (m_Dk (ad := ad) (t := t) (F := F) (G := G) rfl).1 (m_Dk rfl).2 k_946 k_947 q_Dk_byteAt (by decide) (Nat.le_of_ble_eq_true rfl) (by decide) d_Lw_byteAt_4 (fun z1 hc1 => ?_)
  refine g_i2l ok d_Lw_byteAt_7 ?_
  refine h_last ok d_Lw_byteAt_8 ?_
  refine g_goto ok 15 d_Lw_byteAt_9 (by decide) ?_
  refine g_iconst ok d_Lw_byteAt_15 ?_
  refine g_widen (k := 1) (j := 6) (by decide) (by decide) ?_
  exact g_iret ok d_Lw_byteAt_16 ⟨_, _, rfl, rfl, _, hc1, rfl, rfl⟩
set_option maxHeartbeats 1000000 in
set_option maxRecDepth 100000 in
theorem l_byteAt_IOB (F : Nat → Nat → Int) (G : Nat → Int → Int) (i : Int) (hc : cT y_Dk_byteAt b_Dk_byteAt 3 (some .int) 6 82 F G (fun ad => [.ref (ad 0), .int (iI i)]) "java/lang/IndexOutOfBoundsException") : cL y_Lw_byteAt b_Lw_byteAt 4 [(0, 9, 12, 39)] 7 104 F G (fun ad => [.ref (ad 0), .int (iI i), .ref (ad 264)]) (fun z F' G' => z = 1 ∧ F' = F ∧ G' = G) := by
  intro s0 a0 D t ad
  refine g_startY (by decide +kernel) (Nat.le_of_ble_eq_true rfl) (fun p l e R s m args below meth c A hlt htb ok => ?_)
  show gW p l e R s m args below meth c _ D A 4 (gZ0 s) 0 0 ad 265 (mem ad t F G) 0 [(0, .ref (ad 0)), (1, .int (iI i)), (2, .ref (ad 264))] []
  refine g_aload_n ok d_Lw_byteAt_0 rfl 2 rfl ?_
  refine g_iconst ok d_Lw_byteAt_1 ?_
  refine g_aload_n ok d_Lw_byteAt_2 rfl 0 rfl ?_
  refine g_iload_n ok d_Lw_byteAt_3 rfl 1 rfl ?_
  refine g_catch (hs := [((0, 9, 12, 39), "java/lang/IndexOutOfBoundsException")]) (hp := 12) (As := [.int (iI i)]) (st := [.int (iI 0), .ref (ad 264)]) ok _ hlt (hc s0 a0 D t ad) k_948 k_1 k_945 cl_Dk (m_Dk (ad := ad) (t := t) (F := F) (G := G) rfl).1 (m_Dk rfl).2 k_946 k_947 q_Dk_byteAt (by decide) (Nat.le_of_ble_eq_true rfl) (by decide) d_Lw_byteAt_4 htb (⟨⟨by decide, by decide, by decide, ok.w k_918 rfl⟩, Or.inl ⟨ok.f k_925 rfl, rfl⟩⟩) (fun xq => ?_)
  refine g_astore_n (lv' := [(3, .ref xq), (0, .ref (ad 0)), (1, .int (iI i)), (2, .ref (ad 264))]) ok d_Lw_byteAt_12 rfl (by decide) rfl ?_
  refine g_iconst ok d_Lw_byteAt_13 ?_
  exact g_iret ok d_Lw_byteAt_14 ⟨_, _, rfl, rfl, rfl, rfl⟩
theorem d_Lw_load_0 : decode b_Lw_load 0 = .ok (.aload_n 3, 1) := by decide +kernel
theorem d_Lw_load_1 : decode b_Lw_load 1 = .ok (.iconst 0, 1) := by decide +kernel
theorem d_Lw_load_2 : decode b_Lw_load 2 = .ok (.aload_n 0, 1) := by decide +kernel
theorem d_Lw_load_3 : decode b_Lw_load 3 = .ok (.iload_n 1, 1) := by decide +kernel
theorem d_Lw_load_4 : decode b_Lw_load 4 = .ok (.iload_n 2, 1) := by decide +kernel
theorem d_Lw_load_5 : decode b_Lw_load 5 = .ok (.invokevirtual 45, 3) := by decide +kernel
theorem d_Lw_load_8 : decode b_Lw_load 8 = .ok (.i2l, 1) := by decide +kernel
theorem d_Lw_load_9 : decode b_Lw_load 9 = .ok (.lastore, 1) := by decide +kernel
theorem d_Lw_load_10 : decode b_Lw_load 10 = .ok (.goto 11, 3) := by decide +kernel
theorem d_Lw_load_13 : decode b_Lw_load 13 = .ok (.astore 4, 2) := by decide +kernel
theorem d_Lw_load_15 : decode b_Lw_load 15 = .ok (.iconst 1, 1) := by decide +kernel
theorem d_Lw_load_16 : decode b_Lw_load 16 = .ok (.ireturn, 1) := by decide +kernel
theorem d_Lw_load_17 : decode b_Lw_load 17 = .ok (.astore 4, 2) := by decide +kernel
theorem d_Lw_load_19 : decode b_Lw_load 19 = .ok (.iconst 2, 1) := by decide +kernel
theorem d_Lw_load_20 : decode b_Lw_load 20 = .ok (.ireturn, 1) := by decide +kernel
theorem d_Lw_load_21 : decode b_Lw_load 21 = .ok (.iconst 0, 1) := by decide +kernel
theorem d_Lw_load_22 : decode b_Lw_load 22 = .ok (.ireturn, 1) := by decide +kernel
set_option maxHeartbeats 1000000 in
set_option maxRecDepth 100000 in
theorem l_load_ok (F : Nat → Nat → Int) (G : Nat → Int → Int) (i b : Int) (post : Int → (Nat → Nat → Int) → (Nat → Int → Int) → Prop) (hc : cI y_Dk_load b_Dk_load 3 (some .int) 6 82 F G (fun ad => [.ref (ad 0), .int (iI i), .int (iI b)]) post) : cL y_Lw_load b_Lw_load 5 [(0, 10, 13, 39), (0, 10, 17, 17)] 7 104 F G (fun ad => [.ref (ad 0), .int (iI i), .int (iI b), .ref (ad 264)]) (fun z F' G' => z = 0 ∧ ∃ w G1, post w F' G1 ∧ G' = gU G1 264 0 (iI w).toInt) := by
  intro s0 a0 D t ad
  refine g_startY (by decide +kernel) (Nat.le_of_ble_eq_true rfl) (fun p l e R s m args below meth c A hlt htb ok => ?_)
  show gW p l e R s m args below meth c _ D A 5 (gZ0 s) 0 0 ad 265 (mem ad t F G) 0 [(0, .ref (ad 0)), (1, .int (iI i)), (2, .int (iI b)), (3, .ref (ad 264))] []
  refine g_aload_n ok d_Lw_load_0 rfl 3 rfl ?_
  refine g_iconst ok d_Lw_load_1 ?_
  refine g_aload_n ok d_Lw_load_2 rfl 0 rfl ?_
  refine g_iload_n ok d_Lw_load_3 rfl 1 rfl ?_
  refine g_iload_n ok d_Lw_load_4 rfl 2 rfl ?_
  refine g_callIV (As := [.int (iI i), .int (iI b)]) (st := [.int (iI 0), .ref (ad 264)]) ok _ (hc s0 a0 D t ad) k_963 k_1 k_960 cl_Dk (m_Dk (ad := ad) (t := t) (F := F) (G := G) rfl).1 (m_Dk rfl).2 k_961 k_962 q_Dk_load (by decide) (Nat.le_of_ble_eq_true rfl) (by decide) d_Lw_load_5 (fun z1 ce1 hc1 => ?_)
  obtain ⟨F1, G1, rfl, hq⟩ := hc1
  refine g_i2l ok d_Lw_load_8 ?_
  refine h_last ok d_Lw_load_9 ?_
  refine g_goto ok 21 d_Lw_load_10 (by decide) ?_
  refine g_iconst ok d_Lw_load_21 ?_
  refine g_widen (k := 1) (j := 6) (by decide) (by decide) ?_
  exact g_iret ok d_Lw_load_22 ⟨_, _, rfl, rfl, _, _, hq, rfl⟩
set_option maxHeartbeats 1000000 in
set_option maxRecDepth 100000 in
theorem l_load_IAE (F : Nat → Nat → Int) (G : Nat → Int → Int) (i b : Int) (hc : cT y_Dk_load b_Dk_load 3 (some .int) 6 82 F G (fun ad => [.ref (ad 0), .int (iI i), .int (iI b)]) "java/lang/IllegalArgumentException") : cL y_Lw_load b_Lw_load 5 [(0, 10, 13, 39), (0, 10, 17, 17)] 7 104 F G (fun ad => [.ref (ad 0), .int (iI i), .int (iI b), .ref (ad 264)]) (fun z F' G' => z = 2 ∧ F' = F ∧ G' = G) := by
  intro s0 a0 D t ad
  refine g_startY (by decide +kernel) (Nat.le_of_ble_eq_true rfl) (fun p l e R s m args below meth c A hlt htb ok => ?_)
  show gW p l e R s m args below meth c _ D A 5 (gZ0 s) 0 0 ad 265 (mem ad t F G) 0 [(0, .ref (ad 0)), (1, .int (iI i)), (2, .int (iI b)), (3, .ref (ad 264))] []
  refine g_aload_n ok d_Lw_load_0 rfl 3 rfl ?_
  refine g_iconst ok d_Lw_load_1 ?_
  refine g_aload_n ok d_Lw_load_2 rfl 0 rfl ?_
  refine g_iload_n ok d_Lw_load_3 rfl 1 rfl ?_
  refine g_iload_n ok d_Lw_load_4 rfl 2 rfl ?_
  refine g_catch (hs := [((0, 10, 13, 39), "java/lang/IndexOutOfBoundsException"), ((0, 10, 17, 17), "java/lang/IllegalArgumentException")]) (hp := 17) (As := [.int (iI i), .int (iI b)]) (st := [.int (iI 0), .ref (ad 264)]) ok _ hlt (hc s0 a0 D t ad) k_963 k_1 k_960 cl_Dk (m_Dk (ad := ad) (t := t) (F := F) (G := G) rfl).1 (m_Dk rfl).2 k_961 k_962 q_Dk_load (by decide) (Nat.le_of_ble_eq_true rfl) (by decide) d_Lw_load_5 htb (⟨⟨by decide, by decide, by decide, ok.w k_918 rfl⟩, Or.inr ⟨nc_at ok (nw_at ok 91 (by decide +kernel)), ⟨⟨by decide, by decide, by decide, ok.w k_660 rfl⟩, Or.inl ⟨ok.f k_753 rfl, rfl⟩⟩⟩⟩) (fun xq => ?_)
  refine g_astore (lv' := [(4, .ref xq), (0, .ref (ad 0)), (1, .int (iI i)), (2, .int (iI b)), (3, .ref (ad 264))]) ok d_Lw_load_17 (by decide) rfl ?_
  refine g_iconst ok d_Lw_load_19 ?_
  exact g_iret ok d_Lw_load_20 ⟨_, _, rfl, rfl, rfl, rfl⟩
set_option maxHeartbeats 1000000 in
set_option maxRecDepth 100000 in
theorem l_load_IOB (F : Nat → Nat → Int) (G : Nat → Int → Int) (i b : Int) (hc : cT y_Dk_load b_Dk_load 3 (some .int) 6 82 F G (fun ad => [.ref (ad 0), .int (iI i), .int (iI b)]) "java/lang/IndexOutOfBoundsException") : cL y_Lw_load b_Lw_load 5 [(0, 10, 13, 39), (0, 10, 17, 17)] 7 104 F G (fun ad => [.ref (ad 0), .int (iI i), .int (iI b), .ref (ad 264)]) (fun z F' G' => z = 1 ∧ F' = F ∧ G' = G) := by
  intro s0 a0 D t ad
  refine g_startY (by decide +kernel) (Nat.le_of_ble_eq_true rfl) (fun p l e R s m args below meth c A hlt htb ok => ?_)
  show gW p l e R s m args below meth c _ D A 5 (gZ0 s) 0 0 ad 265 (mem ad t F G) 0 [(0, .ref (ad 0)), (1, .int (iI i)), (2, .int (iI b)), (3, .ref (ad 264))] []
  refine g_aload_n ok d_Lw_load_0 rfl 3 rfl ?_
  refine g_iconst ok d_Lw_load_1 ?_
  refine g_aload_n ok d_Lw_load_2 rfl 0 rfl ?_
  refine g_iload_n ok d_Lw_load_3 rfl 1 rfl ?_
  refine g_iload_n ok d_Lw_load_4 rfl 2 rfl ?_
  refine g_catch (hs := [((0, 10, 13, 39), "java/lang/IndexOutOfBoundsException"), ((0, 10, 17, 17), "java/lang/IllegalArgumentException")]) (hp := 13) (As := [.int (iI i), .int (iI b)]) (st := [.int (iI 0), .ref (ad 264)]) ok _ hlt (hc s0 a0 D t ad) k_963 k_1 k_960 cl_Dk (m_Dk (ad := ad) (t := t) (F := F) (G := G) rfl).1 (m_Dk rfl).2 k_961 k_962 q_Dk_load (by decide) (Nat.le_of_ble_eq_true rfl) (by decide) d_Lw_load_5 htb (⟨⟨by decide, by decide, by decide, ok.w k_918 rfl⟩, Or.inl ⟨ok.f k_925 rfl, rfl⟩⟩) (fun xq => ?_)
  refine g_astore (lv' := [(4, .ref xq), (0, .ref (ad 0)), (1, .int (iI i)), (2, .int (iI b)), (3, .ref (ad 264))]) ok d_Lw_load_13 (by decide) rfl ?_
  refine g_iconst ok d_Lw_load_15 ?_
  exact g_iret ok d_Lw_load_16 ⟨_, _, rfl, rfl, rfl, rfl⟩
theorem d_Lw_under_0 : decode b_Lw_under 0 = .ok (.aload_n 3, 1) := by decide +kernel
theorem d_Lw_under_1 : decode b_Lw_under 1 = .ok (.iconst 0, 1) := by decide +kernel
theorem d_Lw_under_2 : decode b_Lw_under 2 = .ok (.aload_n 0, 1) := by decide +kernel
theorem d_Lw_under_3 : decode b_Lw_under 3 = .ok (.iload_n 1, 1) := by decide +kernel
theorem d_Lw_under_4 : decode b_Lw_under 4 = .ok (.iload_n 2, 1) := by decide +kernel
theorem d_Lw_under_5 : decode b_Lw_under 5 = .ok (.invokevirtual 48, 3) := by decide +kernel
theorem d_Lw_under_8 : decode b_Lw_under 8 = .ok (.i2l, 1) := by decide +kernel
theorem d_Lw_under_9 : decode b_Lw_under 9 = .ok (.lastore, 1) := by decide +kernel
theorem d_Lw_under_10 : decode b_Lw_under 10 = .ok (.goto 7, 3) := by decide +kernel
theorem d_Lw_under_13 : decode b_Lw_under 13 = .ok (.astore 4, 2) := by decide +kernel
theorem d_Lw_under_15 : decode b_Lw_under 15 = .ok (.iconst 1, 1) := by decide +kernel
theorem d_Lw_under_16 : decode b_Lw_under 16 = .ok (.ireturn, 1) := by decide +kernel
theorem d_Lw_under_17 : decode b_Lw_under 17 = .ok (.iconst 0, 1) := by decide +kernel
theorem d_Lw_under_18 : decode b_Lw_under 18 = .ok (.ireturn, 1) := by decide +kernel
set_option maxHeartbeats 1000000 in
set_option maxRecDepth 100000 in
theorem l_under_ok (F : Nat → Nat → Int) (G : Nat → Int → Int) (x y : Int) (post : Int → Prop) (hc : cP y_Dk_under b_Dk_under 4 (some .int) 6 82 F G (fun ad => [.ref (ad 0), .int (iI x), .int (iI y)]) post) : cL y_Lw_under b_Lw_under 5 [(0, 10, 13, 17)] 7 105 F G (fun ad => [.ref (ad 0), .int (iI x), .int (iI y), .ref (ad 264)]) (fun z F' G' => z = 0 ∧ ∃ w, post w ∧ F' = F ∧ G' = gU G 264 0 (iI w).toInt) := by
  intro s0 a0 D t ad
  refine g_startY (by decide +kernel) (Nat.le_of_ble_eq_true rfl) (fun p l e R s m args below meth c A hlt htb ok => ?_)
  show gW p l e R s m args below meth c _ D A 5 (gZ0 s) 0 0 ad 265 (mem ad t F G) 0 [(0, .ref (ad 0)), (1, .int (iI x)), (2, .int (iI y)), (3, .ref (ad 264))] []
  refine g_aload_n ok d_Lw_under_0 rfl 3 rfl ?_
  refine g_iconst ok d_Lw_under_1 ?_
  refine g_aload_n ok d_Lw_under_2 rfl 0 rfl ?_
  refine g_iload_n ok d_Lw_under_3 rfl 1 rfl ?_
  refine g_iload_n ok d_Lw_under_4 rfl 2 rfl ?_
  refine g_callPV (As := [.int (iI x), .int (iI y)]) (st := [.int (iI 0), .ref (ad 264)]) ok _ (hc s0 a0 D t ad) k_971 k_1 k_968 cl_Dk (m_Dk (ad := ad) (t := t) (F := F) (G := G) rfl).1 (m_Dk rfl).2 k_969 k_970 q_Dk_under (by decide) (Nat.le_of_ble_eq_true rfl) (by decide) d_Lw_under_5 (fun z1 hc1 => ?_)
  refine g_i2l ok d_Lw_under_8 ?_
  refine h_last ok d_Lw_under_9 ?_
  refine g_goto ok 17 d_Lw_under_10 (by decide) ?_
  refine g_iconst ok d_Lw_under_17 ?_
  refine g_widen (k := 1) (j := 6) (by decide) (by decide) ?_
  exact g_iret ok d_Lw_under_18 ⟨_, _, rfl, rfl, _, hc1, rfl, rfl⟩
set_option maxHeartbeats 1000000 in
set_option maxRecDepth 100000 in
theorem l_under_IAE (F : Nat → Nat → Int) (G : Nat → Int → Int) (x y : Int) (hc : cT y_Dk_under b_Dk_under 4 (some .int) 6 82 F G (fun ad => [.ref (ad 0), .int (iI x), .int (iI y)]) "java/lang/IllegalArgumentException") : cL y_Lw_under b_Lw_under 5 [(0, 10, 13, 17)] 7 105 F G (fun ad => [.ref (ad 0), .int (iI x), .int (iI y), .ref (ad 264)]) (fun z F' G' => z = 1 ∧ F' = F ∧ G' = G) := by
  intro s0 a0 D t ad
  refine g_startY (by decide +kernel) (Nat.le_of_ble_eq_true rfl) (fun p l e R s m args below meth c A hlt htb ok => ?_)
  show gW p l e R s m args below meth c _ D A 5 (gZ0 s) 0 0 ad 265 (mem ad t F G) 0 [(0, .ref (ad 0)), (1, .int (iI x)), (2, .int (iI y)), (3, .ref (ad 264))] []
  refine g_aload_n ok d_Lw_under_0 rfl 3 rfl ?_
  refine g_iconst ok d_Lw_under_1 ?_
  refine g_aload_n ok d_Lw_under_2 rfl 0 rfl ?_
  refine g_iload_n ok d_Lw_under_3 rfl 1 rfl ?_
  refine g_iload_n ok d_Lw_under_4 rfl 2 rfl ?_
  refine g_catch (hs := [((0, 10, 13, 17), "java/lang/IllegalArgumentException")]) (hp := 13) (As := [.int (iI x), .int (iI y)]) (st := [.int (iI 0), .ref (ad 264)]) ok _ hlt (hc s0 a0 D t ad) k_971 k_1 k_968 cl_Dk (m_Dk (ad := ad) (t := t) (F := F) (G := G) rfl).1 (m_Dk rfl).2 k_969 k_970 q_Dk_under (by decide) (Nat.le_of_ble_eq_true rfl) (by decide) d_Lw_under_5 htb (⟨⟨by decide, by decide, by decide, ok.w k_660 rfl⟩, Or.inl ⟨ok.f k_753 rfl, rfl⟩⟩) (fun xq => ?_)
  refine g_astore (lv' := [(4, .ref xq), (0, .ref (ad 0)), (1, .int (iI x)), (2, .int (iI y)), (3, .ref (ad 264))]) ok d_Lw_under_13 (by decide) rfl ?_
  refine g_iconst ok d_Lw_under_15 ?_
  exact g_iret ok d_Lw_under_16 ⟨_, _, rfl, rfl, rfl, rfl⟩
theorem d_Lw_needle_0 : decode b_Lw_needle 0 = .ok (.aload_n 3, 1) := by decide +kernel
theorem d_Lw_needle_1 : decode b_Lw_needle 1 = .ok (.iconst 0, 1) := by decide +kernel
theorem d_Lw_needle_2 : decode b_Lw_needle 2 = .ok (.aload_n 0, 1) := by decide +kernel
theorem d_Lw_needle_3 : decode b_Lw_needle 3 = .ok (.iload_n 1, 1) := by decide +kernel
theorem d_Lw_needle_4 : decode b_Lw_needle 4 = .ok (.iload_n 2, 1) := by decide +kernel
theorem d_Lw_needle_5 : decode b_Lw_needle 5 = .ok (.invokevirtual 51, 3) := by decide +kernel
theorem d_Lw_needle_8 : decode b_Lw_needle 8 = .ok (.i2l, 1) := by decide +kernel
theorem d_Lw_needle_9 : decode b_Lw_needle 9 = .ok (.lastore, 1) := by decide +kernel
theorem d_Lw_needle_10 : decode b_Lw_needle 10 = .ok (.goto 11, 3) := by decide +kernel
theorem d_Lw_needle_13 : decode b_Lw_needle 13 = .ok (.astore 4, 2) := by decide +kernel
theorem d_Lw_needle_15 : decode b_Lw_needle 15 = .ok (.iconst 1, 1) := by decide +kernel
theorem d_Lw_needle_16 : decode b_Lw_needle 16 = .ok (.ireturn, 1) := by decide +kernel
theorem d_Lw_needle_17 : decode b_Lw_needle 17 = .ok (.astore 4, 2) := by decide +kernel
theorem d_Lw_needle_19 : decode b_Lw_needle 19 = .ok (.iconst 2, 1) := by decide +kernel
theorem d_Lw_needle_20 : decode b_Lw_needle 20 = .ok (.ireturn, 1) := by decide +kernel
theorem d_Lw_needle_21 : decode b_Lw_needle 21 = .ok (.iconst 0, 1) := by decide +kernel
theorem d_Lw_needle_22 : decode b_Lw_needle 22 = .ok (.ireturn, 1) := by decide +kernel
set_option maxHeartbeats 1000000 in
set_option maxRecDepth 100000 in
theorem l_needle_ok (F : Nat → Nat → Int) (G : Nat → Int → Int) (i f : Int) (post : Int → Prop) (hc : cP y_Dk_needle b_Dk_needle 5 (some .int) 6 82 F G (fun ad => [.ref (ad 0), .int (iI i), .int (iI f)]) post) : cL y_Lw_needle b_Lw_needle 5 [(0, 10, 13, 39), (0, 10, 17, 17)] 7 106 F G (fun ad => [.ref (ad 0), .int (iI i), .int (iI f), .ref (ad 264)]) (fun z F' G' => z = 0 ∧ ∃ w, post w ∧ F' = F ∧ G' = gU G 264 0 (iI w).toInt) := by
  intro s0 a0 D t ad
  refine g_startY (by decide +kernel) (Nat.le_of_ble_eq_true rfl) (fun p l e R s m args below meth c A hlt htb ok => ?_)
  show gW p l e R s m args below meth c _ D A 5 (gZ0 s) 0 0 ad 265 (mem ad t F G) 0 [(0, .ref (ad 0)), (1, .int (iI i)), (2, .int (iI f)), (3, .ref (ad 264))] []
  refine g_aload_n ok d_Lw_needle_0 rfl 3 rfl ?_
  refine g_iconst ok d_Lw_needle_1 ?_
  refine g_aload_n ok d_Lw_needle_2 rfl 0 rfl ?_
  refine g_iload_n ok d_Lw_needle_3 rfl 1 rfl ?_
  refine g_iload_n ok d_Lw_needle_4 rfl 2 rfl ?_
  refine g_callPV (As := [.int (iI i), .int (iI f)]) (st := [.int (iI 0), .ref (ad 264)]) ok _ (hc s0 a0 D t ad) k_980 k_1 k_977 cl_Dk (m_Dk (ad := ad) (t := t) (F := F) (G := G) rfl).1 (m_Dk rfl).2 k_978 k_979 q_Dk_needle (by decide) (Nat.le_of_ble_eq_true rfl) (by decide) d_Lw_needle_5 (fun z1 hc1 => ?_)
  refine g_i2l ok d_Lw_needle_8 ?_
  refine h_last ok d_Lw_needle_9 ?_
  refine g_goto ok 21 d_Lw_needle_10 (by decide) ?_
  refine g_iconst ok d_Lw_needle_21 ?_
  refine g_widen (k := 1) (j := 6) (by decide) (by decide) ?_
  exact g_iret ok d_Lw_needle_22 ⟨_, _, rfl, rfl, _, hc1, rfl, rfl⟩
set_option maxHeartbeats 1000000 in
set_option maxRecDepth 100000 in
theorem l_needle_IAE (F : Nat → Nat → Int) (G : Nat → Int → Int) (i f : Int) (hc : cT y_Dk_needle b_Dk_needle 5 (some .int) 6 82 F G (fun ad => [.ref (ad 0), .int (iI i), .int (iI f)]) "java/lang/IllegalArgumentException") : cL y_Lw_needle b_Lw_needle 5 [(0, 10, 13, 39), (0, 10, 17, 17)] 7 106 F G (fun ad => [.ref (ad 0), .int (iI i), .int (iI f), .ref (ad 264)]) (fun z F' G' => z = 2 ∧ F' = F ∧ G' = G) := by
  intro s0 a0 D t ad
  refine g_startY (by decide +kernel) (Nat.le_of_ble_eq_true rfl) (fun p l e R s m args below meth c A hlt htb ok => ?_)
  show gW p l e R s m args below meth c _ D A 5 (gZ0 s) 0 0 ad 265 (mem ad t F G) 0 [(0, .ref (ad 0)), (1, .int (iI i)), (2, .int (iI f)), (3, .ref (ad 264))] []
  refine g_aload_n ok d_Lw_needle_0 rfl 3 rfl ?_
  refine g_iconst ok d_Lw_needle_1 ?_
  refine g_aload_n ok d_Lw_needle_2 rfl 0 rfl ?_
  refine g_iload_n ok d_Lw_needle_3 rfl 1 rfl ?_
  refine g_iload_n ok d_Lw_needle_4 rfl 2 rfl ?_
  refine g_catch (hs := [((0, 10, 13, 39), "java/lang/IndexOutOfBoundsException"), ((0, 10, 17, 17), "java/lang/IllegalArgumentException")]) (hp := 17) (As := [.int (iI i), .int (iI f)]) (st := [.int (iI 0), .ref (ad 264)]) ok _ hlt (hc s0 a0 D t ad) k_980 k_1 k_977 cl_Dk (m_Dk (ad := ad) (t := t) (F := F) (G := G) rfl).1 (m_Dk rfl).2 k_978 k_979 q_Dk_needle (by decide) (Nat.le_of_ble_eq_true rfl) (by decide) d_Lw_needle_5 htb (⟨⟨by decide, by decide, by decide, ok.w k_918 rfl⟩, Or.inr ⟨nc_at ok (nw_at ok 91 (by decide +kernel)), ⟨⟨by decide, by decide, by decide, ok.w k_660 rfl⟩, Or.inl ⟨ok.f k_753 rfl, rfl⟩⟩⟩⟩) (fun xq => ?_)
  refine g_astore (lv' := [(4, .ref xq), (0, .ref (ad 0)), (1, .int (iI i)), (2, .int (iI f)), (3, .ref (ad 264))]) ok d_Lw_needle_17 (by decide) rfl ?_
  refine g_iconst ok d_Lw_needle_19 ?_
  exact g_iret ok d_Lw_needle_20 ⟨_, _, rfl, rfl, rfl, rfl⟩
set_option maxHeartbeats 1000000 in
set_option maxRecDepth 100000 in
theorem l_needle_IOB (F : Nat → Nat → Int) (G : Nat → Int → Int) (i f : Int) (hc : cT y_Dk_needle b_Dk_needle 5 (some .int) 6 82 F G (fun ad => [.ref (ad 0), .int (iI i), .int (iI f)]) "java/lang/IndexOutOfBoundsException") : cL y_Lw_needle b_Lw_needle 5 [(0, 10, 13, 39), (0, 10, 17, 17)] 7 106 F G (fun ad => [.ref (ad 0), .int (iI i), .int (iI f), .ref (ad 264)]) (fun z F' G' => z = 1 ∧ F' = F ∧ G' = G) := by
  intro s0 a0 D t ad
  refine g_startY (by decide +kernel) (Nat.le_of_ble_eq_true rfl) (fun p l e R s m args below meth c A hlt htb ok => ?_)
  show gW p l e R s m args below meth c _ D A 5 (gZ0 s) 0 0 ad 265 (mem ad t F G) 0 [(0, .ref (ad 0)), (1, .int (iI i)), (2, .int (iI f)), (3, .ref (ad 264))] []
  refine g_aload_n ok d_Lw_needle_0 rfl 3 rfl ?_
  refine g_iconst ok d_Lw_needle_1 ?_
  refine g_aload_n ok d_Lw_needle_2 rfl 0 rfl ?_
  refine g_iload_n ok d_Lw_needle_3 rfl 1 rfl ?_
  refine g_iload_n ok d_Lw_needle_4 rfl 2 rfl ?_
  refine g_catch (hs := [((0, 10, 13, 39), "java/lang/IndexOutOfBoundsException"), ((0, 10, 17, 17), "java/lang/IllegalArgumentException")]) (hp := 13) (As := [.int (iI i), .int (iI f)]) (st := [.int (iI 0), .ref (ad 264)]) ok _ hlt (hc s0 a0 D t ad) k_980 k_1 k_977 cl_Dk (m_Dk (ad := ad) (t := t) (F := F) (G := G) rfl).1 (m_Dk rfl).2 k_978 k_979 q_Dk_needle (by decide) (Nat.le_of_ble_eq_true rfl) (by decide) d_Lw_needle_5 htb (⟨⟨by decide, by decide, by decide, ok.w k_918 rfl⟩, Or.inl ⟨ok.f k_925 rfl, rfl⟩⟩) (fun xq => ?_)
  refine g_astore (lv' := [(4, .ref xq), (0, .ref (ad 0)), (1, .int (iI i)), (2, .int (iI f)), (3, .ref (ad 264))]) ok d_Lw_needle_13 (by decide) rfl ?_
  refine g_iconst ok d_Lw_needle_15 ?_
  exact g_iret ok d_Lw_needle_16 ⟨_, _, rfl, rfl, rfl, rfl⟩
