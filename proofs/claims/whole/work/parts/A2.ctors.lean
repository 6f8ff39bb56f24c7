/-! constructors -/
theorem va_up_comm {C : Nat → va_E} {i j : Nat} {x y : va_E} (h : i ≠ j) : va_up (va_up C i x) j y = va_up (va_up C j y) i x := by
  funext k
  unfold va_up
  by_cases h1 : k = j
  · rw [if_pos h1, if_neg (by omega), if_pos h1]
  · rw [if_neg h1]
    by_cases h2 : k = i
    · rw [if_pos h2, if_pos h2]
    · rw [if_neg h2, if_neg h2, if_neg h1]
theorem va_up_twice {C : Nat → va_E} {i : Nat} {x y : va_E} : va_up (va_up C i x) i y = va_up C i y := by
  funext k
  unfold va_up
  by_cases h : k = i
  · rw [if_pos h, if_pos h]
  · rw [if_neg h, if_neg h, if_neg h]
section GCT
variable {s0 : State} {a0 : Array Value} {D : va_G} {t : Nat → ClassId} {p : Program} {l : Launch} {e : Env} {R : Room} {s : State} {m : MethodId} {args : Array Value} {below : List Frame} {meth : Method} {c : Code} {Q : State → Prop} {Z : Heap → List Loc → Prop} {A : Nat → Prop} {own : String} {cc : ByteArray} {nL : Nat} {ret : Option FieldType} {mn : String} {fr lo mc ms : Nat} {cells slots : Nat} {ad : Nat → Nat} {n : Nat} {ce : Nat → va_E} {pc : Nat} {lv lv' : List (Nat × Value)} {st : List Value}
theorem b_ints (ok : gOk s0 a0 D t p R s m meth c A own cc nL ret mn fr lo mc ms) (hcnt : s.heap.size + cells = s0.heap.size + n) {C : Nat → va_E} {k0 : Nat} {ob : va_E} (hk0 : k0 < n) {z : Int} (N : Nat) (hz : z = N) (hN : N ≤ 100000) (harr : Cond.arrayClass .int ∈ lw_tbl) (hroom : cells + 1 ≤ mc ∧ slots + N ≤ ms) (hd : decode cc pc = .ok (.newarray .int, 2)) (kk : gW p l e R s m args below meth c Q D A nL gZ (cells + 1) (slots + N) (adB s0) (n + 1) (va_up (va_up C n (zC t N (fun _ => 0))) k0 ob) (pc + 2) lv (.ref (adB s0 n) :: st)) : gW p l e R s m args below meth c Q D A nL Z cells slots (adB s0) n (va_up C k0 ob) pc lv (.int (iI z) :: st) :=
  a_ints ok N hz hN harr hroom hd (b_grow ok hcnt (by rw [va_up_comm (by omega)]; exact kk))
theorem b_bools (ok : gOk s0 a0 D t p R s m meth c A own cc nL ret mn fr lo mc ms) (hcnt : s.heap.size + cells = s0.heap.size + n) {C : Nat → va_E} {k0 : Nat} {ob : va_E} (hk0 : k0 < n) {z : Int} (N : Nat) (hz : z = N) (hN : N ≤ 100000) (harr : Cond.arrayClass .boolean ∈ lw_tbl) (hroom : cells + 1 ≤ mc ∧ slots + N ≤ ms) (hd : decode cc pc = .ok (.newarray .boolean, 2)) (kk : gW p l e R s m args below meth c Q D A nL gZ (cells + 1) (slots + N) (adB s0) (n + 1) (va_up (va_up C n (bC t N (fun _ => 0))) k0 ob) (pc + 2) lv (.ref (adB s0 n) :: st)) : gW p l e R s m args below meth c Q D A nL Z cells slots (adB s0) n (va_up C k0 ob) pc lv (.int (iI z) :: st) :=
  a_bools ok N hz hN harr hroom hd (b_grow ok hcnt (by rw [va_up_comm (by omega)]; exact kk))
theorem b_refs (ok : gOk s0 a0 D t p R s m meth c A own cc nL ret mn fr lo mc ms) (hcnt : s.heap.size + cells = s0.heap.size + n) {C : Nat → va_E} {k0 : Nat} {ob : va_E} (hk0 : k0 < n) {z : Int} (N t0 : Nat) {X : String} {index : Nat} (ht : (gTl t)[t0]? = some (t t0, .object X)) (hz : z = N) (hN : N ≤ 100000) (hcl : Cond.classLink own index X ∈ lw_tbl) (hover : Cond.arrayOver (.object X) ∈ lw_tbl) (hroom : cells + 1 ≤ mc ∧ slots + N ≤ ms) (hd : decode cc pc = .ok (.anewarray index, 3)) (kk : gW p l e R s m args below meth c Q D A nL gZ (cells + 1) (slots + N) (adB s0) (n + 1) (va_up (va_up C n (qC t t0 N (fun _ => none))) k0 ob) (pc + 3) lv (.ref (adB s0 n) :: st)) : gW p l e R s m args below meth c Q D A nL Z cells slots (adB s0) n (va_up C k0 ob) pc lv (.int (iI z) :: st) :=
  a_refs ok N t0 ht hz hN hcl hover hroom hd (b_grow ok hcnt (by rw [va_up_comm (by omega)]; exact kk))
theorem b_new (ok : gOk s0 a0 D t p R s m meth c A own cc nL ret mn fr lo mc ms) (hcnt : s.heap.size + cells = s0.heap.size + n) {C : String} {T : u_T} {N ci index : Nat} (hin : ∀ w ∈ u_ws C T N, w ∈ gTb) (hc : vwCl[ci]? = some (C, T, N)) (ty : Nat → FieldType) (hty : ∀ k, k < N → parseFieldDescriptor (T k).2.2.1 = some (ty k)) (hcl : Cond.classLink own index C ∈ lw_tbl) (hins : Cond.instantiable C N ∈ lw_tbl) (hini : Cond.initialized C ∈ lw_tbl) (fs : List Value) (hfs : ∀ j, j < N → defaultValue (ty j) = vp_V fs j) (hroom : cells + 1 ≤ mc ∧ slots + N ≤ ms) (hd : decode cc pc = .ok (.new index, 3)) (kk : gW p l e R s m args below meth c Q D A nL gZ (cells + 1) (slots + N) (adB s0) (n + 1) (va_up ce n (.inr (ci, fs))) (pc + 3) lv (.ref (adB s0 n) :: st)) : gW p l e R s m args below meth c Q D A nL Z cells slots (adB s0) n ce pc lv st :=
  a_new ok hin hc ty hty hcl hins hini fs hfs hroom hd (b_grow ok hcnt kk)
theorem b_putF (ok : gOk s0 a0 D t p R s m meth c A own cc nL ret mn fr lo mc ms) {C ref : String} {T : u_T} {N ci index : Nat} (hin : ∀ w ∈ u_ws C T N, w ∈ gTb) (hc : vwCl[ci]? = some (C, T, N)) {C0 : Nat → va_E} (k : Nat) (hk : k < n) {fs fs' : List Value} (j : Nat) (hj : j < N) (ty0 : Nat → FieldType) (hty : ∀ k, k < N → parseFieldDescriptor (T k).2.2.1 = some (ty0 k)) (hnm : ∀ a, a < N → ∀ b, b < N → a ≠ b → (T a).2.1 ≠ (T b).2.1) (hr : (T j).1 = ref) (hl0 : Cond.fieldLink own index ref (T j).2.1 (T j).2.2.1 ∈ lw_tbl) (hfin : (T j).2.2.2 = true) (hmn : mn = "<init>") (hdecl : (T j).1 = own) {v : Value} (hn : narrow (ty0 j) v = v) (hfit : fits (ty0 j) v = true) (hlen : j < fs.length) (hfs : fs.set j v = fs') (hd : decode cc pc = .ok (.putfield index, 3)) (kk : gW p l e R s m args below meth c Q D A nL gZ cells slots (adB s0) n (va_up C0 k (.inr (ci, fs'))) (pc + 3) lv st) : gW p l e R s m args below meth c Q D A nL Z cells slots (adB s0) n (va_up C0 k (.inr (ci, fs))) pc lv (v :: .ref (adB s0 k) :: st) := by
  refine g_putF ok hin hc k hk (va_up_self _ _ _) j hj ty0 hty hnm hr hl0 hfin hmn hdecl hn hfit hlen hd ?_
  rw [va_up_twice, hfs]
  exact kk
theorem b_put (ok : gOk s0 a0 D t p R s m meth c A own cc nL ret mn fr lo mc ms) {C ref : String} {T : u_T} {N ci index : Nat} (hin : ∀ w ∈ u_ws C T N, w ∈ gTb) (hc : vwCl[ci]? = some (C, T, N)) {C0 : Nat → va_E} (k : Nat) (hk : k < n) {fs fs' : List Value} (j : Nat) (hj : j < N) (ty0 : Nat → FieldType) (hty : ∀ k, k < N → parseFieldDescriptor (T k).2.2.1 = some (ty0 k)) (hnm : ∀ a, a < N → ∀ b, b < N → a ≠ b → (T a).2.1 ≠ (T b).2.1) (hr : (T j).1 = ref) (hl0 : Cond.fieldLink own index ref (T j).2.1 (T j).2.2.1 ∈ lw_tbl) (hfin : (T j).2.2.2 = false) {v : Value} (hn : narrow (ty0 j) v = v) (hfit : fits (ty0 j) v = true) (hlen : j < fs.length) (hfs : fs.set j v = fs') (hd : decode cc pc = .ok (.putfield index, 3)) (kk : gW p l e R s m args below meth c Q D A nL gZ cells slots (adB s0) n (va_up C0 k (.inr (ci, fs'))) (pc + 3) lv st) : gW p l e R s m args below meth c Q D A nL Z cells slots (adB s0) n (va_up C0 k (.inr (ci, fs))) pc lv (v :: .ref (adB s0 k) :: st) := by
  refine g_put ok hin hc k hk (va_up_self _ _ _) j hj ty0 hty hnm hr hl0 hfin hn hfit hlen hd ?_
  rw [va_up_twice, hfs]
  exact kk
end GCT
theorem d_Ty_init_0 : decode b_Ty_init 0 = .ok (.aload_n 0, 1) := by decide +kernel
theorem d_Ty_init_1 : decode b_Ty_init 1 = .ok (.invokespecial 1, 3) := by decide +kernel
theorem d_Ty_init_4 : decode b_Ty_init 4 = .ok (.return_, 1) := by decide +kernel
set_option maxHeartbeats 1000000 in
set_option maxRecDepth 100000 in
theorem k_Ty_init (s0 : State) (a0 : Array Value) (D : va_G) (t : Nat → ClassId) (C : Nat → va_E) (k0 : Nat) : gK s0 a0 D t y_Ty_init b_Ty_init 1 1 20 (0) (0) (k0 + 1) (va_up C k0 (.inr (3, [.int (iI 0), .int (iI 0)]))) [.ref (adB s0 k0)] (k0 + 1) (va_up C k0 (.inr (3, [.int (iI 0), .int (iI 0)]))) := by
  refine g_startK (by decide +kernel) (Nat.le_of_ble_eq_true rfl) (fun p l e R s m args below meth c A hsz ok => ?_)
  show gW p l e R s m args below meth c _ D A 1 (gZ0 s) 0 0 (adB s0) (k0 + 1) _ 0 [(0, .ref (adB s0 k0))] []
  refine g_aload_n ok d_Ty_init_0 rfl 0 rfl ?_
  refine a_obj ok k_73 k_28 k_29 (by decide) (by decide) d_Ty_init_1 ?_
  exact g_kret ok d_Ty_init_4
theorem d_Rg_init_0 : decode b_Rg_init 0 = .ok (.aload_n 0, 1) := by decide +kernel
theorem d_Rg_init_1 : decode b_Rg_init 1 = .ok (.invokespecial 1, 3) := by decide +kernel
theorem d_Rg_init_4 : decode b_Rg_init 4 = .ok (.aload_n 0, 1) := by decide +kernel
theorem d_Rg_init_5 : decode b_Rg_init 5 = .ok (.iload_n 1, 1) := by decide +kernel
theorem d_Rg_init_6 : decode b_Rg_init 6 = .ok (.newarray .int, 2) := by decide +kernel
theorem d_Rg_init_8 : decode b_Rg_init 8 = .ok (.putfield 7, 3) := by decide +kernel
theorem d_Rg_init_11 : decode b_Rg_init 11 = .ok (.aload_n 0, 1) := by decide +kernel
theorem d_Rg_init_12 : decode b_Rg_init 12 = .ok (.iload_n 1, 1) := by decide +kernel
theorem d_Rg_init_13 : decode b_Rg_init 13 = .ok (.newarray .int, 2) := by decide +kernel
theorem d_Rg_init_15 : decode b_Rg_init 15 = .ok (.putfield 13, 3) := by decide +kernel
theorem d_Rg_init_18 : decode b_Rg_init 18 = .ok (.return_, 1) := by decide +kernel
set_option maxHeartbeats 1000000 in
set_option maxRecDepth 100000 in
theorem k_Rg_init (s0 : State) (a0 : Array Value) (D : va_G) (t : Nat → ClassId) (C : Nat → va_E) (k0 : Nat) (N : Nat) (hN : N ≤ 100000) : gK s0 a0 D t y_Rg_init b_Rg_init 2 1 20 (2) (0 + N + N) (k0 + 1) (va_up C k0 (.inr (2, [.null, .null, .int (iI 0)]))) [.ref (adB s0 k0), .int (iI (N : Int))] (k0 + 3) (va_up (va_up (va_up C (k0 + 1) (zC t N (fun _ => 0))) (k0 + 2) (zC t N (fun _ => 0))) k0 (.inr (2, [.ref (adB s0 (k0 + 1)), .ref (adB s0 (k0 + 2)), .int (iI 0)]))) := by
  refine g_startK (by decide +kernel) (Nat.le_of_ble_eq_true rfl) (fun p l e R s m args below meth c A hsz ok => ?_)
  show gW p l e R s m args below meth c _ D A 2 (gZ0 s) 0 0 (adB s0) (k0 + 1) _ 0 [(0, .ref (adB s0 k0)), (1, .int (iI (N : Int)))] []
  refine g_aload_n ok d_Rg_init_0 rfl 0 rfl ?_
  refine a_obj ok k_43 k_28 k_29 (by decide) (by decide) d_Rg_init_1 ?_
  refine g_aload_n ok d_Rg_init_4 rfl 0 rfl ?_
  refine g_iload_n ok d_Rg_init_5 rfl 1 rfl ?_
  refine b_ints ok (by omega) (by omega) N rfl hN k_67 (by omega) d_Rg_init_6 ?_
  refine b_putF (fs' := [.ref (adB s0 (k0 + 1)), .null, .int (iI 0)]) ok in_Rg cl_Rg k0 (by omega) 0 (by decide) ty_Rg ok_Rg nm_Rg rfl k_44 rfl rfl rfl rfl rfl (Nat.le_of_ble_eq_true rfl) rfl d_Rg_init_8 ?_
  refine g_aload_n ok d_Rg_init_11 rfl 0 rfl ?_
  refine g_iload_n ok d_Rg_init_12 rfl 1 rfl ?_
  refine b_ints ok (by omega) (by omega) N rfl hN k_67 (by omega) d_Rg_init_13 ?_
  refine b_putF (fs' := [.ref (adB s0 (k0 + 1)), .ref (adB s0 (k0 + 2)), .int (iI 0)]) ok in_Rg cl_Rg k0 (by omega) 1 (by decide) ty_Rg ok_Rg nm_Rg rfl k_49 rfl rfl rfl rfl rfl (Nat.le_of_ble_eq_true rfl) rfl d_Rg_init_15 ?_
  exact g_kret ok d_Rg_init_18
theorem d_Hl_init_0 : decode b_Hl_init 0 = .ok (.aload_n 0, 1) := by decide +kernel
theorem d_Hl_init_1 : decode b_Hl_init 1 = .ok (.invokespecial 3, 3) := by decide +kernel
theorem d_Hl_init_4 : decode b_Hl_init 4 = .ok (.aload_n 0, 1) := by decide +kernel
theorem d_Hl_init_5 : decode b_Hl_init 5 = .ok (.sipush 384, 3) := by decide +kernel
theorem d_Hl_init_8 : decode b_Hl_init 8 = .ok (.newarray .int, 2) := by decide +kernel
theorem d_Hl_init_10 : decode b_Hl_init 10 = .ok (.putfield 9, 3) := by decide +kernel
theorem d_Hl_init_13 : decode b_Hl_init 13 = .ok (.aload_n 0, 1) := by decide +kernel
theorem d_Hl_init_14 : decode b_Hl_init 14 = .ok (.sipush 192, 3) := by decide +kernel
theorem d_Hl_init_17 : decode b_Hl_init 17 = .ok (.newarray .int, 2) := by decide +kernel
theorem d_Hl_init_19 : decode b_Hl_init 19 = .ok (.putfield 15, 3) := by decide +kernel
theorem d_Hl_init_22 : decode b_Hl_init 22 = .ok (.aload_n 0, 1) := by decide +kernel
theorem d_Hl_init_23 : decode b_Hl_init 23 = .ok (.sipush 192, 3) := by decide +kernel
theorem d_Hl_init_26 : decode b_Hl_init 26 = .ok (.newarray .int, 2) := by decide +kernel
theorem d_Hl_init_28 : decode b_Hl_init 28 = .ok (.putfield 18, 3) := by decide +kernel
theorem d_Hl_init_31 : decode b_Hl_init 31 = .ok (.return_, 1) := by decide +kernel
set_option maxHeartbeats 1000000 in
set_option maxRecDepth 100000 in
theorem k_Hl_init (s0 : State) (a0 : Array Value) (D : va_G) (t : Nat → ClassId) (C : Nat → va_E) (k0 : Nat) : gK s0 a0 D t y_Hl_init b_Hl_init 1 1 20 (3) (0 + 384 + 192 + 192) (k0 + 1) (va_up C k0 (.inr (6, [.null, .null, .null, .int (iI 0), .int (iI 0), .int (iI 0), .int (iI 0), .int (iI 0), .int (iI 0), .int (iI 0), .int (iI 0), .int (iI 0), .int (iI 0)]))) [.ref (adB s0 k0)] (k0 + 4) (va_up (va_up (va_up (va_up C (k0 + 1) (zC t 384 (fun _ => 0))) (k0 + 2) (zC t 192 (fun _ => 0))) (k0 + 3) (zC t 192 (fun _ => 0))) k0 (.inr (6, [.ref (adB s0 (k0 + 1)), .ref (adB s0 (k0 + 2)), .ref (adB s0 (k0 + 3)), .int (iI 0), .int (iI 0), .int (iI 0), .int (iI 0), .int (iI 0), .int (iI 0), .int (iI 0), .int (iI 0), .int (iI 0), .int (iI 0)]))) := by
  refine g_startK (by decide +kernel) (Nat.le_of_ble_eq_true rfl) (fun p l e R s m args below meth c A hsz ok => ?_)
  show gW p l e R s m args below meth c _ D A 1 (gZ0 s) 0 0 (adB s0) (k0 + 1) _ 0 [(0, .ref (adB s0 k0))] []
  refine g_aload_n ok d_Hl_init_0 rfl 0 rfl ?_
  refine a_obj ok k_196 k_28 k_29 (by decide) (by decide) d_Hl_init_1 ?_
  refine g_aload_n ok d_Hl_init_4 rfl 0 rfl ?_
  refine g_sipush ok (by decide) d_Hl_init_5 ?_
  refine b_ints ok (by omega) (by omega) 384 rfl (by decide) k_67 (by decide) d_Hl_init_8 ?_
  refine b_putF (fs' := [.ref (adB s0 (k0 + 1)), .null, .null, .int (iI 0), .int (iI 0), .int (iI 0), .int (iI 0), .int (iI 0), .int (iI 0), .int (iI 0), .int (iI 0), .int (iI 0), .int (iI 0)]) ok in_Hl cl_Hl k0 (by omega) 0 (by decide) ty_Hl ok_Hl nm_Hl rfl k_197 rfl rfl rfl rfl rfl (Nat.le_of_ble_eq_true rfl) rfl d_Hl_init_10 ?_
  refine g_aload_n ok d_Hl_init_13 rfl 0 rfl ?_
  refine g_sipush ok (by decide) d_Hl_init_14 ?_
  refine b_ints ok (by omega) (by omega) 192 rfl (by decide) k_67 (by decide) d_Hl_init_17 ?_
  refine b_putF (fs' := [.ref (adB s0 (k0 + 1)), .ref (adB s0 (k0 + 2)), .null, .int (iI 0), .int (iI 0), .int (iI 0), .int (iI 0), .int (iI 0), .int (iI 0), .int (iI 0), .int (iI 0), .int (iI 0), .int (iI 0)]) ok in_Hl cl_Hl k0 (by omega) 1 (by decide) ty_Hl ok_Hl nm_Hl rfl k_198 rfl rfl rfl rfl rfl (Nat.le_of_ble_eq_true rfl) rfl d_Hl_init_19 ?_
  refine g_aload_n ok d_Hl_init_22 rfl 0 rfl ?_
  refine g_sipush ok (by decide) d_Hl_init_23 ?_
  refine b_ints ok (by omega) (by omega) 192 rfl (by decide) k_67 (by decide) d_Hl_init_26 ?_
  refine b_putF (fs' := [.ref (adB s0 (k0 + 1)), .ref (adB s0 (k0 + 2)), .ref (adB s0 (k0 + 3)), .int (iI 0), .int (iI 0), .int (iI 0), .int (iI 0), .int (iI 0), .int (iI 0), .int (iI 0), .int (iI 0), .int (iI 0), .int (iI 0)]) ok in_Hl cl_Hl k0 (by omega) 2 (by decide) ty_Hl ok_Hl nm_Hl rfl k_200 rfl rfl rfl rfl rfl (Nat.le_of_ble_eq_true rfl) rfl d_Hl_init_28 ?_
  exact g_kret ok d_Hl_init_31
theorem d_Pa_init_0 : decode b_Pa_init 0 = .ok (.aload_n 0, 1) := by decide +kernel
theorem d_Pa_init_1 : decode b_Pa_init 1 = .ok (.invokespecial 3, 3) := by decide +kernel
theorem d_Pa_init_4 : decode b_Pa_init 4 = .ok (.aload_n 0, 1) := by decide +kernel
theorem d_Pa_init_5 : decode b_Pa_init 5 = .ok (.sipush 4000, 3) := by decide +kernel
theorem d_Pa_init_8 : decode b_Pa_init 8 = .ok (.newarray .int, 2) := by decide +kernel
theorem d_Pa_init_10 : decode b_Pa_init 10 = .ok (.putfield 9, 3) := by decide +kernel
theorem d_Pa_init_13 : decode b_Pa_init 13 = .ok (.return_, 1) := by decide +kernel
set_option maxHeartbeats 1000000 in
set_option maxRecDepth 100000 in
theorem k_Pa_init (s0 : State) (a0 : Array Value) (D : va_G) (t : Nat → ClassId) (C : Nat → va_E) (k0 : Nat) : gK s0 a0 D t y_Pa_init b_Pa_init 1 1 20 (1) (0 + 4000) (k0 + 1) (va_up C k0 (.inr (8, [.null, .int (iI 0), .int (iI 0)]))) [.ref (adB s0 k0)] (k0 + 2) (va_up (va_up C (k0 + 1) (zC t 4000 (fun _ => 0))) k0 (.inr (8, [.ref (adB s0 (k0 + 1)), .int (iI 0), .int (iI 0)]))) := by
  refine g_startK (by decide +kernel) (Nat.le_of_ble_eq_true rfl) (fun p l e R s m args below meth c A hsz ok => ?_)
  show gW p l e R s m args below meth c _ D A 1 (gZ0 s) 0 0 (adB s0) (k0 + 1) _ 0 [(0, .ref (adB s0 k0))] []
  refine g_aload_n ok d_Pa_init_0 rfl 0 rfl ?_
  refine a_obj ok k_255 k_28 k_29 (by decide) (by decide) d_Pa_init_1 ?_
  refine g_aload_n ok d_Pa_init_4 rfl 0 rfl ?_
  refine g_sipush ok (by decide) d_Pa_init_5 ?_
  refine b_ints ok (by omega) (by omega) 4000 rfl (by decide) k_67 (by decide) d_Pa_init_8 ?_
  refine b_putF (fs' := [.ref (adB s0 (k0 + 1)), .int (iI 0), .int (iI 0)]) ok in_Pa cl_Pa k0 (by omega) 0 (by decide) ty_Pa ok_Pa nm_Pa rfl k_256 rfl rfl rfl rfl rfl (Nat.le_of_ble_eq_true rfl) rfl d_Pa_init_10 ?_
  exact g_kret ok d_Pa_init_13
theorem d_Pl_init_0 : decode b_Pl_init 0 = .ok (.aload_n 0, 1) := by decide +kernel
theorem d_Pl_init_1 : decode b_Pl_init 1 = .ok (.invokespecial 3, 3) := by decide +kernel
theorem d_Pl_init_4 : decode b_Pl_init 4 = .ok (.aload_n 0, 1) := by decide +kernel
theorem d_Pl_init_5 : decode b_Pl_init 5 = .ok (.sipush 1024, 3) := by decide +kernel
theorem d_Pl_init_8 : decode b_Pl_init 8 = .ok (.newarray .int, 2) := by decide +kernel
theorem d_Pl_init_10 : decode b_Pl_init 10 = .ok (.putfield 9, 3) := by decide +kernel
theorem d_Pl_init_13 : decode b_Pl_init 13 = .ok (.aload_n 0, 1) := by decide +kernel
theorem d_Pl_init_14 : decode b_Pl_init 14 = .ok (.sipush 1024, 3) := by decide +kernel
theorem d_Pl_init_17 : decode b_Pl_init 17 = .ok (.newarray .int, 2) := by decide +kernel
theorem d_Pl_init_19 : decode b_Pl_init 19 = .ok (.putfield 15, 3) := by decide +kernel
theorem d_Pl_init_22 : decode b_Pl_init 22 = .ok (.aload_n 0, 1) := by decide +kernel
theorem d_Pl_init_23 : decode b_Pl_init 23 = .ok (.bipush 10, 2) := by decide +kernel
theorem d_Pl_init_25 : decode b_Pl_init 25 = .ok (.newarray .int, 2) := by decide +kernel
theorem d_Pl_init_27 : decode b_Pl_init 27 = .ok (.putfield 18, 3) := by decide +kernel
theorem d_Pl_init_30 : decode b_Pl_init 30 = .ok (.aload_n 0, 1) := by decide +kernel
theorem d_Pl_init_31 : decode b_Pl_init 31 = .ok (.bipush 10, 2) := by decide +kernel
theorem d_Pl_init_33 : decode b_Pl_init 33 = .ok (.newarray .int, 2) := by decide +kernel
theorem d_Pl_init_35 : decode b_Pl_init 35 = .ok (.putfield 21, 3) := by decide +kernel
theorem d_Pl_init_38 : decode b_Pl_init 38 = .ok (.aload_n 0, 1) := by decide +kernel
theorem d_Pl_init_39 : decode b_Pl_init 39 = .ok (.bipush 10, 2) := by decide +kernel
theorem d_Pl_init_41 : decode b_Pl_init 41 = .ok (.newarray .int, 2) := by decide +kernel
theorem d_Pl_init_43 : decode b_Pl_init 43 = .ok (.putfield 24, 3) := by decide +kernel
theorem d_Pl_init_46 : decode b_Pl_init 46 = .ok (.return_, 1) := by decide +kernel
set_option maxHeartbeats 1000000 in
set_option maxRecDepth 100000 in
theorem k_Pl_init (s0 : State) (a0 : Array Value) (D : va_G) (t : Nat → ClassId) (C : Nat → va_E) (k0 : Nat) : gK s0 a0 D t y_Pl_init b_Pl_init 1 1 20 (5) (0 + 1024 + 1024 + 10 + 10 + 10) (k0 + 1) (va_up C k0 (.inr (9, [.null, .null, .null, .null, .null, .int (iI 0)]))) [.ref (adB s0 k0)] (k0 + 6) (va_up (va_up (va_up (va_up (va_up (va_up C (k0 + 1) (zC t 1024 (fun _ => 0))) (k0 + 2) (zC t 1024 (fun _ => 0))) (k0 + 3) (zC t 10 (fun _ => 0))) (k0 + 4) (zC t 10 (fun _ => 0))) (k0 + 5) (zC t 10 (fun _ => 0))) k0 (.inr (9, [.ref (adB s0 (k0 + 1)), .ref (adB s0 (k0 + 2)), .ref (adB s0 (k0 + 3)), .ref (adB s0 (k0 + 4)), .ref (adB s0 (k0 + 5)), .int (iI 0)]))) := by
  refine g_startK (by decide +kernel) (Nat.le_of_ble_eq_true rfl) (fun p l e R s m args below meth c A hsz ok => ?_)
  show gW p l e R s m args below meth c _ D A 1 (gZ0 s) 0 0 (adB s0) (k0 + 1) _ 0 [(0, .ref (adB s0 k0))] []
  refine g_aload_n ok d_Pl_init_0 rfl 0 rfl ?_
  refine a_obj ok k_297 k_28 k_29 (by decide) (by decide) d_Pl_init_1 ?_
  refine g_aload_n ok d_Pl_init_4 rfl 0 rfl ?_
  refine g_sipush ok (by decide) d_Pl_init_5 ?_
  refine b_ints ok (by omega) (by omega) 1024 rfl (by decide) k_67 (by decide) d_Pl_init_8 ?_
  refine b_putF (fs' := [.ref (adB s0 (k0 + 1)), .null, .null, .null, .null, .int (iI 0)]) ok in_Pl cl_Pl k0 (by omega) 0 (by decide) ty_Pl ok_Pl nm_Pl rfl k_298 rfl rfl rfl rfl rfl (Nat.le_of_ble_eq_true rfl) rfl d_Pl_init_10 ?_
  refine g_aload_n ok d_Pl_init_13 rfl 0 rfl ?_
  refine g_sipush ok (by decide) d_Pl_init_14 ?_
  refine b_ints ok (by omega) (by omega) 1024 rfl (by decide) k_67 (by decide) d_Pl_init_17 ?_
  refine b_putF (fs' := [.ref (adB s0 (k0 + 1)), .ref (adB s0 (k0 + 2)), .null, .null, .null, .int (iI 0)]) ok in_Pl cl_Pl k0 (by omega) 1 (by decide) ty_Pl ok_Pl nm_Pl rfl k_299 rfl rfl rfl rfl rfl (Nat.le_of_ble_eq_true rfl) rfl d_Pl_init_19 ?_
  refine g_aload_n ok d_Pl_init_22 rfl 0 rfl ?_
  refine g_bipush ok (by decide) d_Pl_init_23 ?_
  refine b_ints ok (by omega) (by omega) 10 rfl (by decide) k_67 (by decide) d_Pl_init_25 ?_
  refine b_putF (fs' := [.ref (adB s0 (k0 + 1)), .ref (adB s0 (k0 + 2)), .ref (adB s0 (k0 + 3)), .null, .null, .int (iI 0)]) ok in_Pl cl_Pl k0 (by omega) 2 (by decide) ty_Pl ok_Pl nm_Pl rfl k_300 rfl rfl rfl rfl rfl (Nat.le_of_ble_eq_true rfl) rfl d_Pl_init_27 ?_
  refine g_aload_n ok d_Pl_init_30 rfl 0 rfl ?_
  refine g_bipush ok (by decide) d_Pl_init_31 ?_
  refine b_ints ok (by omega) (by omega) 10 rfl (by decide) k_67 (by decide) d_Pl_init_33 ?_
  refine b_putF (fs' := [.ref (adB s0 (k0 + 1)), .ref (adB s0 (k0 + 2)), .ref (adB s0 (k0 + 3)), .ref (adB s0 (k0 + 4)), .null, .int (iI 0)]) ok in_Pl cl_Pl k0 (by omega) 3 (by decide) ty_Pl ok_Pl nm_Pl rfl k_301 rfl rfl rfl rfl rfl (Nat.le_of_ble_eq_true rfl) rfl d_Pl_init_35 ?_
  refine g_aload_n ok d_Pl_init_38 rfl 0 rfl ?_
  refine g_bipush ok (by decide) d_Pl_init_39 ?_
  refine b_ints ok (by omega) (by omega) 10 rfl (by decide) k_67 (by decide) d_Pl_init_41 ?_
  refine b_putF (fs' := [.ref (adB s0 (k0 + 1)), .ref (adB s0 (k0 + 2)), .ref (adB s0 (k0 + 3)), .ref (adB s0 (k0 + 4)), .ref (adB s0 (k0 + 5)), .int (iI 0)]) ok in_Pl cl_Pl k0 (by omega) 4 (by decide) ty_Pl ok_Pl nm_Pl rfl k_302 rfl rfl rfl rfl rfl (Nat.le_of_ble_eq_true rfl) rfl d_Pl_init_43 ?_
  exact g_kret ok d_Pl_init_46
theorem d_In_init_0 : decode b_In_init 0 = .ok (.aload_n 0, 1) := by decide +kernel
theorem d_In_init_1 : decode b_In_init 1 = .ok (.invokespecial 3, 3) := by decide +kernel
theorem d_In_init_4 : decode b_In_init 4 = .ok (.aload_n 0, 1) := by decide +kernel
theorem d_In_init_5 : decode b_In_init 5 = .ok (.bipush 96, 2) := by decide +kernel
theorem d_In_init_7 : decode b_In_init 7 = .ok (.newarray .int, 2) := by decide +kernel
theorem d_In_init_9 : decode b_In_init 9 = .ok (.putfield 9, 3) := by decide +kernel
theorem d_In_init_12 : decode b_In_init 12 = .ok (.aload_n 0, 1) := by decide +kernel
theorem d_In_init_13 : decode b_In_init 13 = .ok (.bipush 96, 2) := by decide +kernel
theorem d_In_init_15 : decode b_In_init 15 = .ok (.newarray .int, 2) := by decide +kernel
theorem d_In_init_17 : decode b_In_init 17 = .ok (.putfield 15, 3) := by decide +kernel
theorem d_In_init_20 : decode b_In_init 20 = .ok (.aload_n 0, 1) := by decide +kernel
theorem d_In_init_21 : decode b_In_init 21 = .ok (.bipush 96, 2) := by decide +kernel
theorem d_In_init_23 : decode b_In_init 23 = .ok (.newarray .int, 2) := by decide +kernel
theorem d_In_init_25 : decode b_In_init 25 = .ok (.putfield 18, 3) := by decide +kernel
theorem d_In_init_28 : decode b_In_init 28 = .ok (.aload_n 0, 1) := by decide +kernel
theorem d_In_init_29 : decode b_In_init 29 = .ok (.bipush 96, 2) := by decide +kernel
theorem d_In_init_31 : decode b_In_init 31 = .ok (.newarray .int, 2) := by decide +kernel
theorem d_In_init_33 : decode b_In_init 33 = .ok (.putfield 21, 3) := by decide +kernel
theorem d_In_init_36 : decode b_In_init 36 = .ok (.aload_n 0, 1) := by decide +kernel
theorem d_In_init_37 : decode b_In_init 37 = .ok (.bipush 96, 2) := by decide +kernel
theorem d_In_init_39 : decode b_In_init 39 = .ok (.newarray .int, 2) := by decide +kernel
theorem d_In_init_41 : decode b_In_init 41 = .ok (.putfield 24, 3) := by decide +kernel
theorem d_In_init_44 : decode b_In_init 44 = .ok (.aload_n 0, 1) := by decide +kernel
theorem d_In_init_45 : decode b_In_init 45 = .ok (.iconst (-1), 1) := by decide +kernel
theorem d_In_init_46 : decode b_In_init 46 = .ok (.putfield 27, 3) := by decide +kernel
theorem d_In_init_49 : decode b_In_init 49 = .ok (.aload_n 0, 1) := by decide +kernel
theorem d_In_init_50 : decode b_In_init 50 = .ok (.iconst (-1), 1) := by decide +kernel
theorem d_In_init_51 : decode b_In_init 51 = .ok (.putfield 31, 3) := by decide +kernel
theorem d_In_init_54 : decode b_In_init 54 = .ok (.return_, 1) := by decide +kernel
set_option maxHeartbeats 1000000 in
set_option maxRecDepth 100000 in
theorem k_In_init (s0 : State) (a0 : Array Value) (D : va_G) (t : Nat → ClassId) (C : Nat → va_E) (k0 : Nat) : gK s0 a0 D t y_In_init b_In_init 1 1 20 (5) (0 + 96 + 96 + 96 + 96 + 96) (k0 + 1) (va_up C k0 (.inr (4, [.null, .null, .null, .null, .null, .int (iI 0), .int (iI 0), .int (iI 0), .int (iI 0)]))) [.ref (adB s0 k0)] (k0 + 6) (va_up (va_up (va_up (va_up (va_up (va_up C (k0 + 1) (zC t 96 (fun _ => 0))) (k0 + 2) (zC t 96 (fun _ => 0))) (k0 + 3) (zC t 96 (fun _ => 0))) (k0 + 4) (zC t 96 (fun _ => 0))) (k0 + 5) (zC t 96 (fun _ => 0))) k0 (.inr (4, [.ref (adB s0 (k0 + 1)), .ref (adB s0 (k0 + 2)), .ref (adB s0 (k0 + 3)), .ref (adB s0 (k0 + 4)), .ref (adB s0 (k0 + 5)), .int (iI 0), .int (iI 0), .int (iI (-1)), .int (iI (-1))]))) := by
  refine g_startK (by decide +kernel) (Nat.le_of_ble_eq_true rfl) (fun p l e R s m args below meth c A hsz ok => ?_)
  show gW p l e R s m args below meth c _ D A 1 (gZ0 s) 0 0 (adB s0) (k0 + 1) _ 0 [(0, .ref (adB s0 k0))] []
  refine g_aload_n ok d_In_init_0 rfl 0 rfl ?_
  refine a_obj ok k_153 k_28 k_29 (by decide) (by decide) d_In_init_1 ?_
  refine g_aload_n ok d_In_init_4 rfl 0 rfl ?_
  refine g_bipush ok (by decide) d_In_init_5 ?_
  refine b_ints ok (by omega) (by omega) 96 rfl (by decide) k_67 (by decide) d_In_init_7 ?_
  refine b_putF (fs' := [.ref (adB s0 (k0 + 1)), .null, .null, .null, .null, .int (iI 0), .int (iI 0), .int (iI 0), .int (iI 0)]) ok in_In cl_In k0 (by omega) 0 (by decide) ty_In ok_In nm_In rfl k_154 rfl rfl rfl rfl rfl (Nat.le_of_ble_eq_true rfl) rfl d_In_init_9 ?_
  refine g_aload_n ok d_In_init_12 rfl 0 rfl ?_
  refine g_bipush ok (by decide) d_In_init_13 ?_
  refine b_ints ok (by omega) (by omega) 96 rfl (by decide) k_67 (by decide) d_In_init_15 ?_
  refine b_putF (fs' := [.ref (adB s0 (k0 + 1)), .ref (adB s0 (k0 + 2)), .null, .null, .null, .int (iI 0), .int (iI 0), .int (iI 0), .int (iI 0)]) ok in_In cl_In k0 (by omega) 1 (by decide) ty_In ok_In nm_In rfl k_155 rfl rfl rfl rfl rfl (Nat.le_of_ble_eq_true rfl) rfl d_In_init_17 ?_
  refine g_aload_n ok d_In_init_20 rfl 0 rfl ?_
  refine g_bipush ok (by decide) d_In_init_21 ?_
  refine b_ints ok (by omega) (by omega) 96 rfl (by decide) k_67 (by decide) d_In_init_23 ?_
  refine b_putF (fs' := [.ref (adB s0 (k0 + 1)), .ref (adB s0 (k0 + 2)), .ref (adB s0 (k0 + 3)), .null, .null, .int (iI 0), .int (iI 0), .int (iI 0), .int (iI 0)]) ok in_In cl_In k0 (by omega) 2 (by decide) ty_In ok_In nm_In rfl k_156 rfl rfl rfl rfl rfl (Nat.le_of_ble_eq_true rfl) rfl d_In_init_25 ?_
  refine g_aload_n ok d_In_init_28 rfl 0 rfl ?_
  refine g_bipush ok (by decide) d_In_init_29 ?_
  refine b_ints ok (by omega) (by omega) 96 rfl (by decide) k_67 (by decide) d_In_init_31 ?_
  refine b_putF (fs' := [.ref (adB s0 (k0 + 1)), .ref (adB s0 (k0 + 2)), .ref (adB s0 (k0 + 3)), .ref (adB s0 (k0 + 4)), .null, .int (iI 0), .int (iI 0), .int (iI 0), .int (iI 0)]) ok in_In cl_In k0 (by omega) 3 (by decide) ty_In ok_In nm_In rfl k_157 rfl rfl rfl rfl rfl (Nat.le_of_ble_eq_true rfl) rfl d_In_init_33 ?_
  refine g_aload_n ok d_In_init_36 rfl 0 rfl ?_
  refine g_bipush ok (by decide) d_In_init_37 ?_
  refine b_ints ok (by omega) (by omega) 96 rfl (by decide) k_67 (by decide) d_In_init_39 ?_
  refine b_putF (fs' := [.ref (adB s0 (k0 + 1)), .ref (adB s0 (k0 + 2)), .ref (adB s0 (k0 + 3)), .ref (adB s0 (k0 + 4)), .ref (adB s0 (k0 + 5)), .int (iI 0), .int (iI 0), .int (iI 0), .int (iI 0)]) ok in_In cl_In k0 (by omega) 4 (by decide) ty_In ok_In nm_In rfl k_158 rfl rfl rfl rfl rfl (Nat.le_of_ble_eq_true rfl) rfl d_In_init_41 ?_
  refine g_aload_n ok d_In_init_44 rfl 0 rfl ?_
  refine g_iconst ok d_In_init_45 ?_
  refine b_put (fs' := [.ref (adB s0 (k0 + 1)), .ref (adB s0 (k0 + 2)), .ref (adB s0 (k0 + 3)), .ref (adB s0 (k0 + 4)), .ref (adB s0 (k0 + 5)), .int (iI 0), .int (iI 0), .int (iI (-1)), .int (iI 0)]) ok in_In cl_In k0 (by omega) 7 (by decide) ty_In ok_In nm_In rfl k_162 rfl rfl rfl (Nat.le_of_ble_eq_true rfl) rfl d_In_init_46 ?_
  refine g_aload_n ok d_In_init_49 rfl 0 rfl ?_
  refine g_iconst ok d_In_init_50 ?_
  refine b_put (fs' := [.ref (adB s0 (k0 + 1)), .ref (adB s0 (k0 + 2)), .ref (adB s0 (k0 + 3)), .ref (adB s0 (k0 + 4)), .ref (adB s0 (k0 + 5)), .int (iI 0), .int (iI 0), .int (iI (-1)), .int (iI (-1))]) ok in_In cl_In k0 (by omega) 8 (by decide) ty_In ok_In nm_In rfl k_164 rfl rfl rfl (Nat.le_of_ble_eq_true rfl) rfl d_In_init_51 ?_
  exact g_kret ok d_In_init_54
theorem d_Mo_init_0 : decode b_Mo_init 0 = .ok (.aload_n 0, 1) := by decide +kernel
theorem d_Mo_init_1 : decode b_Mo_init 1 = .ok (.invokespecial 1, 3) := by decide +kernel
theorem d_Mo_init_4 : decode b_Mo_init 4 = .ok (.aload_n 0, 1) := by decide +kernel
theorem d_Mo_init_5 : decode b_Mo_init 5 = .ok (.iconst 0, 1) := by decide +kernel
theorem d_Mo_init_6 : decode b_Mo_init 6 = .ok (.putfield 7, 3) := by decide +kernel
theorem d_Mo_init_9 : decode b_Mo_init 9 = .ok (.aload_n 0, 1) := by decide +kernel
theorem d_Mo_init_10 : decode b_Mo_init 10 = .ok (.iconst 0, 1) := by decide +kernel
theorem d_Mo_init_11 : decode b_Mo_init 11 = .ok (.putfield 13, 3) := by decide +kernel
theorem d_Mo_init_14 : decode b_Mo_init 14 = .ok (.aload_n 0, 1) := by decide +kernel
theorem d_Mo_init_15 : decode b_Mo_init 15 = .ok (.iconst 0, 1) := by decide +kernel
theorem d_Mo_init_16 : decode b_Mo_init 16 = .ok (.putfield 16, 3) := by decide +kernel
theorem d_Mo_init_19 : decode b_Mo_init 19 = .ok (.aload_n 0, 1) := by decide +kernel
theorem d_Mo_init_20 : decode b_Mo_init 20 = .ok (.bipush 44, 2) := by decide +kernel
theorem d_Mo_init_22 : decode b_Mo_init 22 = .ok (.newarray .int, 2) := by decide +kernel
theorem d_Mo_init_24 : decode b_Mo_init 24 = .ok (.putfield 20, 3) := by decide +kernel
theorem d_Mo_init_27 : decode b_Mo_init 27 = .ok (.aload_n 0, 1) := by decide +kernel
theorem d_Mo_init_28 : decode b_Mo_init 28 = .ok (.bipush 44, 2) := by decide +kernel
theorem d_Mo_init_30 : decode b_Mo_init 30 = .ok (.newarray .int, 2) := by decide +kernel
theorem d_Mo_init_32 : decode b_Mo_init 32 = .ok (.putfield 24, 3) := by decide +kernel
theorem d_Mo_init_35 : decode b_Mo_init 35 = .ok (.aload_n 0, 1) := by decide +kernel
theorem d_Mo_init_36 : decode b_Mo_init 36 = .ok (.sipush 1056, 3) := by decide +kernel
theorem d_Mo_init_39 : decode b_Mo_init 39 = .ok (.newarray .int, 2) := by decide +kernel
theorem d_Mo_init_41 : decode b_Mo_init 41 = .ok (.putfield 27, 3) := by decide +kernel
theorem d_Mo_init_44 : decode b_Mo_init 44 = .ok (.aload_n 0, 1) := by decide +kernel
theorem d_Mo_init_45 : decode b_Mo_init 45 = .ok (.sipush 1056, 3) := by decide +kernel
theorem d_Mo_init_48 : decode b_Mo_init 48 = .ok (.newarray .int, 2) := by decide +kernel
theorem d_Mo_init_50 : decode b_Mo_init 50 = .ok (.putfield 30, 3) := by decide +kernel
theorem d_Mo_init_53 : decode b_Mo_init 53 = .ok (.aload_n 0, 1) := by decide +kernel
theorem d_Mo_init_54 : decode b_Mo_init 54 = .ok (.bipush 44, 2) := by decide +kernel
theorem d_Mo_init_56 : decode b_Mo_init 56 = .ok (.newarray .int, 2) := by decide +kernel
theorem d_Mo_init_58 : decode b_Mo_init 58 = .ok (.putfield 33, 3) := by decide +kernel
theorem d_Mo_init_61 : decode b_Mo_init 61 = .ok (.aload_n 0, 1) := by decide +kernel
theorem d_Mo_init_62 : decode b_Mo_init 62 = .ok (.bipush 10, 2) := by decide +kernel
theorem d_Mo_init_64 : decode b_Mo_init 64 = .ok (.newarray .int, 2) := by decide +kernel
theorem d_Mo_init_66 : decode b_Mo_init 66 = .ok (.putfield 36, 3) := by decide +kernel
theorem d_Mo_init_69 : decode b_Mo_init 69 = .ok (.aload_n 0, 1) := by decide +kernel
theorem d_Mo_init_70 : decode b_Mo_init 70 = .ok (.iconst 0, 1) := by decide +kernel
theorem d_Mo_init_71 : decode b_Mo_init 71 = .ok (.putfield 39, 3) := by decide +kernel
theorem d_Mo_init_74 : decode b_Mo_init 74 = .ok (.aload_n 0, 1) := by decide +kernel
theorem d_Mo_init_75 : decode b_Mo_init 75 = .ok (.iconst (-1), 1) := by decide +kernel
theorem d_Mo_init_76 : decode b_Mo_init 76 = .ok (.putfield 42, 3) := by decide +kernel
theorem d_Mo_init_79 : decode b_Mo_init 79 = .ok (.aload_n 0, 1) := by decide +kernel
theorem d_Mo_init_80 : decode b_Mo_init 80 = .ok (.iconst (-1), 1) := by decide +kernel
theorem d_Mo_init_81 : decode b_Mo_init 81 = .ok (.putfield 45, 3) := by decide +kernel
theorem d_Mo_init_84 : decode b_Mo_init 84 = .ok (.aload_n 0, 1) := by decide +kernel
theorem d_Mo_init_85 : decode b_Mo_init 85 = .ok (.iconst 0, 1) := by decide +kernel
theorem d_Mo_init_86 : decode b_Mo_init 86 = .ok (.putfield 48, 3) := by decide +kernel
theorem d_Mo_init_89 : decode b_Mo_init 89 = .ok (.aload_n 0, 1) := by decide +kernel
theorem d_Mo_init_90 : decode b_Mo_init 90 = .ok (.bipush 100, 2) := by decide +kernel
theorem d_Mo_init_92 : decode b_Mo_init 92 = .ok (.newarray .int, 2) := by decide +kernel
theorem d_Mo_init_94 : decode b_Mo_init 94 = .ok (.putfield 51, 3) := by decide +kernel
theorem d_Mo_init_97 : decode b_Mo_init 97 = .ok (.aload_n 0, 1) := by decide +kernel
theorem d_Mo_init_98 : decode b_Mo_init 98 = .ok (.bipush 100, 2) := by decide +kernel
theorem d_Mo_init_100 : decode b_Mo_init 100 = .ok (.newarray .int, 2) := by decide +kernel
theorem d_Mo_init_102 : decode b_Mo_init 102 = .ok (.putfield 54, 3) := by decide +kernel
theorem d_Mo_init_105 : decode b_Mo_init 105 = .ok (.aload_n 0, 1) := by decide +kernel
theorem d_Mo_init_106 : decode b_Mo_init 106 = .ok (.bipush 100, 2) := by decide +kernel
theorem d_Mo_init_108 : decode b_Mo_init 108 = .ok (.newarray .int, 2) := by decide +kernel
theorem d_Mo_init_110 : decode b_Mo_init 110 = .ok (.putfield 57, 3) := by decide +kernel
theorem d_Mo_init_113 : decode b_Mo_init 113 = .ok (.aload_n 0, 1) := by decide +kernel
theorem d_Mo_init_114 : decode b_Mo_init 114 = .ok (.bipush 100, 2) := by decide +kernel
theorem d_Mo_init_116 : decode b_Mo_init 116 = .ok (.newarray .int, 2) := by decide +kernel
theorem d_Mo_init_118 : decode b_Mo_init 118 = .ok (.putfield 60, 3) := by decide +kernel
theorem d_Mo_init_121 : decode b_Mo_init 121 = .ok (.aload_n 0, 1) := by decide +kernel
theorem d_Mo_init_122 : decode b_Mo_init 122 = .ok (.bipush 100, 2) := by decide +kernel
theorem d_Mo_init_124 : decode b_Mo_init 124 = .ok (.newarray .int, 2) := by decide +kernel
theorem d_Mo_init_126 : decode b_Mo_init 126 = .ok (.putfield 63, 3) := by decide +kernel
theorem d_Mo_init_129 : decode b_Mo_init 129 = .ok (.aload_n 0, 1) := by decide +kernel
theorem d_Mo_init_130 : decode b_Mo_init 130 = .ok (.bipush 100, 2) := by decide +kernel
theorem d_Mo_init_132 : decode b_Mo_init 132 = .ok (.newarray .int, 2) := by decide +kernel
theorem d_Mo_init_134 : decode b_Mo_init 134 = .ok (.putfield 66, 3) := by decide +kernel
theorem d_Mo_init_137 : decode b_Mo_init 137 = .ok (.aload_n 0, 1) := by decide +kernel
theorem d_Mo_init_138 : decode b_Mo_init 138 = .ok (.iconst 4, 1) := by decide +kernel
theorem d_Mo_init_139 : decode b_Mo_init 139 = .ok (.newarray .boolean, 2) := by decide +kernel
theorem d_Mo_init_141 : decode b_Mo_init 141 = .ok (.putfield 69, 3) := by decide +kernel
theorem d_Mo_init_144 : decode b_Mo_init 144 = .ok (.aload_n 0, 1) := by decide +kernel
theorem d_Mo_init_145 : decode b_Mo_init 145 = .ok (.iconst 0, 1) := by decide +kernel
theorem d_Mo_init_146 : decode b_Mo_init 146 = .ok (.putfield 73, 3) := by decide +kernel
theorem d_Mo_init_149 : decode b_Mo_init 149 = .ok (.aload_n 0, 1) := by decide +kernel
theorem d_Mo_init_150 : decode b_Mo_init 150 = .ok (.sipush 4000, 3) := by decide +kernel
theorem d_Mo_init_153 : decode b_Mo_init 153 = .ok (.newarray .int, 2) := by decide +kernel
theorem d_Mo_init_155 : decode b_Mo_init 155 = .ok (.putfield 76, 3) := by decide +kernel
theorem d_Mo_init_158 : decode b_Mo_init 158 = .ok (.aload_n 0, 1) := by decide +kernel
theorem d_Mo_init_159 : decode b_Mo_init 159 = .ok (.sipush 4000, 3) := by decide +kernel
theorem d_Mo_init_162 : decode b_Mo_init 162 = .ok (.newarray .int, 2) := by decide +kernel
theorem d_Mo_init_164 : decode b_Mo_init 164 = .ok (.putfield 79, 3) := by decide +kernel
theorem d_Mo_init_167 : decode b_Mo_init 167 = .ok (.aload_n 0, 1) := by decide +kernel
theorem d_Mo_init_168 : decode b_Mo_init 168 = .ok (.sipush 4000, 3) := by decide +kernel
theorem d_Mo_init_171 : decode b_Mo_init 171 = .ok (.newarray .int, 2) := by decide +kernel
theorem d_Mo_init_173 : decode b_Mo_init 173 = .ok (.putfield 82, 3) := by decide +kernel
theorem d_Mo_init_176 : decode b_Mo_init 176 = .ok (.aload_n 0, 1) := by decide +kernel
theorem d_Mo_init_177 : decode b_Mo_init 177 = .ok (.iconst 0, 1) := by decide +kernel
theorem d_Mo_init_178 : decode b_Mo_init 178 = .ok (.putfield 85, 3) := by decide +kernel
theorem d_Mo_init_181 : decode b_Mo_init 181 = .ok (.aload_n 0, 1) := by decide +kernel
theorem d_Mo_init_182 : decode b_Mo_init 182 = .ok (.iconst 0, 1) := by decide +kernel
theorem d_Mo_init_183 : decode b_Mo_init 183 = .ok (.putfield 88, 3) := by decide +kernel
theorem d_Mo_init_186 : decode b_Mo_init 186 = .ok (.aload_n 0, 1) := by decide +kernel
theorem d_Mo_init_187 : decode b_Mo_init 187 = .ok (.iconst 0, 1) := by decide +kernel
theorem d_Mo_init_188 : decode b_Mo_init 188 = .ok (.putfield 91, 3) := by decide +kernel
theorem d_Mo_init_191 : decode b_Mo_init 191 = .ok (.aload_n 0, 1) := by decide +kernel
theorem d_Mo_init_192 : decode b_Mo_init 192 = .ok (.iconst 0, 1) := by decide +kernel
theorem d_Mo_init_193 : decode b_Mo_init 193 = .ok (.putfield 94, 3) := by decide +kernel
theorem d_Mo_init_196 : decode b_Mo_init 196 = .ok (.aload_n 0, 1) := by decide +kernel
theorem d_Mo_init_197 : decode b_Mo_init 197 = .ok (.iconst 0, 1) := by decide +kernel
theorem d_Mo_init_198 : decode b_Mo_init 198 = .ok (.putfield 97, 3) := by decide +kernel
theorem d_Mo_init_201 : decode b_Mo_init 201 = .ok (.aload_n 0, 1) := by decide +kernel
theorem d_Mo_init_202 : decode b_Mo_init 202 = .ok (.iconst (-1), 1) := by decide +kernel
theorem d_Mo_init_203 : decode b_Mo_init 203 = .ok (.putfield 100, 3) := by decide +kernel
theorem d_Mo_init_206 : decode b_Mo_init 206 = .ok (.aload_n 0, 1) := by decide +kernel
theorem d_Mo_init_207 : decode b_Mo_init 207 = .ok (.iconst 0, 1) := by decide +kernel
theorem d_Mo_init_208 : decode b_Mo_init 208 = .ok (.putfield 103, 3) := by decide +kernel
theorem d_Mo_init_211 : decode b_Mo_init 211 = .ok (.aload_n 0, 1) := by decide +kernel
theorem d_Mo_init_212 : decode b_Mo_init 212 = .ok (.sipush 1500, 3) := by decide +kernel
theorem d_Mo_init_215 : decode b_Mo_init 215 = .ok (.newarray .int, 2) := by decide +kernel
theorem d_Mo_init_217 : decode b_Mo_init 217 = .ok (.putfield 106, 3) := by decide +kernel
theorem d_Mo_init_220 : decode b_Mo_init 220 = .ok (.aload_n 0, 1) := by decide +kernel
theorem d_Mo_init_221 : decode b_Mo_init 221 = .ok (.sipush 9216, 3) := by decide +kernel
theorem d_Mo_init_224 : decode b_Mo_init 224 = .ok (.newarray .int, 2) := by decide +kernel
theorem d_Mo_init_226 : decode b_Mo_init 226 = .ok (.putfield 109, 3) := by decide +kernel
theorem d_Mo_init_229 : decode b_Mo_init 229 = .ok (.aload_n 0, 1) := by decide +kernel
theorem d_Mo_init_230 : decode b_Mo_init 230 = .ok (.bipush 10, 2) := by decide +kernel
theorem d_Mo_init_232 : decode b_Mo_init 232 = .ok (.newarray .int, 2) := by decide +kernel
theorem d_Mo_init_234 : decode b_Mo_init 234 = .ok (.putfield 112, 3) := by decide +kernel
theorem d_Mo_init_237 : decode b_Mo_init 237 = .ok (.return_, 1) := by decide +kernel
set_option maxHeartbeats 1000000 in
set_option maxRecDepth 100000 in
theorem k_Mo_init (s0 : State) (a0 : Array Value) (D : va_G) (t : Nat → ClassId) (C : Nat → va_E) (k0 : Nat) : gK s0 a0 D t y_Mo_init b_Mo_init 1 1 20 (19) (0 + 44 + 44 + 1056 + 1056 + 44 + 10 + 100 + 100 + 100 + 100 + 100 + 100 + 4 + 4000 + 4000 + 4000 + 1500 + 9216 + 10) (k0 + 1) (va_up C k0 (.inr (10, [.int (iI 0), .int (iI 0), .int (iI 0), .null, .null, .null, .null, .null, .null, .int (iI 0), .int (iI 0), .int (iI 0), .int (iI 0), .null, .null, .null, .null, .null, .null, .null, .int (iI 0), .null, .null, .null, .int (iI 0), .int (iI 0), .int (iI 0), .int (iI 0), .int (iI 0), .int (iI 0), .int (iI 0), .null, .null, .null]))) [.ref (adB s0 k0)] (k0 + 20) (va_up (va_up (va_up (va_up (va_up (va_up (va_up (va_up (va_up (va_up (va_up (va_up (va_up (va_up (va_up (va_up (va_up (va_up (va_up (va_up C (k0 + 1) (zC t 44 (fun _ => 0))) (k0 + 2) (zC t 44 (fun _ => 0))) (k0 + 3) (zC t 1056 (fun _ => 0))) (k0 + 4) (zC t 1056 (fun _ => 0))) (k0 + 5) (zC t 44 (fun _ => 0))) (k0 + 6) (zC t 10 (fun _ => 0))) (k0 + 7) (zC t 100 (fun _ => 0))) (k0 + 8) (zC t 100 (fun _ => 0))) (k0 + 9) (zC t 100 (fun _ => 0))) (k0 + 10) (zC t 100 (fun _ => 0))) (k0 + 11) (zC t 100 (fun _ => 0))) (k0 + 12) (zC t 100 (fun _ => 0))) (k0 + 13) (bC t 4 (fun _ => 0))) (k0 + 14) (zC t 4000 (fun _ => 0))) (k0 + 15) (zC t 4000 (fun _ => 0))) (k0 + 16) (zC t 4000 (fun _ => 0))) (k0 + 17) (zC t 1500 (fun _ => 0))) (k0 + 18) (zC t 9216 (fun _ => 0))) (k0 + 19) (zC t 10 (fun _ => 0))) k0 (.inr (10, [.int (iI 0), .int (iI 0), .int (iI 0), .ref (adB s0 (k0 + 1)), .ref (adB s0 (k0 + 2)), .ref (adB s0 (k0 + 3)), .ref (adB s0 (k0 + 4)), .ref (adB s0 (k0 + 5)), .ref (adB s0 (k0 + 6)), .int (iI 0), .int (iI (-1)), .int (iI (-1)), .int (iI 0), .ref (adB s0 (k0 + 7)), .ref (adB s0 (k0 + 8)), .ref (adB s0 (k0 + 9)), .ref (adB s0 (k0 + 10)), .ref (adB s0 (k0 + 11)), .ref (adB s0 (k0 + 12)), .ref (adB s0 (k0 + 13)), .int (iI 0), .ref (adB s0 (k0 + 14)), .ref (adB s0 (k0 + 15)), .ref (adB s0 (k0 + 16)), .int (iI 0), .int (iI 0), .int (iI 0), .int (iI 0), .int (iI 0), .int (iI (-1)), .int (iI 0), .ref (adB s0 (k0 + 17)), .ref (adB s0 (k0 + 18)), .ref (adB s0 (k0 + 19))]))) := by
  refine g_startK (by decide +kernel) (Nat.le_of_ble_eq_true rfl) (fun p l e R s m args below meth c A hsz ok => ?_)
  show gW p l e R s m args below meth c _ D A 1 (gZ0 s) 0 0 (adB s0) (k0 + 1) _ 0 [(0, .ref (adB s0 k0))] []
  refine g_aload_n ok d_Mo_init_0 rfl 0 rfl ?_
  refine a_obj ok k_988 k_28 k_29 (by decide) (by decide) d_Mo_init_1 ?_
  refine g_aload_n ok d_Mo_init_4 rfl 0 rfl ?_
  refine g_iconst ok d_Mo_init_5 ?_
  refine b_put (fs' := [.int (iI 0), .int (iI 0), .int (iI 0), .null, .null, .null, .null, .null, .null, .int (iI 0), .int (iI 0), .int (iI 0), .int (iI 0), .null, .null, .null, .null, .null, .null, .null, .int (iI 0), .null, .null, .null, .int (iI 0), .int (iI 0), .int (iI 0), .int (iI 0), .int (iI 0), .int (iI 0), .int (iI 0), .null, .null, .null]) ok in_Mo cl_Mo k0 (by omega) 0 (by decide) ty_Mo ok_Mo nm_Mo rfl k_989 rfl rfl rfl (Nat.le_of_ble_eq_true rfl) rfl d_Mo_init_6 ?_
  refine g_aload_n ok d_Mo_init_9 rfl 0 rfl ?_
  refine g_iconst ok d_Mo_init_10 ?_
  refine b_put (fs' := [.int (iI 0), .int (iI 0), .int (iI 0), .null, .null, .null, .null, .null, .null, .int (iI 0), .int (iI 0), .int (iI 0), .int (iI 0), .null, .null, .null, .null, .null, .null, .null, .int (iI 0), .null, .null, .null, .int (iI 0), .int (iI 0), .int (iI 0), .int (iI 0), .int (iI 0), .int (iI 0), .int (iI 0), .null, .null, .null]) ok in_Mo cl_Mo k0 (by omega) 1 (by decide) ty_Mo ok_Mo nm_Mo rfl k_990 rfl rfl rfl (Nat.le_of_ble_eq_true rfl) rfl d_Mo_init_11 ?_
  refine g_aload_n ok d_Mo_init_14 rfl 0 rfl ?_
  refine g_iconst ok d_Mo_init_15 ?_
  refine b_put (fs' := [.int (iI 0), .int (iI 0), .int (iI 0), .null, .null, .null, .null, .null, .null, .int (iI 0), .int (iI 0), .int (iI 0), .int (iI 0), .null, .null, .null, .null, .null, .null, .null, .int (iI 0), .null, .null, .null, .int (iI 0), .int (iI 0), .int (iI 0), .int (iI 0), .int (iI 0), .int (iI 0), .int (iI 0), .null, .null, .null]) ok in_Mo cl_Mo k0 (by omega) 2 (by decide) ty_Mo ok_Mo nm_Mo rfl k_991 rfl rfl rfl (Nat.le_of_ble_eq_true rfl) rfl d_Mo_init_16 ?_
  refine g_aload_n ok d_Mo_init_19 rfl 0 rfl ?_
  refine g_bipush ok (by decide) d_Mo_init_20 ?_
  refine b_ints ok (by omega) (by omega) 44 rfl (by decide) k_67 (by decide) d_Mo_init_22 ?_
  refine b_putF (fs' := [.int (iI 0), .int (iI 0), .int (iI 0), .ref (adB s0 (k0 + 1)), .null, .null, .null, .null, .null, .int (iI 0), .int (iI 0), .int (iI 0), .int (iI 0), .null, .null, .null, .null, .null, .null, .null, .int (iI 0), .null, .null, .null, .int (iI 0), .int (iI 0), .int (iI 0), .int (iI 0), .int (iI 0), .int (iI 0), .int (iI 0), .null, .null, .null]) ok in_Mo cl_Mo k0 (by omega) 3 (by decide) ty_Mo ok_Mo nm_Mo rfl k_992 rfl rfl rfl rfl rfl (Nat.le_of_ble_eq_true rfl) rfl d_Mo_init_24 ?_
  refine g_aload_n ok d_Mo_init_27 rfl 0 rfl ?_
  refine g_bipush ok (by decide) d_Mo_init_28 ?_
  refine b_ints ok (by omega) (by omega) 44 rfl (by decide) k_67 (by decide) d_Mo_init_30 ?_
  refine b_putF (fs' := [.int (iI 0), .int (iI 0), .int (iI 0), .ref (adB s0 (k0 + 1)), .ref (adB s0 (k0 + 2)), .null, .null, .null, .null, .int (iI 0), .int (iI 0), .int (iI 0), .int (iI 0), .null, .null, .null, .null, .null, .null, .null, .int (iI 0), .null, .null, .null, .int (iI 0), .int (iI 0), .int (iI 0), .int (iI 0), .int (iI 0), .int (iI 0), .int (iI 0), .null, .null, .null]) ok in_Mo cl_Mo k0 (by omega) 4 (by decide) ty_Mo ok_Mo nm_Mo rfl k_993 rfl rfl rfl rfl rfl (Nat.le_of_ble_eq_true rfl) rfl d_Mo_init_32 ?_
  refine g_aload_n ok d_Mo_init_35 rfl 0 rfl ?_
  refine g_sipush ok (by decide) d_Mo_init_36 ?_
  refine b_ints ok (by omega) (by omega) 1056 rfl (by decide) k_67 (by decide) d_Mo_init_39 ?_
  refine b_putF (fs' := [.int (iI 0), .int (iI 0), .int (iI 0), .ref (adB s0 (k0 + 1)), .ref (adB s0 (k0 + 2)), .ref (adB s0 (k0 + 3)), .null, .null, .null, .int (iI 0), .int (iI 0), .int (iI 0), .int (iI 0), .null, .null, .null, .null, .null, .null, .null, .int (iI 0), .null, .null, .null, .int (iI 0), .int (iI 0), .int (iI 0), .int (iI 0), .int (iI 0), .int (iI 0), .int (iI 0), .null, .null, .null]) ok in_Mo cl_Mo k0 (by omega) 5 (by decide) ty_Mo ok_Mo nm_Mo rfl k_994 rfl rfl rfl rfl rfl (Nat.le_of_ble_eq_true rfl) rfl d_Mo_init_41 ?_
  refine g_aload_n ok d_Mo_init_44 rfl 0 rfl ?_
  refine g_sipush ok (by decide) d_Mo_init_45 ?_
  refine b_ints ok (by omega) (by omega) 1056 rfl (by decide) k_67 (by decide) d_Mo_init_48 ?_
  refine b_putF (fs' := [.int (iI 0), .int (iI 0), .int (iI 0), .ref (adB s0 (k0 + 1)), .ref (adB s0 (k0 + 2)), .ref (adB s0 (k0 + 3)), .ref (adB s0 (k0 + 4)), .null, .null, .int (iI 0), .int (iI 0), .int (iI 0), .int (iI 0), .null, .null, .null, .null, .null, .null, .null, .int (iI 0), .null, .null, .null, .int (iI 0), .int (iI 0), .int (iI 0), .int (iI 0), .int (iI 0), .int (iI 0), .int (iI 0), .null, .null, .null]) ok in_Mo cl_Mo k0 (by omega) 6 (by decide) ty_Mo ok_Mo nm_Mo rfl k_995 rfl rfl rfl rfl rfl (Nat.le_of_ble_eq_true rfl) rfl d_Mo_init_50 ?_
  refine g_aload_n ok d_Mo_init_53 rfl 0 rfl ?_
  refine g_bipush ok (by decide) d_Mo_init_54 ?_
  refine b_ints ok (by omega) (by omega) 44 rfl (by decide) k_67 (by decide) d_Mo_init_56 ?_
  refine b_putF (fs' := [.int (iI 0), .int (iI 0), .int (iI 0), .ref (adB s0 (k0 + 1)), .ref (adB s0 (k0 + 2)), .ref (adB s0 (k0 + 3)), .ref (adB s0 (k0 + 4)), .ref (adB s0 (k0 + 5)), .null, .int (iI 0), .int (iI 0), .int (iI 0), .int (iI 0), .null, .null, .null, .null, .null, .null, .null, .int (iI 0), .null, .null, .null, .int (iI 0), .int (iI 0), .int (iI 0), .int (iI 0), .int (iI 0), .int (iI 0), .int (iI 0), .null, .null, .null]) ok in_Mo cl_Mo k0 (by omega) 7 (by decide) ty_Mo ok_Mo nm_Mo rfl k_996 rfl rfl rfl rfl rfl (Nat.le_of_ble_eq_true rfl) rfl d_Mo_init_58 ?_
  refine g_aload_n ok d_Mo_init_61 rfl 0 rfl ?_
  refine g_bipush ok (by decide) d_Mo_init_62 ?_
  refine b_ints ok (by omega) (by omega) 10 rfl (by decide) k_67 (by decide) d_Mo_init_64 ?_
  refine b_putF (fs' := [.int (iI 0), .int (iI 0), .int (iI 0), .ref (adB s0 (k0 + 1)), .ref (adB s0 (k0 + 2)), .ref (adB s0 (k0 + 3)), .ref (adB s0 (k0 + 4)), .ref (adB s0 (k0 + 5)), .ref (adB s0 (k0 + 6)), .int (iI 0), .int (iI 0), .int (iI 0), .int (iI 0), .null, .null, .null, .null, .null, .null, .null, .int (iI 0), .null, .null, .null, .int (iI 0), .int (iI 0), .int (iI 0), .int (iI 0), .int (iI 0), .int (iI 0), .int (iI 0), .null, .null, .null]) ok in_Mo cl_Mo k0 (by omega) 8 (by decide) ty_Mo ok_Mo nm_Mo rfl k_997 rfl rfl rfl rfl rfl (Nat.le_of_ble_eq_true rfl) rfl d_Mo_init_66 ?_
  refine g_aload_n ok d_Mo_init_69 rfl 0 rfl ?_
  refine g_iconst ok d_Mo_init_70 ?_
  refine b_put (fs' := [.int (iI 0), .int (iI 0), .int (iI 0), .ref (adB s0 (k0 + 1)), .ref (adB s0 (k0 + 2)), .ref (adB s0 (k0 + 3)), .ref (adB s0 (k0 + 4)), .ref (adB s0 (k0 + 5)), .ref (adB s0 (k0 + 6)), .int (iI 0), .int (iI 0), .int (iI 0), .int (iI 0), .null, .null, .null, .null, .null, .null, .null, .int (iI 0), .null, .null, .null, .int (iI 0), .int (iI 0), .int (iI 0), .int (iI 0), .int (iI 0), .int (iI 0), .int (iI 0), .null, .null, .null]) ok in_Mo cl_Mo k0 (by omega) 9 (by decide) ty_Mo ok_Mo nm_Mo rfl k_998 rfl rfl rfl (Nat.le_of_ble_eq_true rfl) rfl d_Mo_init_71 ?_
  refine g_aload_n ok d_Mo_init_74 rfl 0 rfl ?_
  refine g_iconst ok d_Mo_init_75 ?_
  refine b_put (fs' := [.int (iI 0), .int (iI 0), .int (iI 0), .ref (adB s0 (k0 + 1)), .ref (adB s0 (k0 + 2)), .ref (adB s0 (k0 + 3)), .ref (adB s0 (k0 + 4)), .ref (adB s0 (k0 + 5)), .ref (adB s0 (k0 + 6)), .int (iI 0), .int (iI (-1)), .int (iI 0), .int (iI 0), .null, .null, .null, .null, .null, .null, .null, .int (iI 0), .null, .null, .null, .int (iI 0), .int (iI 0), .int (iI 0), .int (iI 0), .int (iI 0), .int (iI 0), .int (iI 0), .null, .null, .null]) ok in_Mo cl_Mo k0 (by omega) 10 (by decide) ty_Mo ok_Mo nm_Mo rfl k_999 rfl rfl rfl (Nat.le_of_ble_eq_true rfl) rfl d_Mo_init_76 ?_
  refine g_aload_n ok d_Mo_init_79 rfl 0 rfl ?_
  refine g_iconst ok d_Mo_init_80 ?_
  refine b_put (fs' := [.int (iI 0), .int (iI 0), .int (iI 0), .ref (adB s0 (k0 + 1)), .ref (adB s0 (k0 + 2)), .ref (adB s0 (k0 + 3)), .ref (adB s0 (k0 + 4)), .ref (adB s0 (k0 + 5)), .ref (adB s0 (k0 + 6)), .int (iI 0), .int (iI (-1)), .int (iI (-1)), .int (iI 0), .null, .null, .null, .null, .null, .null, .null, .int (iI 0), .null, .null, .null, .int (iI 0), .int (iI 0), .int (iI 0), .int (iI 0), .int (iI 0), .int (iI 0), .int (iI 0), .null, .null, .null]) ok in_Mo cl_Mo k0 (by omega) 11 (by decide) ty_Mo ok_Mo nm_Mo rfl k_1000 rfl rfl rfl (Nat.le_of_ble_eq_true rfl) rfl d_Mo_init_81 ?_
  refine g_aload_n ok d_Mo_init_84 rfl 0 rfl ?_
  refine g_iconst ok d_Mo_init_85 ?_
  refine b_put (fs' := [.int (iI 0), .int (iI 0), .int (iI 0), .ref (adB s0 (k0 + 1)), .ref (adB s0 (k0 + 2)), .ref (adB s0 (k0 + 3)), .ref (adB s0 (k0 + 4)), .ref (adB s0 (k0 + 5)), .ref (adB s0 (k0 + 6)), .int (iI 0), .int (iI (-1)), .int (iI (-1)), .int (iI 0), .null, .null, .null, .null, .null, .null, .null, .int (iI 0), .null, .null, .null, .int (iI 0), .int (iI 0), .int (iI 0), .int (iI 0), .int (iI 0), .int (iI 0), .int (iI 0), .null, .null, .null]) ok in_Mo cl_Mo k0 (by omega) 12 (by decide) ty_Mo ok_Mo nm_Mo rfl k_1001 rfl rfl rfl (Nat.le_of_ble_eq_true rfl) rfl d_Mo_init_86 ?_
  refine g_aload_n ok d_Mo_init_89 rfl 0 rfl ?_
  refine g_bipush ok (by decide) d_Mo_init_90 ?_
  refine b_ints ok (by omega) (by omega) 100 rfl (by decide) k_67 (by decide) d_Mo_init_92 ?_
  refine b_putF (fs' := [.int (iI 0), .int (iI 0), .int (iI 0), .ref (adB s0 (k0 + 1)), .ref (adB s0 (k0 + 2)), .ref (adB s0 (k0 + 3)), .ref (adB s0 (k0 + 4)), .ref (adB s0 (k0 + 5)), .ref (adB s0 (k0 + 6)), .int (iI 0), .int (iI (-1)), .int (iI (-1)), .int (iI 0), .ref (adB s0 (k0 + 7)), .null, .null, .null, .null, .null, .null, .int (iI 0), .null, .null, .null, .int (iI 0), .int (iI 0), .int (iI 0), .int (iI 0), .int (iI 0), .int (iI 0), .int (iI 0), .null, .null, .null]) ok in_Mo cl_Mo k0 (by omega) 13 (by decide) ty_Mo ok_Mo nm_Mo rfl k_1002 rfl rfl rfl rfl rfl (Nat.le_of_ble_eq_true rfl) rfl d_Mo_init_94 ?_
  refine g_aload_n ok d_Mo_init_97 rfl 0 rfl ?_
  refine g_bipush ok (by decide) d_Mo_init_98 ?_
  refine b_ints ok (by omega) (by omega) 100 rfl (by decide) k_67 (by decide) d_Mo_init_100 ?_
  refine b_putF (fs' := [.int (iI 0), .int (iI 0), .int (iI 0), .ref (adB s0 (k0 + 1)), .ref (adB s0 (k0 + 2)), .ref (adB s0 (k0 + 3)), .ref (adB s0 (k0 + 4)), .ref (adB s0 (k0 + 5)), .ref (adB s0 (k0 + 6)), .int (iI 0), .int (iI (-1)), .int (iI (-1)), .int (iI 0), .ref (adB s0 (k0 + 7)), .ref (adB s0 (k0 + 8)), .null, .null, .null, .null, .null, .int (iI 0), .null, .null, .null, .int (iI 0), .int (iI 0), .int (iI 0), .int (iI 0), .int (iI 0), .int (iI 0), .int (iI 0), .null, .null, .null]) ok in_Mo cl_Mo k0 (by omega) 14 (by decide) ty_Mo ok_Mo nm_Mo rfl k_1003 rfl rfl rfl rfl rfl (Nat.le_of_ble_eq_true rfl) rfl d_Mo_init_102 ?_
  refine g_aload_n ok d_Mo_init_105 rfl 0 rfl ?_
  refine g_bipush ok (by decide) d_Mo_init_106 ?_
  refine b_ints ok (by omega) (by omega) 100 rfl (by decide) k_67 (by decide) d_Mo_init_108 ?_
  refine b_putF (fs' := [.int (iI 0), .int (iI 0), .int (iI 0), .ref (adB s0 (k0 + 1)), .ref (adB s0 (k0 + 2)), .ref (adB s0 (k0 + 3)), .ref (adB s0 (k0 + 4)), .ref (adB s0 (k0 + 5)), .ref (adB s0 (k0 + 6)), .int (iI 0), .int (iI (-1)), .int (iI (-1)), .int (iI 0), .ref (adB s0 (k0 + 7)), .ref (adB s0 (k0 + 8)), .ref (adB s0 (k0 + 9)), .null, .null, .null, .null, .int (iI 0), .null, .null, .null, .int (iI 0), .int (iI 0), .int (iI 0), .int (iI 0), .int (iI 0), .int (iI 0), .int (iI 0), .null, .null, .null]) ok in_Mo cl_Mo k0 (by omega) 15 (by decide) ty_Mo ok_Mo nm_Mo rfl k_1004 rfl rfl rfl rfl rfl (Nat.le_of_ble_eq_true rfl) rfl d_Mo_init_110 ?_
  refine g_aload_n ok d_Mo_init_113 rfl 0 rfl ?_
  refine g_bipush ok (by decide) d_Mo_init_114 ?_
  refine b_ints ok (by omega) (by omega) 100 rfl (by decide) k_67 (by decide) d_Mo_init_116 ?_
  refine b_putF (fs' := [.int (iI 0), .int (iI 0), .int (iI 0), .ref (adB s0 (k0 + 1)), .ref (adB s0 (k0 + 2)), .ref (adB s0 (k0 + 3)), .ref (adB s0 (k0 + 4)), .ref (adB s0 (k0 + 5)), .ref (adB s0 (k0 + 6)), .int (iI 0), .int (iI (-1)), .int (iI (-1)), .int (iI 0), .ref (adB s0 (k0 + 7)), .ref (adB s0 (k0 + 8)), .ref (adB s0 (k0 + 9)), .ref (adB s0 (k0 + 10)), .null, .null, .null, .int (iI 0), .null, .null, .null, .int (iI 0), .int (iI 0), .int (iI 0), .int (iI 0), .int (iI 0), .int (iI 0), .int (iI 0), .null, .null, .null]) ok in_Mo cl_Mo k0 (by omega) 16 (by decide) ty_Mo ok_Mo nm_Mo rfl k_1005 rfl rfl rfl rfl rfl (Nat.le_of_ble_eq_true rfl) rfl d_Mo_init_118 ?_
  refine g_aload_n ok d_Mo_init_121 rfl 0 rfl ?_
  refine g_bipush ok (by decide) d_Mo_init_122 ?_
  refine b_ints ok (by omega) (by omega) 100 rfl (by decide) k_67 (by decide) d_Mo_init_124 ?_
  refine b_putF (fs' := [.int (iI 0), .int (iI 0), .int (iI 0), .ref (adB s0 (k0 + 1)), .ref (adB s0 (k0 + 2)), .ref (adB s0 (k0 + 3)), .ref (adB s0 (k0 + 4)), .ref (adB s0 (k0 + 5)), .ref (adB s0 (k0 + 6)), .int (iI 0), .int (iI (-1)), .int (iI (-1)), .int (iI 0), .ref (adB s0 (k0 + 7)), .ref (adB s0 (k0 + 8)), .ref (adB s0 (k0 + 9)), .ref (adB s0 (k0 + 10)), .ref (adB s0 (k0 + 11)), .null, .null, .int (iI 0), .null, .null, .null, .int (iI 0), .int (iI 0), .int (iI 0), .int (iI 0), .int (iI 0), .int (iI 0), .int (iI 0), .null, .null, .null]) ok in_Mo cl_Mo k0 (by omega) 17 (by decide) ty_Mo ok_Mo nm_Mo rfl k_1006 rfl rfl rfl rfl rfl (Nat.le_of_ble_eq_true rfl) rfl d_Mo_init_126 ?_
  refine g_aload_n ok d_Mo_init_129 rfl 0 rfl ?_
  refine g_bipush ok (by decide) d_Mo_init_130 ?_
  refine b_ints ok (by omega) (by omega) 100 rfl (by decide) k_67 (by decide) d_Mo_init_132 ?_
  refine b_putF (fs' := [.int (iI 0), .int (iI 0), .int (iI 0), .ref (adB s0 (k0 + 1)), .ref (adB s0 (k0 + 2)), .ref (adB s0 (k0 + 3)), .ref (adB s0 (k0 + 4)), .ref (adB s0 (k0 + 5)), .ref (adB s0 (k0 + 6)), .int (iI 0), .int (iI (-1)), .int (iI (-1)), .int (iI 0), .ref (adB s0 (k0 + 7)), .ref (adB s0 (k0 + 8)), .ref (adB s0 (k0 + 9)), .ref (adB s0 (k0 + 10)), .ref (adB s0 (k0 + 11)), .ref (adB s0 (k0 + 12)), .null, .int (iI 0), .null, .null, .null, .int (iI 0), .int (iI 0), .int (iI 0), .int (iI 0), .int (iI 0), .int (iI 0), .int (iI 0), .null, .null, .null]) ok in_Mo cl_Mo k0 (by omega) 18 (by decide) ty_Mo ok_Mo nm_Mo rfl k_1007 rfl rfl rfl rfl rfl (Nat.le_of_ble_eq_true rfl) rfl d_Mo_init_134 ?_
  refine g_aload_n ok d_Mo_init_137 rfl 0 rfl ?_
  refine g_iconst ok d_Mo_init_138 ?_
  refine b_bools ok (by omega) (by omega) 4 rfl (by decide) k_1092 (by decide) d_Mo_init_139 ?_
  refine b_putF (fs' := [.int (iI 0), .int (iI 0), .int (iI 0), .ref (adB s0 (k0 + 1)), .ref (adB s0 (k0 + 2)), .ref (adB s0 (k0 + 3)), .ref (adB s0 (k0 + 4)), .ref (adB s0 (k0 + 5)), .ref (adB s0 (k0 + 6)), .int (iI 0), .int (iI (-1)), .int (iI (-1)), .int (iI 0), .ref (adB s0 (k0 + 7)), .ref (adB s0 (k0 + 8)), .ref (adB s0 (k0 + 9)), .ref (adB s0 (k0 + 10)), .ref (adB s0 (k0 + 11)), .ref (adB s0 (k0 + 12)), .ref (adB s0 (k0 + 13)), .int (iI 0), .null, .null, .null, .int (iI 0), .int (iI 0), .int (iI 0), .int (iI 0), .int (iI 0), .int (iI 0), .int (iI 0), .null, .null, .null]) ok in_Mo cl_Mo k0 (by omega) 19 (by decide) ty_Mo ok_Mo nm_Mo rfl k_1008 rfl rfl rfl rfl rfl (Nat.le_of_ble_eq_true rfl) rfl d_Mo_init_141 ?_
  refine g_aload_n ok d_Mo_init_144 rfl 0 rfl ?_
  refine g_iconst ok d_Mo_init_145 ?_
  refine b_put (fs' := [.int (iI 0), .int (iI 0), .int (iI 0), .ref (adB s0 (k0 + 1)), .ref (adB s0 (k0 + 2)), .ref (adB s0 (k0 + 3)), .ref (adB s0 (k0 + 4)), .ref (adB s0 (k0 + 5)), .ref (adB s0 (k0 + 6)), .int (iI 0), .int (iI (-1)), .int (iI (-1)), .int (iI 0), .ref (adB s0 (k0 + 7)), .ref (adB s0 (k0 + 8)), .ref (adB s0 (k0 + 9)), .ref (adB s0 (k0 + 10)), .ref (adB s0 (k0 + 11)), .ref (adB s0 (k0 + 12)), .ref (adB s0 (k0 + 13)), .int (iI 0), .null, .null, .null, .int (iI 0), .int (iI 0), .int (iI 0), .int (iI 0), .int (iI 0), .int (iI 0), .int (iI 0), .null, .null, .null]) ok in_Mo cl_Mo k0 (by omega) 20 (by decide) ty_Mo ok_Mo nm_Mo rfl k_1009 rfl rfl rfl (Nat.le_of_ble_eq_true rfl) rfl d_Mo_init_146 ?_
  refine g_aload_n ok d_Mo_init_149 rfl 0 rfl ?_
  refine g_sipush ok (by decide) d_Mo_init_150 ?_
  refine b_ints ok (by omega) (by omega) 4000 rfl (by decide) k_67 (by decide) d_Mo_init_153 ?_
  refine b_putF (fs' := [.int (iI 0), .int (iI 0), .int (iI 0), .ref (adB s0 (k0 + 1)), .ref (adB s0 (k0 + 2)), .ref (adB s0 (k0 + 3)), .ref (adB s0 (k0 + 4)), .ref (adB s0 (k0 + 5)), .ref (adB s0 (k0 + 6)), .int (iI 0), .int (iI (-1)), .int (iI (-1)), .int (iI 0), .ref (adB s0 (k0 + 7)), .ref (adB s0 (k0 + 8)), .ref (adB s0 (k0 + 9)), .ref (adB s0 (k0 + 10)), .ref (adB s0 (k0 + 11)), .ref (adB s0 (k0 + 12)), .ref (adB s0 (k0 + 13)), .int (iI 0), .ref (adB s0 (k0 + 14)), .null, .null, .int (iI 0), .int (iI 0), .int (iI 0), .int (iI 0), .int (iI 0), .int (iI 0), .int (iI 0), .null, .null, .null]) ok in_Mo cl_Mo k0 (by omega) 21 (by decide) ty_Mo ok_Mo nm_Mo rfl k_1010 rfl rfl rfl rfl rfl (Nat.le_of_ble_eq_true rfl) rfl d_Mo_init_155 ?_
  refine g_aload_n ok d_Mo_init_158 rfl 0 rfl ?_
  refine g_sipush ok (by decide) d_Mo_init_159 ?_
  refine b_ints ok (by omega) (by omega) 4000 rfl (by decide) k_67 (by decide) d_Mo_init_162 ?_
  refine b_putF (fs' := [.int (iI 0), .int (iI 0), .int (iI 0), .ref (adB s0 (k0 + 1)), .ref (adB s0 (k0 + 2)), .ref (adB s0 (k0 + 3)), .ref (adB s0 (k0 + 4)), .ref (adB s0 (k0 + 5)), .ref (adB s0 (k0 + 6)), .int (iI 0), .int (iI (-1)), .int (iI (-1)), .int (iI 0), .ref (adB s0 (k0 + 7)), .ref (adB s0 (k0 + 8)), .ref (adB s0 (k0 + 9)), .ref (adB s0 (k0 + 10)), .ref (adB s0 (k0 + 11)), .ref (adB s0 (k0 + 12)), .ref (adB s0 (k0 + 13)), .int (iI 0), .ref (adB s0 (k0 + 14)), .ref (adB s0 (k0 + 15)), .null, .int (iI 0), .int (iI 0), .int (iI 0), .int (iI 0), .int (iI 0), .int (iI 0), .int (iI 0), .null, .null, .null]) ok in_Mo cl_Mo k0 (by omega) 22 (by decide) ty_Mo ok_Mo nm_Mo rfl k_1011 rfl rfl rfl rfl rfl (Nat.le_of_ble_eq_true rfl) rfl d_Mo_init_164 ?_
  refine g_aload_n ok d_Mo_init_167 rfl 0 rfl ?_
  refine g_sipush ok (by decide) d_Mo_init_168 ?_
  refine b_ints ok (by omega) (by omega) 4000 rfl (by decide) k_67 (by decide) d_Mo_init_171 ?_
  refine b_putF (fs' := [.int (iI 0), .int (iI 0), .int (iI 0), .ref (adB s0 (k0 + 1)), .ref (adB s0 (k0 + 2)), .ref (adB s0 (k0 + 3)), .ref (adB s0 (k0 + 4)), .ref (adB s0 (k0 + 5)), .ref (adB s0 (k0 + 6)), .int (iI 0), .int (iI (-1)), .int (iI (-1)), .int (iI 0), .ref (adB s0 (k0 + 7)), .ref (adB s0 (k0 + 8)), .ref (adB s0 (k0 + 9)), .ref (adB s0 (k0 + 10)), .ref (adB s0 (k0 + 11)), .ref (adB s0 (k0 + 12)), .ref (adB s0 (k0 + 13)), .int (iI 0), .ref (adB s0 (k0 + 14)), .ref (adB s0 (k0 + 15)), .ref (adB s0 (k0 + 16)), .int (iI 0), .int (iI 0), .int (iI 0), .int (iI 0), .int (iI 0), .int (iI 0), .int (iI 0), .null, .null, .null]) ok in_Mo cl_Mo k0 (by omega) 23 (by decide) ty_Mo ok_Mo nm_Mo rfl k_1012 rfl rfl rfl rfl rfl (Nat.le_of_ble_eq_true rfl) rfl d_Mo_init_173 ?_
  refine g_aload_n ok d_Mo_init_176 rfl 0 rfl ?_
  refine g_iconst ok d_Mo_init_177 ?_
  refine b_put (fs' := [.int (iI 0), .int (iI 0), .int (iI 0), .ref (adB s0 (k0 + 1)), .ref (adB s0 (k0 + 2)), .ref (adB s0 (k0 + 3)), .ref (adB s0 (k0 + 4)), .ref (adB s0 (k0 + 5)), .ref (adB s0 (k0 + 6)), .int (iI 0), .int (iI (-1)), .int (iI (-1)), .int (iI 0), .ref (adB s0 (k0 + 7)), .ref (adB s0 (k0 + 8)), .ref (adB s0 (k0 + 9)), .ref (adB s0 (k0 + 10)), .ref (adB s0 (k0 + 11)), .ref (adB s0 (k0 + 12)), .ref (adB s0 (k0 + 13)), .int (iI 0), .ref (adB s0 (k0 + 14)), .ref (adB s0 (k0 + 15)), .ref (adB s0 (k0 + 16)), .int (iI 0), .int (iI 0), .int (iI 0), .int (iI 0), .int (iI 0), .int (iI 0), .int (iI 0), .null, .null, .null]) ok in_Mo cl_Mo k0 (by omega) 24 (by decide) ty_Mo ok_Mo nm_Mo rfl k_1013 rfl rfl rfl (Nat.le_of_ble_eq_true rfl) rfl d_Mo_init_178 ?_
  refine g_aload_n ok d_Mo_init_181 rfl 0 rfl ?_
  refine g_iconst ok d_Mo_init_182 ?_
  refine b_put (fs' := [.int (iI 0), .int (iI 0), .int (iI 0), .ref (adB s0 (k0 + 1)), .ref (adB s0 (k0 + 2)), .ref (adB s0 (k0 + 3)), .ref (adB s0 (k0 + 4)), .ref (adB s0 (k0 + 5)), .ref (adB s0 (k0 + 6)), .int (iI 0), .int (iI (-1)), .int (iI (-1)), .int (iI 0), .ref (adB s0 (k0 + 7)), .ref (adB s0 (k0 + 8)), .ref (adB s0 (k0 + 9)), .ref (adB s0 (k0 + 10)), .ref (adB s0 (k0 + 11)), .ref (adB s0 (k0 + 12)), .ref (adB s0 (k0 + 13)), .int (iI 0), .ref (adB s0 (k0 + 14)), .ref (adB s0 (k0 + 15)), .ref (adB s0 (k0 + 16)), .int (iI 0), .int (iI 0), .int (iI 0), .int (iI 0), .int (iI 0), .int (iI 0), .int (iI 0), .null, .null, .null]) ok in_Mo cl_Mo k0 (by omega) 25 (by decide) ty_Mo ok_Mo nm_Mo rfl k_1014 rfl rfl rfl (Nat.le_of_ble_eq_true rfl) rfl d_Mo_init_183 ?_
  refine g_aload_n ok d_Mo_init_186 rfl 0 rfl ?_
  refine g_iconst ok d_Mo_init_187 ?_
  refine b_put (fs' := [.int (iI 0), .int (iI 0), .int (iI 0), .ref (adB s0 (k0 + 1)), .ref (adB s0 (k0 + 2)), .ref (adB s0 (k0 + 3)), .ref (adB s0 (k0 + 4)), .ref (adB s0 (k0 + 5)), .ref (adB s0 (k0 + 6)), .int (iI 0), .int (iI (-1)), .int (iI (-1)), .int (iI 0), .ref (adB s0 (k0 + 7)), .ref (adB s0 (k0 + 8)), .ref (adB s0 (k0 + 9)), .ref (adB s0 (k0 + 10)), .ref (adB s0 (k0 + 11)), .ref (adB s0 (k0 + 12)), .ref (adB s0 (k0 + 13)), .int (iI 0), .ref (adB s0 (k0 + 14)), .ref (adB s0 (k0 + 15)), .ref (adB s0 (k0 + 16)), .int (iI 0), .int (iI 0), .int (iI 0), .int (iI 0), .int (iI 0), .int (iI 0), .int (iI 0), .null, .null, .null]) ok in_Mo cl_Mo k0 (by omega) 26 (by decide) ty_Mo ok_Mo nm_Mo rfl k_1015 rfl rfl rfl (Nat.le_of_ble_eq_true rfl) rfl d_Mo_init_188 ?_
  refine g_aload_n ok d_Mo_init_191 rfl 0 rfl ?_
  refine g_iconst ok d_Mo_init_192 ?_
  refine b_put (fs' := [.int (iI 0), .int (iI 0), .int (iI 0), .ref (adB s0 (k0 + 1)), .ref (adB s0 (k0 + 2)), .ref (adB s0 (k0 + 3)), .ref (adB s0 (k0 + 4)), .ref (adB s0 (k0 + 5)), .ref (adB s0 (k0 + 6)), .int (iI 0), .int (iI (-1)), .int (iI (-1)), .int (iI 0), .ref (adB s0 (k0 + 7)), .ref (adB s0 (k0 + 8)), .ref (adB s0 (k0 + 9)), .ref (adB s0 (k0 + 10)), .ref (adB s0 (k0 + 11)), .ref (adB s0 (k0 + 12)), .ref (adB s0 (k0 + 13)), .int (iI 0), .ref (adB s0 (k0 + 14)), .ref (adB s0 (k0 + 15)), .ref (adB s0 (k0 + 16)), .int (iI 0), .int (iI 0), .int (iI 0), .int (iI 0), .int (iI 0), .int (iI 0), .int (iI 0), .null, .null, .null]) ok in_Mo cl_Mo k0 (by omega) 27 (by decide) ty_Mo ok_Mo nm_Mo rfl k_1016 rfl rfl rfl (Nat.le_of_ble_eq_true rfl) rfl d_Mo_init_193 ?_
  refine g_aload_n ok d_Mo_init_196 rfl 0 rfl ?_
  refine g_iconst ok d_Mo_init_197 ?_
  refine b_put (fs' := [.int (iI 0), .int (iI 0), .int (iI 0), .ref (adB s0 (k0 + 1)), .ref (adB s0 (k0 + 2)), .ref (adB s0 (k0 + 3)), .ref (adB s0 (k0 + 4)), .ref (adB s0 (k0 + 5)), .ref (adB s0 (k0 + 6)), .int (iI 0), .int (iI (-1)), .int (iI (-1)), .int (iI 0), .ref (adB s0 (k0 + 7)), .ref (adB s0 (k0 + 8)), .ref (adB s0 (k0 + 9)), .ref (adB s0 (k0 + 10)), .ref (adB s0 (k0 + 11)), .ref (adB s0 (k0 + 12)), .ref (adB s0 (k0 + 13)), .int (iI 0), .ref (adB s0 (k0 + 14)), .ref (adB s0 (k0 + 15)), .ref (adB s0 (k0 + 16)), .int (iI 0), .int (iI 0), .int (iI 0), .int (iI 0), .int (iI 0), .int (iI 0), .int (iI 0), .null, .null, .null]) ok in_Mo cl_Mo k0 (by omega) 28 (by decide) ty_Mo ok_Mo nm_Mo rfl k_1017 rfl rfl rfl (Nat.le_of_ble_eq_true rfl) rfl d_Mo_init_198 ?_
  refine g_aload_n ok d_Mo_init_201 rfl 0 rfl ?_
  refine g_iconst ok d_Mo_init_202 ?_
  refine b_put (fs' := [.int (iI 0), .int (iI 0), .int (iI 0), .ref (adB s0 (k0 + 1)), .ref (adB s0 (k0 + 2)), .ref (adB s0 (k0 + 3)), .ref (adB s0 (k0 + 4)), .ref (adB s0 (k0 + 5)), .ref (adB s0 (k0 + 6)), .int (iI 0), .int (iI (-1)), .int (iI (-1)), .int (iI 0), .ref (adB s0 (k0 + 7)), .ref (adB s0 (k0 + 8)), .ref (adB s0 (k0 + 9)), .ref (adB s0 (k0 + 10)), .ref (adB s0 (k0 + 11)), .ref (adB s0 (k0 + 12)), .ref (adB s0 (k0 + 13)), .int (iI 0), .ref (adB s0 (k0 + 14)), .ref (adB s0 (k0 + 15)), .ref (adB s0 (k0 + 16)), .int (iI 0), .int (iI 0), .int (iI 0), .int (iI 0), .int (iI 0), .int (iI (-1)), .int (iI 0), .null, .null, .null]) ok in_Mo cl_Mo k0 (by omega) 29 (by decide) ty_Mo ok_Mo nm_Mo rfl k_1018 rfl rfl rfl (Nat.le_of_ble_eq_true rfl) rfl d_Mo_init_203 ?_
  refine g_aload_n ok d_Mo_init_206 rfl 0 rfl ?_
  refine g_iconst ok d_Mo_init_207 ?_
  refine b_put (fs' := [.int (iI 0), .int (iI 0), .int (iI 0), .ref (adB s0 (k0 + 1)), .ref (adB s0 (k0 + 2)), .ref (adB s0 (k0 + 3)), .ref (adB s0 (k0 + 4)), .ref (adB s0 (k0 + 5)), .ref (adB s0 (k0 + 6)), .int (iI 0), .int (iI (-1)), .int (iI (-1)), .int (iI 0), .ref (adB s0 (k0 + 7)), .ref (adB s0 (k0 + 8)), .ref (adB s0 (k0 + 9)), .ref (adB s0 (k0 + 10)), .ref (adB s0 (k0 + 11)), .ref (adB s0 (k0 + 12)), .ref (adB s0 (k0 + 13)), .int (iI 0), .ref (adB s0 (k0 + 14)), .ref (adB s0 (k0 + 15)), .ref (adB s0 (k0 + 16)), .int (iI 0), .int (iI 0), .int (iI 0), .int (iI 0), .int (iI 0), .int (iI (-1)), .int (iI 0), .null, .null, .null]) ok in_Mo cl_Mo k0 (by omega) 30 (by decide) ty_Mo ok_Mo nm_Mo rfl k_1019 rfl rfl rfl (Nat.le_of_ble_eq_true rfl) rfl d_Mo_init_208 ?_
  refine g_aload_n ok d_Mo_init_211 rfl 0 rfl ?_
  refine g_sipush ok (by decide) d_Mo_init_212 ?_
  refine b_ints ok (by omega) (by omega) 1500 rfl (by decide) k_67 (by decide) d_Mo_init_215 ?_
  refine b_putF (fs' := [.int (iI 0), .int (iI 0), .int (iI 0), .ref (adB s0 (k0 + 1)), .ref (adB s0 (k0 + 2)), .ref (adB s0 (k0 + 3)), .ref (adB s0 (k0 + 4)), .ref (adB s0 (k0 + 5)), .ref (adB s0 (k0 + 6)), .int (iI 0), .int (iI (-1)), .int (iI (-1)), .int (iI 0), .ref (adB s0 (k0 + 7)), .ref (adB s0 (k0 + 8)), .ref (adB s0 (k0 + 9)), .ref (adB s0 (k0 + 10)), .ref (adB s0 (k0 + 11)), .ref (adB s0 (k0 + 12)), .ref (adB s0 (k0 + 13)), .int (iI 0), .ref (adB s0 (k0 + 14)), .ref (adB s0 (k0 + 15)), .ref (adB s0 (k0 + 16)), .int (iI 0), .int (iI 0), .int (iI 0), .int (iI 0), .int (iI 0), .int (iI (-1)), .int (iI 0), .ref (adB s0 (k0 + 17)), .null, .null]) ok in_Mo cl_Mo k0 (by omega) 31 (by decide) ty_Mo ok_Mo nm_Mo rfl k_1020 rfl rfl rfl rfl rfl (Nat.le_of_ble_eq_true rfl) rfl d_Mo_init_217 ?_
  refine g_aload_n ok d_Mo_init_220 rfl 0 rfl ?_
  refine g_sipush ok (by decide) d_Mo_init_221 ?_
  refine b_ints ok (by omega) (by omega) 9216 rfl (by decide) k_67 (by decide) d_Mo_init_224 ?_
  refine b_putF (fs' := [.int (iI 0), .int (iI 0), .int (iI 0), .ref (adB s0 (k0 + 1)), .ref (adB s0 (k0 + 2)), .ref (adB s0 (k0 + 3)), .ref (adB s0 (k0 + 4)), .ref (adB s0 (k0 + 5)), .ref (adB s0 (k0 + 6)), .int (iI 0), .int (iI (-1)), .int (iI (-1)), .int (iI 0), .ref (adB s0 (k0 + 7)), .ref (adB s0 (k0 + 8)), .ref (adB s0 (k0 + 9)), .ref (adB s0 (k0 + 10)), .ref (adB s0 (k0 + 11)), .ref (adB s0 (k0 + 12)), .ref (adB s0 (k0 + 13)), .int (iI 0), .ref (adB s0 (k0 + 14)), .ref (adB s0 (k0 + 15)), .ref (adB s0 (k0 + 16)), .int (iI 0), .int (iI 0), .int (iI 0), .int (iI 0), .int (iI 0), .int (iI (-1)), .int (iI 0), .ref (adB s0 (k0 + 17)), .ref (adB s0 (k0 + 18)), .null]) ok in_Mo cl_Mo k0 (by omega) 32 (by decide) ty_Mo ok_Mo nm_Mo rfl k_1021 rfl rfl rfl rfl rfl (Nat.le_of_ble_eq_true rfl) rfl d_Mo_init_226 ?_
  refine g_aload_n ok d_Mo_init_229 rfl 0 rfl ?_
  refine g_bipush ok (by decide) d_Mo_init_230 ?_
  refine b_ints ok (by omega) (by omega) 10 rfl (by decide) k_67 (by decide) d_Mo_init_232 ?_
  refine b_putF (fs' := [.int (iI 0), .int (iI 0), .int (iI 0), .ref (adB s0 (k0 + 1)), .ref (adB s0 (k0 + 2)), .ref (adB s0 (k0 + 3)), .ref (adB s0 (k0 + 4)), .ref (adB s0 (k0 + 5)), .ref (adB s0 (k0 + 6)), .int (iI 0), .int (iI (-1)), .int (iI (-1)), .int (iI 0), .ref (adB s0 (k0 + 7)), .ref (adB s0 (k0 + 8)), .ref (adB s0 (k0 + 9)), .ref (adB s0 (k0 + 10)), .ref (adB s0 (k0 + 11)), .ref (adB s0 (k0 + 12)), .ref (adB s0 (k0 + 13)), .int (iI 0), .ref (adB s0 (k0 + 14)), .ref (adB s0 (k0 + 15)), .ref (adB s0 (k0 + 16)), .int (iI 0), .int (iI 0), .int (iI 0), .int (iI 0), .int (iI 0), .int (iI (-1)), .int (iI 0), .ref (adB s0 (k0 + 17)), .ref (adB s0 (k0 + 18)), .ref (adB s0 (k0 + 19))]) ok in_Mo cl_Mo k0 (by omega) 33 (by decide) ty_Mo ok_Mo nm_Mo rfl k_1022 rfl rfl rfl rfl rfl (Nat.le_of_ble_eq_true rfl) rfl d_Mo_init_234 ?_
  exact g_kret ok d_Mo_init_237
theorem d_Rt_init_0 : decode b_Rt_init 0 = .ok (.aload_n 0, 1) := by decide +kernel
theorem d_Rt_init_1 : decode b_Rt_init 1 = .ok (.invokespecial 3, 3) := by decide +kernel
theorem d_Rt_init_4 : decode b_Rt_init 4 = .ok (.aload_n 0, 1) := by decide +kernel
theorem d_Rt_init_5 : decode b_Rt_init 5 = .ok (.new 9, 3) := by decide +kernel
theorem d_Rt_init_8 : decode b_Rt_init 8 = .ok (.dup, 1) := by decide +kernel
theorem d_Rt_init_9 : decode b_Rt_init 9 = .ok (.invokespecial 11, 3) := by decide +kernel
theorem d_Rt_init_12 : decode b_Rt_init 12 = .ok (.putfield 12, 3) := by decide +kernel
theorem d_Rt_init_15 : decode b_Rt_init 15 = .ok (.return_, 1) := by decide +kernel
set_option maxHeartbeats 1000000 in
set_option maxRecDepth 100000 in
theorem k_Rt_init (s0 : State) (a0 : Array Value) (D : va_G) (t : Nat → ClassId) (C : Nat → va_E) (k0 : Nat) : gK s0 a0 D t y_Rt_init b_Rt_init 1 2 40 (4) (0 + 13 + (0 + 384 + 192 + 192)) (k0 + 1) (va_up C k0 (.inr (5, [.null]))) [.ref (adB s0 k0)] (k0 + 5) (va_up (va_up (va_up (va_up (va_up C ((k0 + 2)) (zC t 384 (fun _ => 0))) ((k0 + 3)) (zC t 192 (fun _ => 0))) ((k0 + 4)) (zC t 192 (fun _ => 0))) (k0 + 1) (.inr (6, [.ref (adB s0 ((k0 + 2))), .ref (adB s0 ((k0 + 3))), .ref (adB s0 ((k0 + 4))), .int (iI 0), .int (iI 0), .int (iI 0), .int (iI 0), .int (iI 0), .int (iI 0), .int (iI 0), .int (iI 0), .int (iI 0), .int (iI 0)]))) k0 (.inr (5, [.ref (adB s0 (k0 + 1))]))) := by
  refine g_startK (by decide +kernel) (Nat.le_of_ble_eq_true rfl) (fun p l e R s m args below meth c A hsz ok => ?_)
  show gW p l e R s m args below meth c _ D A 1 (gZ0 s) 0 0 (adB s0) (k0 + 1) _ 0 [(0, .ref (adB s0 k0))] []
  refine g_aload_n ok d_Rt_init_0 rfl 0 rfl ?_
  refine a_obj ok k_190 k_28 k_29 (by decide) (by decide) d_Rt_init_1 ?_
  refine g_aload_n ok d_Rt_init_4 rfl 0 rfl ?_
  refine b_new (N := 13) ok (by omega) in_Hl cl_Hl ty_Hl ok_Hl k_191 k_192 k_7 [.null, .null, .null, .int (iI 0), .int (iI 0), .int (iI 0), .int (iI 0), .int (iI 0), .int (iI 0), .int (iI 0), .int (iI 0), .int (iI 0), .int (iI 0)] (by decide +kernel) (by decide) d_Rt_init_5 ?_
  refine g_dup ok d_Rt_init_8 rfl ?_
  refine g_callKJN (As := []) ok (k0 + 1) (k_Hl_init s0 a0 D t (va_up C k0 (.inr (5, [.null]))) (k0 + 1)) (by omega) k_195 k_7 k_193 k_194 rfl q_Hl_init (by decide) (Nat.le_of_ble_eq_true rfl) (by decide) d_Rt_init_9 ?_
  refine b_cong (ce' := va_up (va_up (va_up (va_up (va_up C ((k0 + 2)) (zC t 384 (fun _ => 0))) ((k0 + 3)) (zC t 192 (fun _ => 0))) ((k0 + 4)) (zC t 192 (fun _ => 0))) (k0 + 1) (.inr (6, [.ref (adB s0 ((k0 + 2))), .ref (adB s0 ((k0 + 3))), .ref (adB s0 ((k0 + 4))), .int (iI 0), .int (iI 0), .int (iI 0), .int (iI 0), .int (iI 0), .int (iI 0), .int (iI 0), .int (iI 0), .int (iI 0), .int (iI 0)]))) k0 (.inr (5, [.null]))) (fun k hk => vEq.rf ?_) ?_
  · unfold va_up
    repeat' split
    all_goals first | rfl | omega
  refine b_putF (fs' := [.ref (adB s0 (k0 + 1))]) ok in_Rt cl_Rt k0 (by omega) 0 (by decide) ty_Rt ok_Rt nm_Rt rfl k_240 rfl rfl rfl rfl rfl (Nat.le_of_ble_eq_true rfl) rfl d_Rt_init_12 ?_
  exact g_kret ok d_Rt_init_15
theorem d_Pm_init_0 : decode b_Pm_init 0 = .ok (.aload_n 0, 1) := by decide +kernel
theorem d_Pm_init_1 : decode b_Pm_init 1 = .ok (.invokespecial 3, 3) := by decide +kernel
theorem d_Pm_init_4 : decode b_Pm_init 4 = .ok (.aload_n 0, 1) := by decide +kernel
theorem d_Pm_init_5 : decode b_Pm_init 5 = .ok (.new 9, 3) := by decide +kernel
theorem d_Pm_init_8 : decode b_Pm_init 8 = .ok (.dup, 1) := by decide +kernel
theorem d_Pm_init_9 : decode b_Pm_init 9 = .ok (.invokespecial 11, 3) := by decide +kernel
theorem d_Pm_init_12 : decode b_Pm_init 12 = .ok (.putfield 12, 3) := by decide +kernel
theorem d_Pm_init_15 : decode b_Pm_init 15 = .ok (.return_, 1) := by decide +kernel
set_option maxHeartbeats 1000000 in
set_option maxRecDepth 100000 in
theorem k_Pm_init (s0 : State) (a0 : Array Value) (D : va_G) (t : Nat → ClassId) (C : Nat → va_E) (k0 : Nat) : gK s0 a0 D t y_Pm_init b_Pm_init 1 2 40 (2) (0 + 3 + (0 + 4000)) (k0 + 1) (va_up C k0 (.inr (7, [.null, .null, .int (iI 0), .int (iI 0), .int (iI 0), .int (iI 0), .int (iI 0)]))) [.ref (adB s0 k0)] (k0 + 3) (va_up (va_up (va_up C ((k0 + 2)) (zC t 4000 (fun _ => 0))) (k0 + 1) (.inr (8, [.ref (adB s0 ((k0 + 2))), .int (iI 0), .int (iI 0)]))) k0 (.inr (7, [.ref (adB s0 (k0 + 1)), .null, .int (iI 0), .int (iI 0), .int (iI 0), .int (iI 0), .int (iI 0)]))) := by
  refine g_startK (by decide +kernel) (Nat.le_of_ble_eq_true rfl) (fun p l e R s m args below meth c A hsz ok => ?_)
  show gW p l e R s m args below meth c _ D A 1 (gZ0 s) 0 0 (adB s0) (k0 + 1) _ 0 [(0, .ref (adB s0 k0))] []
  refine g_aload_n ok d_Pm_init_0 rfl 0 rfl ?_
  refine a_obj ok k_249 k_28 k_29 (by decide) (by decide) d_Pm_init_1 ?_
  refine g_aload_n ok d_Pm_init_4 rfl 0 rfl ?_
  refine b_new (N := 3) ok (by omega) in_Pa cl_Pa ty_Pa ok_Pa k_250 k_251 k_9 [.null, .int (iI 0), .int (iI 0)] (by decide +kernel) (by decide) d_Pm_init_5 ?_
  refine g_dup ok d_Pm_init_8 rfl ?_
  refine g_callKJN (As := []) ok (k0 + 1) (k_Pa_init s0 a0 D t (va_up C k0 (.inr (7, [.null, .null, .int (iI 0), .int (iI 0), .int (iI 0), .int (iI 0), .int (iI 0)]))) (k0 + 1)) (by omega) k_254 k_9 k_252 k_253 rfl q_Pa_init (by decide) (Nat.le_of_ble_eq_true rfl) (by decide) d_Pm_init_9 ?_
  refine b_cong (ce' := va_up (va_up (va_up C ((k0 + 2)) (zC t 4000 (fun _ => 0))) (k0 + 1) (.inr (8, [.ref (adB s0 ((k0 + 2))), .int (iI 0), .int (iI 0)]))) k0 (.inr (7, [.null, .null, .int (iI 0), .int (iI 0), .int (iI 0), .int (iI 0), .int (iI 0)]))) (fun k hk => vEq.rf ?_) ?_
  · unfold va_up
    repeat' split
    all_goals first | rfl | omega
  refine b_putF (fs' := [.ref (adB s0 (k0 + 1)), .null, .int (iI 0), .int (iI 0), .int (iI 0), .int (iI 0), .int (iI 0)]) ok in_Pm cl_Pm k0 (by omega) 0 (by decide) ty_Pm ok_Pm nm_Pm rfl k_269 rfl rfl rfl rfl rfl (Nat.le_of_ble_eq_true rfl) rfl d_Pm_init_12 ?_
  exact g_kret ok d_Pm_init_15
/-- a shape in the making, at k0: its object, its two tables -/
def shB (s0 : State) (t : Nat → ClassId) (C : Nat → va_E) (k0 : Nat) (ob : va_E) (f g : Nat → Option Nat) : Nat → va_E := fun k => if k = k0 then ob else if k = k0 + 1 then qC t 2 4 f else if k = k0 + 2 then qC t 2 2 g else if k0 < k then shC (adB s0) t fI0 gI0 k (k - k0) else C k
def shW (s0 : State) (t : Nat → ClassId) (C : Nat → va_E) (k0 : Nat) : Nat → va_E := fun k => if k0 ≤ k then shC (adB s0) t fI0 gI0 k (k - k0) else C k
theorem shB_0 {s0 : State} {t : Nat → ClassId} {C : Nat → va_E} {k0 : Nat} {ob : va_E} {f g : Nat → Option Nat} : shB s0 t C k0 ob f g k0 = ob := by simp [shB]
theorem shB_1 {s0 : State} {t : Nat → ClassId} {C : Nat → va_E} {k0 : Nat} {ob : va_E} {f g : Nat → Option Nat} : shB s0 t C k0 ob f g (k0 + 1) = qC t 2 4 f := by simp [shB]
theorem shB_2 {s0 : State} {t : Nat → ClassId} {C : Nat → va_E} {k0 : Nat} {ob : va_E} {f g : Nat → Option Nat} : shB s0 t C k0 ob f g (k0 + 2) = qC t 2 2 g := by simp [shB]
theorem shB_j {s0 : State} {t : Nat → ClassId} {C : Nat → va_E} {k0 j : Nat} {ob : va_E} {f g : Nat → Option Nat} (h : 3 ≤ j) : shB s0 t C k0 ob f g (k0 + j) = shC (adB s0) t fI0 gI0 (k0 + j) j := by
  unfold shB
  rw [if_neg (by omega), if_neg (by omega), if_neg (by omega), if_pos (by omega), show k0 + j - k0 = j by omega]
theorem fI0_0 {k j : Nat} (h : j = 0 ∨ j = 2 ∨ j = 3 ∨ j = 4 ∨ j = 6 ∨ j = 9) : fI0 k j = 0 := by
  unfold fI0
  rw [if_neg (by omega), if_neg (by omega), if_neg (by omega), if_neg (by omega)]
theorem sh_ring {s0 : State} {t : Nat → ClassId} {k0 j : Nat} (h : j = 3 ∨ j = 6 ∨ j = 9 ∨ j = 12 ∨ j = 15 ∨ j = 18) : shC (adB s0) t fI0 gI0 (k0 + j) j = .inr (2, [.ref (adB s0 (k0 + j + 1)), .ref (adB s0 (k0 + j + 2)), .int (iI 0)]) := by
  unfold shC
  rw [if_neg (by omega), if_neg (by omega), if_neg (by omega), if_neg (by omega), if_pos (by omega)]
  show Sum.inr (2, [Value.ref (adB s0 (k0 + j + 1)), Value.ref (adB s0 (k0 + j + 2)), Value.int (iI (fI0 (k0 + j) 2))]) = _
  rw [fI0_0 (by omega)]
theorem sh_arr {s0 : State} {t : Nat → ClassId} {k j N : Nat} (h : 3 < j ∧ j < 21 ∧ j % 3 ≠ 0) (hN : rRoom j = N) : shC (adB s0) t fI0 gI0 k j = zC t N (fun _ => 0) := by
  unfold shC
  rw [if_neg (by omega), if_neg (by omega), if_neg (by omega), if_neg (by omega), if_neg (by omega), hN]
  rfl
theorem sh_made {s0 : State} {t : Nat → ClassId} {C : Nat → va_E} {k0 : Nat} {ob : va_E} {f g : Nat → Option Nat} {j N : Nat} (h : j = 3 ∨ j = 6 ∨ j = 9 ∨ j = 12 ∨ j = 15 ∨ j = 18) (h1 : rRoom (j + 1) = N) (h2 : rRoom (j + 2) = N) : va_up (va_up (va_up (shB s0 t C k0 ob f g) (k0 + j + 1) (zC t N (fun _ => 0))) (k0 + j + 2) (zC t N (fun _ => 0))) (k0 + j) (.inr (2, [.ref (adB s0 (k0 + j + 1)), .ref (adB s0 (k0 + j + 2)), .int (iI 0)])) = shB s0 t C k0 ob f g := by
  funext k
  by_cases e1 : k = k0 + j
  · subst e1
    rw [va_up_self, shB_j (by omega), sh_ring h]
  · rw [va_up_ne _ _ e1]
    by_cases e2 : k = k0 + j + 2
    · subst e2
      rw [va_up_self, Nat.add_assoc, shB_j (by omega), sh_arr (by omega) h2]
    · rw [va_up_ne _ _ e2]
      by_cases e3 : k = k0 + j + 1
      · subst e3
        rw [va_up_self, Nat.add_assoc, shB_j (by omega), sh_arr (by omega) h1]
      · rw [va_up_ne _ _ e3]
theorem sh_st1 {s0 : State} {t : Nat → ClassId} {C : Nat → va_E} {k0 : Nat} {ob : va_E} {f f' g : Nat → Option Nat} : va_up (shB s0 t C k0 ob f g) (k0 + 1) (qC t 2 4 f') = shB s0 t C k0 ob f' g := by
  funext k
  unfold va_up shB
  by_cases e1 : k = k0
  · rw [if_neg (by omega), if_pos e1, if_pos e1]
  · by_cases e2 : k = k0 + 1
    · rw [if_pos e2, if_neg e1, if_pos e2]
    · simp [e1, e2]
theorem sh_st2 {s0 : State} {t : Nat → ClassId} {C : Nat → va_E} {k0 : Nat} {ob : va_E} {f g g' : Nat → Option Nat} : va_up (shB s0 t C k0 ob f g) (k0 + 2) (qC t 2 2 g') = shB s0 t C k0 ob f g' := by
  funext k
  unfold va_up shB
  by_cases e1 : k = k0 + 2
  · rw [if_pos e1, if_neg (by omega), if_neg (by omega), if_pos e1]
  · simp [e1]
theorem sh_ob {s0 : State} {t : Nat → ClassId} {C : Nat → va_E} {k0 : Nat} {ob ob' : va_E} {f g : Nat → Option Nat} : va_up (shB s0 t C k0 ob f g) k0 ob' = shB s0 t C k0 ob' f g := by
  funext k
  unfold va_up shB
  by_cases e1 : k = k0
  · rw [if_pos e1, if_pos e1]
  · simp [e1]
theorem sh_ty {s0 : State} {t : Nat → ClassId} {C : Nat → va_E} {k0 : Nat} {ob : va_E} {f g : Nat → Option Nat} (hK : isSh k0) : va_up (shB s0 t C k0 ob f g) (k0 + 21) (.inr (3, [.int (iI 0), .int (iI 0)])) = shB s0 t C k0 ob f g := by
  funext k
  by_cases e1 : k = k0 + 21
  · subst e1
    rw [va_up_self, shB_j (by omega)]
    unfold shC
    rw [if_neg (by omega), if_neg (by omega), if_neg (by omega), if_pos (by omega)]
    show _ = Sum.inr (3, [Value.int (iI (fI0 (k0 + 21) 0)), Value.int (iI (fI0 (k0 + 21) 1))])
    have e1 : fI0 (k0 + 21) 1 = 0 := by
      unfold isSh at hK
      unfold fI0
      rw [if_neg (by omega), if_neg (by omega), if_neg (by omega), if_neg (by omega)]
    rw [fI0_0 (by omega), e1]
  · rw [va_up_ne _ _ e1]
theorem sh_done {D : va_G} {s0 : State} {t : Nat → ClassId} {C : Nat → va_E} {k0 : Nat} {f g : Nat → Option Nat} (hK : isSh k0) (hf : ∀ j, j < 4 → f j = some (adB s0 (k0 + 3 + 3 * j))) (hg : ∀ j, j < 2 → g j = some (adB s0 (k0 + 15 + 3 * j))) (k : Nat) : vEq D (shB s0 t C k0 (.inr (1, [.ref (adB s0 (k0 + 1)), .ref (adB s0 (k0 + 2)), .ref (adB s0 (k0 + 21)), .int (iI 0), .int (iI 0), .int (iI 4), .int (iI 0), .int (iI 0), .int (iI 0), .int (iI 0), .int (iI 0)])) f g k) (shW s0 t C k0 k) := by
  have hkk := hK
  unfold isSh at hkk
  have z : ∀ j, j ≠ 5 → fI0 k0 j = 0 := fun j hj => by
    unfold fI0
    rw [if_neg (by omega), if_neg (by omega), if_neg (by omega), if_neg (by omega)]
  have z5 : fI0 k0 5 = 4 := by
    unfold fI0
    rw [if_pos (by omega)]
  by_cases e0 : k = k0
  · subst e0
    rw [shB_0]
    unfold shW
    rw [if_pos (Nat.le_refl _), Nat.sub_self]
    refine vEq.rf ?_
    show _ = Sum.inr (1, f_Sh (adB s0) fI0 k)
    simp only [f_Sh]
    rw [z 3 (by omega), z 4 (by omega), z5, z 6 (by omega), z 7 (by omega), z 8 (by omega), z 9 (by omega), z 10 (by omega)]
  · by_cases e1 : k = k0 + 1
    · subst e1
      rw [shB_1]
      unfold shW
      rw [if_pos (by omega), show k0 + 1 - k0 = 1 by omega]
      exact vEq.q (fun j hj => by rw [hf j hj, show k0 + 1 + 2 + 3 * j = k0 + 3 + 3 * j by omega])
    · by_cases e2 : k = k0 + 2
      · subst e2
        rw [shB_2]
        unfold shW
        rw [if_pos (by omega), show k0 + 2 - k0 = 2 by omega]
        exact vEq.q (fun j hj => by rw [hg j hj, show k0 + 2 + 13 + 3 * j = k0 + 15 + 3 * j by omega])
      · refine vEq.rf ?_
        unfold shB shW
        rw [if_neg e0, if_neg e1, if_neg e2]
        by_cases e3 : k0 < k
        · rw [if_pos e3, if_pos (by omega)]
        · rw [if_neg e3, if_neg (by omega)]
