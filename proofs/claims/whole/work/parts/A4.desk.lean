/-! the desk's constructor -/
theorem va_up_id {f : Nat → va_E} {k : Nat} {x : va_E} (h : f k = x) : va_up f k x = f := by
  funext j
  unfold va_up
  by_cases e : j = k
  · rw [if_pos e, e, h]
  · rw [if_neg e]
/-- the memory at the start of the law's loop -/
def mI0 (s0 : State) (t : Nat → ClassId) : Nat → va_E := mem (adB s0) t fI0 gI0
/-- the desk in the making: i shapes are there -/
def dkB (s0 : State) (t : Nat → ClassId) (ob : va_E) (i : Nat) : Nat → va_E := fun k => if k = 0 then ob else if k = 1 then qC t 3 10 (fun j => if j < i then some (adB s0 (2 + 22 * j)) else none) else mI0 s0 t k
theorem dkB_0 {s0 : State} {t : Nat → ClassId} {ob : va_E} {i : Nat} : dkB s0 t ob i 0 = ob := rfl
theorem dkB_1 {s0 : State} {t : Nat → ClassId} {ob : va_E} {i : Nat} : dkB s0 t ob i 1 = qC t 3 10 (fun j => if j < i then some (adB s0 (2 + 22 * j)) else none) := rfl
theorem mI0_sh {s0 : State} {t : Nat → ClassId} {k i : Nat} (hi : i < 10) (h : 2 + 22 * i ≤ k ∧ k < 2 + 22 * i + 22) : mI0 s0 t k = shC (adB s0) t fI0 gI0 k (k - (2 + 22 * i)) := by
  unfold mI0 mem
  rw [if_neg (by omega), if_neg (by omega), if_pos (by omega), show (k - 2) % 22 = k - (2 + 22 * i) by omega]
theorem dk_next {D : va_G} {s0 : State} {t : Nat → ClassId} {obj : va_E} {i : Nat} (hi : i < 10) (k : Nat) (hk : k < 2 + 22 * (i + 1)) : vEq D (va_up (shW s0 t (dkB s0 t obj i) (2 + 22 * i)) 1 (qC t 3 10 (va_up (fun j => if j < i then some (adB s0 (2 + 22 * j)) else none) i (some (adB s0 (2 + 22 * i))))) k) (dkB s0 t obj (i + 1) k) := by
  by_cases e1 : k = 1
  · subst e1
    rw [va_up_self, dkB_1]
    refine vEq.q (fun j hj => ?_)
    unfold va_up
    by_cases e2 : j = i
    · subst e2
      rw [if_pos rfl, if_pos (by omega)]
    · rw [if_neg e2]
      show (if j < i then some (adB s0 (2 + 22 * j)) else none) = _
      by_cases e3 : j < i
      · rw [if_pos e3, if_pos (by omega)]
      · rw [if_neg e3, if_neg (by omega)]
  · rw [va_up_ne _ _ e1]
    refine vEq.rf ?_
    unfold shW
    by_cases e2 : 2 + 22 * i ≤ k
    · rw [if_pos e2]
      unfold dkB
      rw [if_neg (by omega), if_neg e1, mI0_sh hi (by omega)]
    · rw [if_neg e2]
      unfold dkB
      rw [if_neg e1, if_neg e1]
theorem dk_all {D : va_G} {s0 : State} {t : Nat → ClassId} {obj : va_E} (k : Nat) : vEq D (dkB s0 t obj 10 k) (va_up (mI0 s0 t) 0 obj k) := by
  unfold dkB va_up
  by_cases e0 : k = 0
  · rw [if_pos e0, if_pos e0]
    exact vEq.rf rfl
  · rw [if_neg e0, if_neg e0]
    by_cases e1 : k = 1
    · subst e1
      rw [if_pos rfl]
      show vEq D (qC t 3 10 _) (qC t 3 10 (fun j => some (adB s0 (2 + 22 * j))))
      exact vEq.q (fun j hj => if_pos hj)
    · rw [if_neg e1]
      exact vEq.rf rfl
theorem d_Dk_init_0 : decode b_Dk_init 0 = .ok (.aload_n 0, 1) := by decide +kernel
theorem d_Dk_init_1 : decode b_Dk_init 1 = .ok (.invokespecial 3, 3) := by decide +kernel
theorem d_Dk_init_4 : decode b_Dk_init 4 = .ok (.aload_n 0, 1) := by decide +kernel
theorem d_Dk_init_5 : decode b_Dk_init 5 = .ok (.bipush 10, 2) := by decide +kernel
theorem d_Dk_init_7 : decode b_Dk_init 7 = .ok (.anewarray 9, 3) := by decide +kernel
theorem d_Dk_init_10 : decode b_Dk_init 10 = .ok (.putfield 11, 3) := by decide +kernel
theorem d_Dk_init_13 : decode b_Dk_init 13 = .ok (.iconst 0, 1) := by decide +kernel
theorem d_Dk_init_14 : decode b_Dk_init 14 = .ok (.istore_n 1, 1) := by decide +kernel
theorem d_Dk_init_15 : decode b_Dk_init 15 = .ok (.iload_n 1, 1) := by decide +kernel
theorem d_Dk_init_16 : decode b_Dk_init 16 = .ok (.bipush 10, 2) := by decide +kernel
theorem d_Dk_init_18 : decode b_Dk_init 18 = .ok (.if_icmp .ge 22, 3) := by decide +kernel
theorem d_Dk_init_21 : decode b_Dk_init 21 = .ok (.aload_n 0, 1) := by decide +kernel
theorem d_Dk_init_22 : decode b_Dk_init 22 = .ok (.getfield 11, 3) := by decide +kernel
theorem d_Dk_init_25 : decode b_Dk_init 25 = .ok (.iload_n 1, 1) := by decide +kernel
theorem d_Dk_init_26 : decode b_Dk_init 26 = .ok (.new 9, 3) := by decide +kernel
theorem d_Dk_init_29 : decode b_Dk_init 29 = .ok (.dup, 1) := by decide +kernel
theorem d_Dk_init_30 : decode b_Dk_init 30 = .ok (.invokespecial 15, 3) := by decide +kernel
theorem d_Dk_init_33 : decode b_Dk_init 33 = .ok (.aastore, 1) := by decide +kernel
theorem d_Dk_init_34 : decode b_Dk_init 34 = .ok (.iinc 1 1, 3) := by decide +kernel
theorem d_Dk_init_37 : decode b_Dk_init 37 = .ok (.goto (-22), 3) := by decide +kernel
theorem d_Dk_init_40 : decode b_Dk_init 40 = .ok (.aload_n 0, 1) := by decide +kernel
theorem d_Dk_init_41 : decode b_Dk_init 41 = .ok (.bipush 10, 2) := by decide +kernel
theorem d_Dk_init_43 : decode b_Dk_init 43 = .ok (.newarray .int, 2) := by decide +kernel
theorem d_Dk_init_45 : decode b_Dk_init 45 = .ok (.putfield 16, 3) := by decide +kernel
theorem d_Dk_init_48 : decode b_Dk_init 48 = .ok (.aload_n 0, 1) := by decide +kernel
theorem d_Dk_init_49 : decode b_Dk_init 49 = .ok (.sipush 1500, 3) := by decide +kernel
theorem d_Dk_init_52 : decode b_Dk_init 52 = .ok (.newarray .int, 2) := by decide +kernel
theorem d_Dk_init_54 : decode b_Dk_init 54 = .ok (.putfield 20, 3) := by decide +kernel
theorem d_Dk_init_57 : decode b_Dk_init 57 = .ok (.aload_n 0, 1) := by decide +kernel
theorem d_Dk_init_58 : decode b_Dk_init 58 = .ok (.new 23, 3) := by decide +kernel
theorem d_Dk_init_61 : decode b_Dk_init 61 = .ok (.dup, 1) := by decide +kernel
theorem d_Dk_init_62 : decode b_Dk_init 62 = .ok (.invokespecial 25, 3) := by decide +kernel
theorem d_Dk_init_65 : decode b_Dk_init 65 = .ok (.putfield 26, 3) := by decide +kernel
theorem d_Dk_init_68 : decode b_Dk_init 68 = .ok (.aload_n 0, 1) := by decide +kernel
theorem d_Dk_init_69 : decode b_Dk_init 69 = .ok (.new 30, 3) := by decide +kernel
theorem d_Dk_init_72 : decode b_Dk_init 72 = .ok (.dup, 1) := by decide +kernel
theorem d_Dk_init_73 : decode b_Dk_init 73 = .ok (.invokespecial 32, 3) := by decide +kernel
theorem d_Dk_init_76 : decode b_Dk_init 76 = .ok (.putfield 33, 3) := by decide +kernel
theorem d_Dk_init_79 : decode b_Dk_init 79 = .ok (.aload_n 0, 1) := by decide +kernel
theorem d_Dk_init_80 : decode b_Dk_init 80 = .ok (.new 37, 3) := by decide +kernel
theorem d_Dk_init_83 : decode b_Dk_init 83 = .ok (.dup, 1) := by decide +kernel
theorem d_Dk_init_84 : decode b_Dk_init 84 = .ok (.invokespecial 39, 3) := by decide +kernel
theorem d_Dk_init_87 : decode b_Dk_init 87 = .ok (.putfield 40, 3) := by decide +kernel
theorem d_Dk_init_90 : decode b_Dk_init 90 = .ok (.aload_n 0, 1) := by decide +kernel
theorem d_Dk_init_91 : decode b_Dk_init 91 = .ok (.aload_n 0, 1) := by decide +kernel
theorem d_Dk_init_92 : decode b_Dk_init 92 = .ok (.getfield 40, 3) := by decide +kernel
theorem d_Dk_init_95 : decode b_Dk_init 95 = .ok (.getfield 44, 3) := by decide +kernel
theorem d_Dk_init_98 : decode b_Dk_init 98 = .ok (.putfield 48, 3) := by decide +kernel
theorem d_Dk_init_101 : decode b_Dk_init 101 = .ok (.aload_n 0, 1) := by decide +kernel
theorem d_Dk_init_102 : decode b_Dk_init 102 = .ok (.new 49, 3) := by decide +kernel
theorem d_Dk_init_105 : decode b_Dk_init 105 = .ok (.dup, 1) := by decide +kernel
theorem d_Dk_init_106 : decode b_Dk_init 106 = .ok (.invokespecial 51, 3) := by decide +kernel
theorem d_Dk_init_109 : decode b_Dk_init 109 = .ok (.putfield 52, 3) := by decide +kernel
theorem d_Dk_init_112 : decode b_Dk_init 112 = .ok (.return_, 1) := by decide +kernel
set_option maxHeartbeats 1000000 in
set_option maxRecDepth 100000 in
theorem k_Dk_init (s0 : State) (a0 : Array Value) (D : va_G) (t : Nat → ClassId) (C : Nat → va_E) : gK s0 a0 D t y_Dk_init b_Dk_init 2 3 62 243 11975 1 (va_up C 0 (.inr (0, [.null, .null, .null, .null, .null, .null, .null, .null, .int (iI 0), .int (iI 0), .int (iI 0)]))) [.ref (adB s0 0)] 244 (mI0 s0 t) := by
  refine g_startK (by decide +kernel) (Nat.le_of_ble_eq_true rfl) (fun p l e R s m args below meth c A hsz ok => ?_)
  show gW p l e R s m args below meth c _ D A 2 (gZ0 s) 0 0 (adB s0) 1 _ 0 [(0, .ref (adB s0 0))] []
  refine g_aload_n ok d_Dk_init_0 rfl 0 rfl ?_
  refine a_obj ok k_27 k_28 k_29 (by decide) (by decide) d_Dk_init_1 ?_
  refine g_aload_n ok d_Dk_init_4 rfl 0 rfl ?_
  refine g_bipush ok (by decide) d_Dk_init_5 ?_
  refine b_refs ok (by omega) (by omega) 10 3 rfl rfl (by decide) k_30 k_31 (by decide) d_Dk_init_7 ?_
  refine b_putF (fs' := [.ref (adB s0 1), .null, .null, .null, .null, .null, .null, .null, .int (iI 0), .int (iI 0), .int (iI 0)]) ok in_Dk cl_Dk 0 (by omega) 0 (by decide) ty_Dk ok_Dk nm_Dk rfl k_317 rfl rfl rfl rfl rfl (Nat.le_of_ble_eq_true rfl) rfl d_Dk_init_10 ?_
  have L : ∀ (d i : Nat), i + d = 10 → gW p l e R s m args below meth c (MQ below (va_Qv (fun _ : Unit => True) (fun _ => gB D A (adB s0) 244 (mI0 s0 t)) A) args s 243 11975 A) D A 2 gZ (1 + 22 * i) (10 + 309 * i) (adB s0) (2 + 22 * i) (dkB s0 t (.inr (0, [.ref (adB s0 1), .null, .null, .null, .null, .null, .null, .null, .int (iI 0), .int (iI 0), .int (iI 0)])) i) 15 [(1, .int (iI (i : Int))), (0, .ref (adB s0 0))] [] := by
    intro d
    induction d with
    | zero =>
      intro i hi
      have hi : i = 10 := by omega
      subst hi
      refine g_iload_n ok d_Dk_init_15 rfl 0 rfl ?_
      refine g_bipush ok (by decide) d_Dk_init_16 ?_
      refine g_icmp_ge ok 40 d_Dk_init_18 (by decide) (by decide) (by decide) (fun _ => ?_) (fun h => absurd (show (10 : Int) ≤ (10 : Nat) by decide) h)
      refine b_cong (ce' := va_up (mI0 s0 t) 0 (.inr (0, [.ref (adB s0 1), .null, .null, .null, .null, .null, .null, .null, .int (iI 0), .int (iI 0), .int (iI 0)]))) (fun k _ => dk_all k) ?_
      show gW p l e R s m args below meth c _ D A 2 gZ 221 3100 (adB s0) 222 (va_up (mI0 s0 t) 0 (.inr (0, [.ref (adB s0 1), .null, .null, .null, .null, .null, .null, .null, .int (iI 0), .int (iI 0), .int (iI 0)]))) 40 [(1, .int (iI 10)), (0, .ref (adB s0 0))] []
      refine g_aload_n ok d_Dk_init_40 rfl 1 rfl ?_
      refine g_bipush ok (by decide) d_Dk_init_41 ?_
      refine b_ints ok (by omega) (by omega) 10 rfl (by decide) k_67 (by decide) d_Dk_init_43 ?_
      rw [va_up_id (f := mI0 s0 t) (k := 222) (x := zC t 10 (fun _ => 0)) rfl]
      refine b_putF (fs' := [.ref (adB s0 1), .ref (adB s0 222), .null, .null, .null, .null, .null, .null, .int (iI 0), .int (iI 0), .int (iI 0)]) ok in_Dk cl_Dk 0 (by omega) 1 (by decide) ty_Dk ok_Dk nm_Dk rfl k_318 rfl rfl rfl rfl rfl (Nat.le_of_ble_eq_true rfl) rfl d_Dk_init_45 ?_
      refine g_aload_n ok d_Dk_init_48 rfl 1 rfl ?_
      refine g_sipush ok (by decide) d_Dk_init_49 ?_
      refine b_ints ok (by omega) (by omega) 1500 rfl (by decide) k_67 (by decide) d_Dk_init_52 ?_
      rw [va_up_id (f := mI0 s0 t) (k := 223) (x := zC t 1500 (fun _ => 0)) rfl]
      refine b_putF (fs' := [.ref (adB s0 1), .ref (adB s0 222), .ref (adB s0 223), .null, .null, .null, .null, .null, .int (iI 0), .int (iI 0), .int (iI 0)]) ok in_Dk cl_Dk 0 (by omega) 2 (by decide) ty_Dk ok_Dk nm_Dk rfl k_319 rfl rfl rfl rfl rfl (Nat.le_of_ble_eq_true rfl) rfl d_Dk_init_54 ?_
      refine g_aload_n ok d_Dk_init_57 rfl 1 rfl ?_
      refine b_new (N := 9) ok (by omega) in_In cl_In ty_In ok_In k_148 k_149 k_5 [.null, .null, .null, .null, .null, .int (iI 0), .int (iI 0), .int (iI 0), .int (iI 0)] (by decide +kernel) (by decide) d_Dk_init_58 ?_
      refine g_dup ok d_Dk_init_61 rfl ?_
      refine g_callKJN (As := []) ok 224 (k_In_init s0 a0 D t (va_up (mI0 s0 t) 0 (.inr (0, [.ref (adB s0 1), .ref (adB s0 222), .ref (adB s0 223), .null, .null, .null, .null, .null, .int (iI 0), .int (iI 0), .int (iI 0)]))) 224) (by omega) k_152 k_5 k_150 k_151 rfl q_In_init (by decide) (Nat.le_of_ble_eq_true rfl) (by decide) d_Dk_init_62 ?_
      refine b_cong (ce' := va_up (mI0 s0 t) 0 (.inr (0, [.ref (adB s0 1), .ref (adB s0 222), .ref (adB s0 223), .null, .null, .null, .null, .null, .int (iI 0), .int (iI 0), .int (iI 0)]))) (fun k hk => vEq.rf ?_) ?_
      · rcases (show k = 224 ∨ k = 225 ∨ k = 226 ∨ k = 227 ∨ k = 228 ∨ k = 229 ∨ k < 224 by omega) with h | h | h | h | h | h | h
        · subst h
          rfl
        · subst h
          rfl
        · subst h
          rfl
        · subst h
          rfl
        · subst h
          rfl
        · subst h
          rfl
        · rw [va_up_ne _ _ (by omega), va_up_ne _ _ (by omega), va_up_ne _ _ (by omega), va_up_ne _ _ (by omega), va_up_ne _ _ (by omega), va_up_ne _ _ (by omega)]
      refine b_putF (fs' := [.ref (adB s0 1), .ref (adB s0 222), .ref (adB s0 223), .ref (adB s0 224), .null, .null, .null, .null, .int (iI 0), .int (iI 0), .int (iI 0)]) ok in_Dk cl_Dk 0 (by omega) 3 (by decide) ty_Dk ok_Dk nm_Dk rfl k_320 rfl rfl rfl rfl rfl (Nat.le_of_ble_eq_true rfl) rfl d_Dk_init_65 ?_
      refine g_aload_n ok d_Dk_init_68 rfl 1 rfl ?_
      refine b_new (N := 1) ok (by omega) in_Rt cl_Rt ty_Rt ok_Rt k_185 k_186 k_6 [.null] (by decide +kernel) (by decide) d_Dk_init_69 ?_
      refine g_dup ok d_Dk_init_72 rfl ?_
      refine g_callKJN (As := []) ok 230 (k_Rt_init s0 a0 D t (va_up (mI0 s0 t) 0 (.inr (0, [.ref (adB s0 1), .ref (adB s0 222), .ref (adB s0 223), .ref (adB s0 224), .null, .null, .null, .null, .int (iI 0), .int (iI 0), .int (iI 0)]))) 230) (by omega) k_189 k_6 k_187 k_188 rfl q_Rt_init (by decide) (Nat.le_of_ble_eq_true rfl) (by decide) d_Dk_init_73 ?_
      refine b_cong (ce' := va_up (mI0 s0 t) 0 (.inr (0, [.ref (adB s0 1), .ref (adB s0 222), .ref (adB s0 223), .ref (adB s0 224), .null, .null, .null, .null, .int (iI 0), .int (iI 0), .int (iI 0)]))) (fun k hk => vEq.rf ?_) ?_
      · rcases (show k = 230 ∨ k = 231 ∨ k = 232 ∨ k = 233 ∨ k = 234 ∨ k < 230 by omega) with h | h | h | h | h | h
        · subst h
          rfl
        · subst h
          rfl
        · subst h
          rfl
        · subst h
          rfl
        · subst h
          rfl
        · rw [va_up_ne _ _ (by omega), va_up_ne _ _ (by omega), va_up_ne _ _ (by omega), va_up_ne _ _ (by omega), va_up_ne _ _ (by omega)]
      refine b_putF (fs' := [.ref (adB s0 1), .ref (adB s0 222), .ref (adB s0 223), .ref (adB s0 224), .ref (adB s0 230), .null, .null, .null, .int (iI 0), .int (iI 0), .int (iI 0)]) ok in_Dk cl_Dk 0 (by omega) 4 (by decide) ty_Dk ok_Dk nm_Dk rfl k_321 rfl rfl rfl rfl rfl (Nat.le_of_ble_eq_true rfl) rfl d_Dk_init_76 ?_
      refine g_aload_n ok d_Dk_init_79 rfl 1 rfl ?_
      refine b_new (N := 7) ok (by omega) in_Pm cl_Pm ty_Pm ok_Pm k_244 k_245 k_8 [.null, .null, .int (iI 0), .int (iI 0), .int (iI 0), .int (iI 0), .int (iI 0)] (by decide +kernel) (by decide) d_Dk_init_80 ?_
      refine g_dup ok d_Dk_init_83 rfl ?_
      refine g_callKJN (As := []) ok 235 (k_Pm_init s0 a0 D t (va_up (mI0 s0 t) 0 (.inr (0, [.ref (adB s0 1), .ref (adB s0 222), .ref (adB s0 223), .ref (adB s0 224), .ref (adB s0 230), .null, .null, .null, .int (iI 0), .int (iI 0), .int (iI 0)]))) 235) (by omega) k_248 k_8 k_246 k_247 rfl q_Pm_init (by decide) (Nat.le_of_ble_eq_true rfl) (by decide) d_Dk_init_84 ?_
      refine b_cong (ce' := va_up (mI0 s0 t) 0 (.inr (0, [.ref (adB s0 1), .ref (adB s0 222), .ref (adB s0 223), .ref (adB s0 224), .ref (adB s0 230), .null, .null, .null, .int (iI 0), .int (iI 0), .int (iI 0)]))) (fun k hk => vEq.rf ?_) ?_
      · rcases (show k = 235 ∨ k = 236 ∨ k = 237 ∨ k < 235 by omega) with h | h | h | h
        · subst h
          rfl
        · subst h
          rfl
        · subst h
          rfl
        · rw [va_up_ne _ _ (by omega), va_up_ne _ _ (by omega), va_up_ne _ _ (by omega)]
      refine b_putF (fs' := [.ref (adB s0 1), .ref (adB s0 222), .ref (adB s0 223), .ref (adB s0 224), .ref (adB s0 230), .null, .ref (adB s0 235), .null, .int (iI 0), .int (iI 0), .int (iI 0)]) ok in_Dk cl_Dk 0 (by omega) 6 (by decide) ty_Dk ok_Dk nm_Dk rfl k_323 rfl rfl rfl rfl rfl (Nat.le_of_ble_eq_true rfl) rfl d_Dk_init_87 ?_
      refine g_aload_n ok d_Dk_init_90 rfl 1 rfl ?_
      refine g_aload_n ok d_Dk_init_91 rfl 1 rfl ?_
      refine g_get ok in_Dk cl_Dk 0 (by omega) (va_up_self _ _ _) 6 (by decide) rfl k_323 rfl d_Dk_init_92 ?_
      refine g_getN ok in_Pm cl_Pm 235 (by omega) (fs := f_Pm (adB s0) fI0 235) rfl 0 (by decide) rfl k_270 rfl d_Dk_init_95 ?_
      refine b_putF (fs' := [.ref (adB s0 1), .ref (adB s0 222), .ref (adB s0 223), .ref (adB s0 224), .ref (adB s0 230), .ref (adB s0 236), .ref (adB s0 235), .null, .int (iI 0), .int (iI 0), .int (iI 0)]) ok in_Dk cl_Dk 0 (by omega) 5 (by decide) ty_Dk ok_Dk nm_Dk rfl k_322 rfl rfl rfl rfl rfl (Nat.le_of_ble_eq_true rfl) rfl d_Dk_init_98 ?_
      refine g_aload_n ok d_Dk_init_101 rfl 1 rfl ?_
      refine b_new (N := 6) ok (by omega) in_Pl cl_Pl ty_Pl ok_Pl k_292 k_293 k_10 [.null, .null, .null, .null, .null, .int (iI 0)] (by decide +kernel) (by decide) d_Dk_init_102 ?_
      refine g_dup ok d_Dk_init_105 rfl ?_
      refine g_callKJN (As := []) ok 238 (k_Pl_init s0 a0 D t (va_up (mI0 s0 t) 0 (.inr (0, [.ref (adB s0 1), .ref (adB s0 222), .ref (adB s0 223), .ref (adB s0 224), .ref (adB s0 230), .ref (adB s0 236), .ref (adB s0 235), .null, .int (iI 0), .int (iI 0), .int (iI 0)]))) 238) (by omega) k_296 k_10 k_294 k_295 rfl q_Pl_init (by decide) (Nat.le_of_ble_eq_true rfl) (by decide) d_Dk_init_106 ?_
      refine b_cong (ce' := va_up (mI0 s0 t) 0 (.inr (0, [.ref (adB s0 1), .ref (adB s0 222), .ref (adB s0 223), .ref (adB s0 224), .ref (adB s0 230), .ref (adB s0 236), .ref (adB s0 235), .null, .int (iI 0), .int (iI 0), .int (iI 0)]))) (fun k hk => vEq.rf ?_) ?_
      · rcases (show k = 238 ∨ k = 239 ∨ k = 240 ∨ k = 241 ∨ k = 242 ∨ k = 243 ∨ k < 238 by omega) with h | h | h | h | h | h | h
        · subst h
          rfl
        · subst h
          rfl
        · subst h
          rfl
        · subst h
          rfl
        · subst h
          rfl
        · subst h
          rfl
        · rw [va_up_ne _ _ (by omega), va_up_ne _ _ (by omega), va_up_ne _ _ (by omega), va_up_ne _ _ (by omega), va_up_ne _ _ (by omega), va_up_ne _ _ (by omega)]
      refine b_putF (fs' := [.ref (adB s0 1), .ref (adB s0 222), .ref (adB s0 223), .ref (adB s0 224), .ref (adB s0 230), .ref (adB s0 236), .ref (adB s0 235), .ref (adB s0 238), .int (iI 0), .int (iI 0), .int (iI 0)]) ok in_Dk cl_Dk 0 (by omega) 7 (by decide) ty_Dk ok_Dk nm_Dk rfl k_324 rfl rfl rfl rfl rfl (Nat.le_of_ble_eq_true rfl) rfl d_Dk_init_109 ?_
      rw [va_up_id (f := mI0 s0 t) (k := 0) (x := (.inr (0, [.ref (adB s0 1), .ref (adB s0 222), .ref (adB s0 223), .ref (adB s0 224), .ref (adB s0 230), .ref (adB s0 236), .ref (adB s0 235), .ref (adB s0 238), .int (iI 0), .int (iI 0), .int (iI 0)]))) rfl]
      exact g_kret ok d_Dk_init_112
    | succ d ih =>
      intro i hi
      have hK : isSh (2 + 22 * i) := by
        unfold isSh
        omega
      refine g_iload_n ok d_Dk_init_15 rfl 0 rfl ?_
      refine g_bipush ok (by decide) d_Dk_init_16 ?_
      refine g_icmp_ge ok 40 d_Dk_init_18 (by decide) (by omega) (by decide) (fun h => absurd h (by omega)) (fun _ => ?_)
      refine g_aload_n ok d_Dk_init_21 rfl 1 rfl ?_
      refine g_get ok in_Dk cl_Dk 0 (by omega) dkB_0 0 (by decide) rfl k_317 rfl d_Dk_init_22 ?_
      refine g_iload_n ok d_Dk_init_25 rfl 0 rfl ?_
      refine b_new (N := 11) ok (by omega) in_Sh cl_Sh ty_Sh ok_Sh k_30 k_32 k_2 [.null, .null, .null, .int (iI 0), .int (iI 0), .int (iI 0), .int (iI 0), .int (iI 0), .int (iI 0), .int (iI 0), .int (iI 0)] (by decide +kernel) (by omega) d_Dk_init_26 ?_
      refine g_dup ok d_Dk_init_29 rfl ?_
      refine g_callKJN (As := []) ok (2 + 22 * i) (k_Sh_init s0 a0 D t (dkB s0 t (.inr (0, [.ref (adB s0 1), .null, .null, .null, .null, .null, .null, .null, .int (iI 0), .int (iI 0), .int (iI 0)])) i) (2 + 22 * i) hK) (by omega) k_35 k_2 k_33 k_34 rfl q_Sh_init (by decide) (Nat.le_of_ble_eq_true rfl) (by omega) d_Dk_init_30 ?_
      refine a_ast (z := (i : Int)) ok 1 (2 + 22 * i) (by omega) (by omega) (N := 10) (t0 := 3) (f := fun j => if j < i then some (adB s0 (2 + 22 * j)) else none) ?_ (ci := 1) (vs := f_Sh (adB s0) fI0 (2 + 22 * i)) ?_ cl_Sh rfl (by decide) (by omega) d_Dk_init_33 ?_
      · unfold shW
        rw [if_neg (by omega)]
        rfl
      · unfold shW
        rw [if_pos (Nat.le_refl _), Nat.sub_self]
        rfl
      rw [show (i : Int).toNat = i from rfl, show 2 + 22 * i + 22 = 2 + 22 * (i + 1) by omega]
      refine b_cong (ce' := dkB s0 t (.inr (0, [.ref (adB s0 1), .null, .null, .null, .null, .null, .null, .null, .int (iI 0), .int (iI 0), .int (iI 0)])) (i + 1)) (fun k hk => dk_next (by omega) k hk) ?_
      refine g_iinc (lv' := [(1, .int (iI ((i : Int) + 1))), (0, .ref (adB s0 0))]) ok d_Dk_init_34 0 rfl (by decide) rfl ?_
      refine g_goto ok 15 d_Dk_init_37 (by decide) ?_
      refine g_widen (k := 1 + 22 * (i + 1)) (j := 10 + 309 * (i + 1)) (by omega) (by omega) ?_
      exact ih (i + 1) (by omega)
  refine g_iconst ok d_Dk_init_13 ?_
  refine g_istore_n (lv' := [(1, .int (iI 0)), (0, .ref (adB s0 0))]) ok d_Dk_init_14 rfl (by decide) rfl ?_
  refine b_cong (ce' := dkB s0 t (.inr (0, [.ref (adB s0 1), .null, .null, .null, .null, .null, .null, .null, .int (iI 0), .int (iI 0), .int (iI 0)])) 0) (fun k hk => ?_) (L 10 0 rfl)
  have hk2 : k < 2 := hk
  rcases (show k = 0 ∨ k = 1 by omega) with h | h
  · subst h
    exact vEq.rf rfl
  · subst h
    exact vEq.q (fun j hj => rfl)
