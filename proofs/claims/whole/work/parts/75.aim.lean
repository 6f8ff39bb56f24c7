/-! what the law is given beside the tables; the static rows of steps -/
def cjL : Cond → List Cond
  | .and a b => cjL a ++ cjL b
  | c => [c]
theorem cj_all : ∀ {c : Cond} {A : Array Value} {U : State}, c.before A U = true → ∀ w ∈ cjL c, w.before A U = true := by
  intro c A U h w hw
  induction c with
  | and a b iha ihb =>
    rw [Cond.before_and, Bool.and_eq_true] at h
    rcases List.mem_append.mp hw with z | z
    · exact iha h.1 z
    · exact ihb h.2 z
  | _ => rw [List.mem_singleton.mp hw]; exact h
section GS
variable {s0 : State} {a0 : Array Value} {D : va_G} {t : Nat → ClassId} {p : Program} {l : Launch} {e : Env} {R : Room} {s : State} {m : MethodId} {args : Array Value} {below : List Frame} {meth : Method} {c : Code} {Q : State → Prop} {Z : Heap → List Loc → Prop} {A : Nat → Prop} {own : String} {cc : ByteArray} {nL : Nat} {ret : Option FieldType} {mn : String} {fr lo mc ms : Nat} {cells slots : Nat} {ad : Nat → Nat} {n : Nat} {ce : Nat → va_E} {pc : Nat} {lv lv' : List (Nat × Value)} {st : List Value}
theorem nw_at (ok : gOk s0 a0 D t p R s m meth c A own cc nL ret mn fr lo mc ms) {w : Cond} (i : Nat) (h : (cjL narrow_1)[i]? = some w) : w.before a0 s0 = true := cj_all ok.g.2.2 w (List.mem_of_getElem? h)
theorem tab_of (ok : gOk s0 a0 D t p R s m meth c A own cc nL ret mn fr lo mc ms) {nm : String} {ys : Nat → Int} (hls : Cond.laysStatic "StitchDesk$HatchLine" nm "[I" ∈ lw_tbl) (h1 : (Cond.arrayOf (.static "StitchDesk$HatchLine" nm "[I") .int).before a0 s0 = true) (h2 : (Cond.eq (.length (.static "StitchDesk$HatchLine" nm "[I")) (.int 4)).before a0 s0 = true) (h3 : ∀ j : Nat, j < 4 → (Cond.eq (.elem (.static "StitchDesk$HatchLine" nm "[I") (.int (Int32.ofNat j))) (.int (iI (ys j)))).before a0 s0 = true) : ∃ tx : Nat, va_Z "StitchDesk$HatchLine" nm "[I" (.ref tx) A s s.heap ∧ va_T .int tx 4 (fun j => .int (iI (ys j))) A s s.heap := by
  have hA : ∀ a : Nat, a < s0.heap.size → ¬ A a := fun a h z => absurd (ok.o.2.2 a z) (by omega)
  obtain ⟨tx, e, hT⟩ := va_Tof (A := A) (N := 4) (f := fun j => .int (iI (ys j))) (by decide) h1 (va_eqt h2) (fun j hj => va_eqt (h3 j hj)) hA
  have hZ := va_Zof (A := A) (ok.g.1 _ hls) (ok.g.1 _ k_7) e hA
  exact ⟨tx, (hZ.moved ok.warm.alike).kept (fun a h _ => ok.o.2.1 a h), (hT.moved ok.warm.alike).kept (fun a h _ => ok.o.2.1 a h)⟩
theorem g_gets (ok : gOk s0 a0 D t p R s m meth c A own cc nL ret mn fr lo mc ms) {nm : String} {tx index : Nat} (hz : va_Z "StitchDesk$HatchLine" nm "[I" (.ref tx) A s s.heap) (hl0 : Cond.fieldLink own index "StitchDesk$HatchLine" nm "[I" ∈ lw_tbl) (hd : decode cc pc = .ok (.getstatic index, 3)) (kk : gW p l e R s m args below meth c Q D A nL Z cells slots ad n ce (pc + 3) lv (.ref tx :: st)) : gW p l e R s m args below meth c Q D A nL Z cells slots ad n ce pc lv st :=
  fun H locs ls hZ hP hD hS hl => va_gets ok.x ok.b hz hS ok.wn (ok.w hl0 rfl) (fun _ h => h) hd (kk H locs ls hZ hP hD hS hl)
theorem g_tald (ok : gOk s0 a0 D t p R s m meth c A own cc nL ret mn fr lo mc ms) {tx N : Nat} {ys : Nat → Int} (hT : va_T .int tx N (fun j => .int (iI (ys j))) A s s.heap) {z : Int} (hz : 0 ≤ z ∧ z < N) (hN : N < 2147483648) (hd : decode cc pc = .ok (.iaload, 1)) (kk : gW p l e R s m args below meth c Q D A nL Z cells slots ad n ce (pc + 1) lv (.int (iI (ys z.toNat)) :: st)) : gW p l e R s m args below meth c Q D A nL Z cells slots ad n ce pc lv (.int (iI z) :: .ref tx :: st) :=
  fun H locs ls hZ hP hD hS hl => va_ti ok.x ok.b hT hS (iI_in hN hz) (v := .int (iI (ys z.toNat))) (by rw [iI_clamp (by omega)]) hd (kk H locs ls hZ hP hD hS hl)
def xSt (j : Nat) : Int := if j = 1 then 0 else 1
def ySt (j : Nat) : Int := if j = 0 then 0 else if j = 2 then -1 else 1
theorem tab_x (ok : gOk s0 a0 D t p R s m meth c A own cc nL ret mn fr lo mc ms) : ∃ tx : Nat, va_Z "StitchDesk$HatchLine" "X_STEPS" "[I" (.ref tx) A s s.heap ∧ va_T .int tx 4 (fun j => .int (iI (xSt j))) A s s.heap := by
  refine tab_of ok k_401 (nw_at ok 3 (by decide +kernel)) (nw_at ok 4 (by decide +kernel)) (fun j hj => ?_)
  rcases (show j = 0 ∨ j = 1 ∨ j = 2 ∨ j = 3 by omega) with h | h | h | h
  · subst h
    exact nw_at ok 5 (by decide +kernel)
  · subst h
    exact nw_at ok 6 (by decide +kernel)
  · subst h
    exact nw_at ok 7 (by decide +kernel)
  · subst h
    exact nw_at ok 8 (by decide +kernel)
theorem tab_y (ok : gOk s0 a0 D t p R s m meth c A own cc nL ret mn fr lo mc ms) : ∃ tx : Nat, va_Z "StitchDesk$HatchLine" "Y_STEPS" "[I" (.ref tx) A s s.heap ∧ va_T .int tx 4 (fun j => .int (iI (ySt j))) A s s.heap := by
  refine tab_of ok k_403 (nw_at ok 10 (by decide +kernel)) (nw_at ok 11 (by decide +kernel)) (fun j hj => ?_)
  rcases (show j = 0 ∨ j = 1 ∨ j = 2 ∨ j = 3 by omega) with h | h | h | h
  · subst h
    exact nw_at ok 12 (by decide +kernel)
  · subst h
    exact nw_at ok 13 (by decide +kernel)
  · subst h
    exact nw_at ok 14 (by decide +kernel)
  · subst h
    exact nw_at ok 15 (by decide +kernel)
end GS
theorem xSt_0 {d : Int} (h : 0 ≤ d ∧ d ≤ 3) : xSt d.toNat = 0 ↔ d = 1 := by
  unfold xSt
  split <;> omega
theorem xSt_rng (j : Nat) : xSt j = -1 ∨ xSt j = 0 ∨ xSt j = 1 := by
  unfold xSt
  split <;> omega
theorem ySt_rng (j : Nat) : ySt j = -1 ∨ ySt j = 0 ∨ ySt j = 1 := by
  unfold ySt
  split
  · omega
  · split <;> omega
theorem d_Hl_aim_0 : decode b_Hl_aim 0 = .ok (.aload_n 0, 1) := by decide +kernel
theorem d_Hl_aim_1 : decode b_Hl_aim 1 = .ok (.getstatic 99, 3) := by decide +kernel
theorem d_Hl_aim_4 : decode b_Hl_aim 4 = .ok (.iload_n 1, 1) := by decide +kernel
theorem d_Hl_aim_5 : decode b_Hl_aim 5 = .ok (.iaload, 1) := by decide +kernel
theorem d_Hl_aim_6 : decode b_Hl_aim 6 = .ok (.putfield 21, 3) := by decide +kernel
theorem d_Hl_aim_9 : decode b_Hl_aim 9 = .ok (.aload_n 0, 1) := by decide +kernel
theorem d_Hl_aim_10 : decode b_Hl_aim 10 = .ok (.getstatic 102, 3) := by decide +kernel
theorem d_Hl_aim_13 : decode b_Hl_aim 13 = .ok (.iload_n 1, 1) := by decide +kernel
theorem d_Hl_aim_14 : decode b_Hl_aim 14 = .ok (.iaload, 1) := by decide +kernel
theorem d_Hl_aim_15 : decode b_Hl_aim 15 = .ok (.putfield 28, 3) := by decide +kernel
theorem d_Hl_aim_18 : decode b_Hl_aim 18 = .ok (.aload_n 0, 1) := by decide +kernel
theorem d_Hl_aim_19 : decode b_Hl_aim 19 = .ok (.aload_n 0, 1) := by decide +kernel
theorem d_Hl_aim_20 : decode b_Hl_aim 20 = .ok (.getfield 21, 3) := by decide +kernel
theorem d_Hl_aim_23 : decode b_Hl_aim 23 = .ok (.ifCond .ne 7, 3) := by decide +kernel
theorem d_Hl_aim_26 : decode b_Hl_aim 26 = .ok (.iload_n 2, 1) := by decide +kernel
theorem d_Hl_aim_27 : decode b_Hl_aim 27 = .ok (.goto 4, 3) := by decide +kernel
theorem d_Hl_aim_30 : decode b_Hl_aim 30 = .ok (.iconst 0, 1) := by decide +kernel
theorem d_Hl_aim_31 : decode b_Hl_aim 31 = .ok (.putfield 25, 3) := by decide +kernel
theorem d_Hl_aim_34 : decode b_Hl_aim 34 = .ok (.aload_n 0, 1) := by decide +kernel
theorem d_Hl_aim_35 : decode b_Hl_aim 35 = .ok (.aload_n 0, 1) := by decide +kernel
theorem d_Hl_aim_36 : decode b_Hl_aim 36 = .ok (.getfield 21, 3) := by decide +kernel
theorem d_Hl_aim_39 : decode b_Hl_aim 39 = .ok (.ifCond .ne 7, 3) := by decide +kernel
theorem d_Hl_aim_42 : decode b_Hl_aim 42 = .ok (.iconst 0, 1) := by decide +kernel
theorem d_Hl_aim_43 : decode b_Hl_aim 43 = .ok (.goto 4, 3) := by decide +kernel
theorem d_Hl_aim_46 : decode b_Hl_aim 46 = .ok (.iload_n 2, 1) := by decide +kernel
theorem d_Hl_aim_47 : decode b_Hl_aim 47 = .ok (.putfield 31, 3) := by decide +kernel
theorem d_Hl_aim_50 : decode b_Hl_aim 50 = .ok (.return_, 1) := by decide +kernel
set_option maxHeartbeats 1000000 in
set_option maxRecDepth 100000 in
theorem c_Hl_aim (F : Nat → Nat → Int) (G : Nat → Int → Int) (d f0 : Int) (hd : 0 ≤ d ∧ d ≤ 3) : cV y_Hl_aim b_Hl_aim 3 none 0 0 F G (fun ad => [.ref (ad 231), .int (iI d), .int (iI f0)]) (fun F' G' => F' = fU (fU (fU (fU F 231 5 (xSt d.toNat)) 231 7 (ySt d.toNat)) 231 6 (if d = 1 then f0 else 0)) 231 8 (if d = 1 then 0 else f0) ∧ G' = G) := by
  intro s0 a0 D t ad
  refine g_startV (by decide +kernel) (Nat.le_of_ble_eq_true rfl) (fun p l e R s m args below meth c A ok => ?_)
  show gW p l e R s m args below meth c _ D A 3 (gZ0 s) 0 0 ad 265 (mem ad t F G) 0 [(0, .ref (ad 231)), (1, .int (iI d)), (2, .int (iI f0))] []
  obtain ⟨tx, hzx, htx⟩ := tab_x ok
  obtain ⟨ty, hzy, hty⟩ := tab_y ok
  have hxr := xSt_rng d.toNat
  refine g_aload_n ok d_Hl_aim_0 rfl 0 rfl ?_
  refine g_gets ok hzx k_400 d_Hl_aim_1 ?_
  refine g_iload_n ok d_Hl_aim_4 rfl 1 rfl ?_
  refine g_tald ok htx (by omega) (by decide) d_Hl_aim_5 ?_
  refine pI_Hl_xStep ok _ rfl k_205 d_Hl_aim_6 ?_
  refine g_aload_n ok d_Hl_aim_9 rfl 0 rfl ?_
  refine g_gets ok hzy k_402 d_Hl_aim_10 ?_
  refine g_iload_n ok d_Hl_aim_13 rfl 1 rfl ?_
  refine g_tald ok hty (by omega) (by decide) d_Hl_aim_14 ?_
  refine pI_Hl_yStep ok _ rfl k_207 d_Hl_aim_15 ?_
  refine g_aload_n ok d_Hl_aim_18 rfl 0 rfl ?_
  refine g_aload_n ok d_Hl_aim_19 rfl 0 rfl ?_
  refine gI_Hl_xStep ok _ rfl k_205 d_Hl_aim_20 ?_
  refine g_top (y := xSt (d).toNat) (by show (fU (fU F 231 5 (xSt (d).toNat)) 231 7 (ySt (d).toNat)) 231 5 = _; rw [fU_ja (show (5 : Nat) ≠ 7 by decide), fU_hit]) ?_
  refine g_if_ne ok 30 d_Hl_aim_23 (by decide) (by omega) (fun h1 => ?_) (fun h1 => ?_)
  · have hd1 : ¬ d = 1 := fun z => h1 ((xSt_0 hd).mpr z)
    refine g_iconst ok d_Hl_aim_30 ?_
    refine pI_Hl_xBase ok _ rfl k_206 d_Hl_aim_31 ?_
    refine g_aload_n ok d_Hl_aim_34 rfl 0 rfl ?_
    refine g_aload_n ok d_Hl_aim_35 rfl 0 rfl ?_
    refine gI_Hl_xStep ok _ rfl k_205 d_Hl_aim_36 ?_
    refine g_top (y := xSt (d).toNat) (by show (fU (fU (fU F 231 5 (xSt (d).toNat)) 231 7 (ySt (d).toNat)) 231 6 0) 231 5 = _; rw [fU_ja (show (5 : Nat) ≠ 6 by decide), fU_ja (show (5 : Nat) ≠ 7 by decide), fU_hit]) ?_
    refine g_if_ne ok 46 d_Hl_aim_39 (by decide) (by omega) (fun h2 => ?_) (fun h2 => ?_)
    · refine g_iload_n ok d_Hl_aim_46 rfl 2 rfl ?_
      refine pI_Hl_yBase ok _ rfl k_208 d_Hl_aim_47 ?_
      exact g_vret ok d_Hl_aim_50 ⟨_, _, rfl, by rw [if_neg hd1, if_neg hd1], rfl⟩
    · exact absurd h2 (fun z => hd1 ((xSt_0 hd).mp z))
  · have hd1 : d = 1 := (xSt_0 hd).mp h1
    refine g_iload_n ok d_Hl_aim_26 rfl 2 rfl ?_
    refine g_goto ok 31 d_Hl_aim_27 (by decide) ?_
    refine pI_Hl_xBase ok _ rfl k_206 d_Hl_aim_31 ?_
    refine g_aload_n ok d_Hl_aim_34 rfl 0 rfl ?_
    refine g_aload_n ok d_Hl_aim_35 rfl 0 rfl ?_
    refine gI_Hl_xStep ok _ rfl k_205 d_Hl_aim_36 ?_
    refine g_top (y := xSt (d).toNat) (by show (fU (fU (fU F 231 5 (xSt (d).toNat)) 231 7 (ySt (d).toNat)) 231 6 f0) 231 5 = _; rw [fU_ja (show (5 : Nat) ≠ 6 by decide), fU_ja (show (5 : Nat) ≠ 7 by decide), fU_hit]) ?_
    refine g_if_ne ok 46 d_Hl_aim_39 (by decide) (by omega) (fun h3 => ?_) (fun h3 => ?_)
    · exact absurd ((xSt_0 hd).mpr hd1) (h3)
    · refine g_iconst ok d_Hl_aim_42 ?_
      refine g_goto ok 47 d_Hl_aim_43 (by decide) ?_
      refine pI_Hl_yBase ok _ rfl k_208 d_Hl_aim_47 ?_
      exact g_vret ok d_Hl_aim_50 ⟨_, _, rfl, by rw [if_pos hd1, if_pos hd1], rfl⟩
