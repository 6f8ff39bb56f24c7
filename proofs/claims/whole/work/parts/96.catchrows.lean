/-! rows: a call that throws into a handler; methods with handlers; calls of them -/
theorem ct_kept {s u : State} {k n : Nat} (h : s.sameButNew u [] k n) : s.heap.size ≤ u.heap.size ∧ ∀ q : Nat, q < s.heap.size → u.heap[q]? = s.heap[q]? := by
  refine ⟨h.2.1, fun q hq => ?_⟩
  obtain ⟨c', h1, h2, h3, h4⟩ := h.2.2.2.2.2 q _ (Array.getElem?_eq_getElem hq)
  have h5 : c'.slots = (s.heap[q]).slots := by
    apply Array.ext_getElem?
    intro i
    exact h4 i (by simp)
  rw [h1, Array.getElem?_eq_getElem hq, h2, h5]
section GC
variable {s0 : State} {a0 : Array Value} {D : va_G} {t : Nat → ClassId} {p : Program} {l : Launch} {e : Env} {R : Room} {s : State} {m : MethodId} {args : Array Value} {below : List Frame} {meth : Method} {c : Code} {Q : State → Prop} {Z : Heap → List Loc → Prop} {A : Nat → Prop} {own : String} {cc : ByteArray} {nL : Nat} {ret : Option FieldType} {mn : String} {fr lo mc ms : Nat} {cells slots : Nat} {ad : Nat → Nat} {n : Nat} {ce : Nat → va_E} {pc : Nat} {lv lv' : List (Nat × Value)} {st : List Value}
theorem g_catch (ok : gOk s0 a0 D t p R s m meth c A own cc nL ret mn fr lo mc ms) (k : Nat) {y : MethodName} {cy : ByteArray} {mL : Nat} {rt : Option FieldType} {fr' lo' index hp : Nat} {As : List Value} {X : String} {hs : List ((Nat × Nat × Nat × Nat) × String)} (hlt : l.stackTraces = false) (hM : gX s0 a0 D t y cy mL rt fr' lo' ad n ce (.ref (ad k) :: As) X) (hcode : Cond.code y cy mL rt ∈ lw_tbl) (hini : Cond.initialized y.cls ∈ lw_tbl) (hlink : Cond.methodLink own index y ∈ lw_tbl) {ci : Nat} {q0 : vw_C} {fs : List Value} (hc : vwCl[ci]? = some q0) (hkn : k < n) (he : ce k = .inr (ci, fs)) (hk : Cond.instanceMethod y ∈ lw_tbl) (hsel : Cond.selects q0.1 y y ∈ lw_tbl) (hq : y.cls ≠ "java/lang/invoke/MethodHandle" ∧ y.cls ≠ "java/lang/invoke/VarHandle" ∧ (parseMethodDescriptor y.desc).map (fun d => d.parameters.length) = some As.length) (hR : fr' + 1 ≤ fr ∧ 8 + (mL + 11) + lo' ≤ lo) (hst : (st.map fun v => v.category).sum ≤ 8) (hroom : cells + 1 ≤ mc ∧ slots + 6 ≤ ms) (hd : decode cc pc = .ok (.invokevirtual index, 3)) (htb : c.exceptionTable.toList.map (fun h => (h.startPc, h.endPc, h.handlerPc, h.catchType)) = hs.map (·.1)) (hway : ctTab s args own X pc hs hp) (kk : ∀ x : Nat, gW p l e R s m args below meth c Q D A nL gZ (cells + 1) (slots + 6) ad n ce hp lv [.ref x]) : gW p l e R s m args below meth c Q D A nL Z cells slots ad n ce pc lv (As.reverse ++ .ref (ad k) :: st) := by
  intro H locs ls hZ hP hD hS hl T hT XX
  obtain ⟨cellB, hcB, hoB, hclB⟩ := va_recv ok.k hP hc ((wW_get hkn).trans (by rw [he]))
  obtain ⟨mk, methM, hnamed, hmethM, hstM, habM⟩ := Cond.instanceMethod_spec (ok.w (args := args) hk rfl)
  obtain ⟨methM', cM, hmethM', hcM, -, hlM, -, -, -, hsigM⟩ := Cond.code_spec hnamed (ok.w (args := args) hcode rfl)
  cases hmethM.symm.trans hmethM'
  obtain ⟨c2, r2, m2, q1, q2, q3, q4, kP, hkP, hkPi⟩ := Cond.selects_spec (ok.w (args := args) hsel rfl)
  cases hclB.symm.trans q1
  cases (State.methodFound?_of_named hnamed ⟨hq.1, hq.2.1⟩).symm.trans q2
  cases hnamed.symm.trans q3
  have hselP : selectMethod e.platform s.vm cellB.cls mk = .method mk := by rw [Launch.admits_selectMethod XX.admits]; exact q4
  have hlen : ∀ sig, parseMethodDescriptor y.desc = some sig → As.length = sig.parameters.length := fun sig h => by
    have h2 := hq.2.2
    rw [h] at h2
    exact (Option.some.inj h2).symm
  have hdc : decode c.code pc = .ok (.invokevirtual index, 3) := by rw [ok.b]; exact hd
  obtain ⟨vm₁, X₁, hstep₁⟩ := XX.invokevirtual ok.x ok.wn (ok.w (args := args) hlink rfl) hnamed hmethM hstM hkP hkPi ⟨hq.1, hq.2.1⟩ (a := ad k) (cell := cellB) (by rw [hT]; exact hcB)
    (fun z h => by rw [h] at hoB; cases hoB) hselP hmethM habM hkP hkPi (g := F0 m pc ls (As.reverse ++ .ref (ad k) :: st)) rfl (argsL := As) (rest := st) (hlen _ hsigM) rfl hdc
  have hinitP : kP.init = .initialized := Cond.initialized_spec (findClass_of_methodNamed hnamed) hkP (ok.w (args := args) hini rfl)
  obtain ⟨kP₁, hkP₁, heP₁⟩ := X₁.warmed.alike.2.2 _ _ hkP
  have hr := ok.r
  have hsize : (F0 m pc ls st).locals.size = c.maxLocals := hl.1.trans ok.ml.symm
  have happ : (headSpec [.code y cy mL rt] (gRm fr' lo' 1 6)).appliesLoose y e.platform ((T.setVm vm₁).calling (F0 m pc ls st) mk (Value.ref (ad k) :: As).toArray) = true :=
    Spec.appliesLoose_calling (g := F0 m pc ls st) X₁.here hdc (X₁.named hnamed) hkP₁ (by rw [heP₁]; exact hinitP)
      (X₁.room_calling (g := F0 m pc ls st) (R' := gRm fr' lo' 1 6) hsize (show (T.setVm vm₁).vm.method? mk = some methM by rw [X₁.warmed.alike.method?]; exact hmethM) hcM
        (show fr' + 1 ≤ R.frames by omega) (by rw [hlM]; show 2 * 0 + (st.map fun v => v.category).sum + (mL + 11) + lo' ≤ R.locals; omega) (show cells + 1 ≤ R.cells by omega) (show slots + 6 ≤ R.slots by omega))
      (atoms_intro fun w hw => by rw [List.mem_singleton.mp hw]; exact word_at X₁.warmed (Or.inl rfl) (ok.w (args := args) hcode rfl))
  obtain ⟨mid, hmid⟩ := X₁.here.above
  have hfr : ((T.setVm vm₁).setTop (F0 m pc ls st)).frames = (.java (F0 m pc ls st) :: mid) ++ below := by rw [State.frames_setTop' _ X₁.here.top, hmid]; rfl
  obtain ⟨o, s₂, hsteps, -, hend, hqx⟩ := Steps.callFree (hM ok.g l hlt H.size) p X₁.admits X₁.cas X₁.clock (acts := []) hfr happ (gPc_blind _ _ _ _ (g_pre ok hP hD hS (T.setVm vm₁) hT X₁.warmed)) trivial
  obtain ⟨x, rfl, ⟨cellX, hx1, hx2, hx3⟩, hWx, hsame⟩ := hqx
  have hend' : Ended s₂ (.java (F0 m pc ls st) :: below) (.threw x) := by
    have h1 := hend
    rw [State.frames_setTop' _ X₁.here.top, X₁.tail] at h1
    exact h1
  obtain ⟨T', X', hW', hB, hst2⟩ := X₁.outOfThrown (g := F0 m pc ls st) rfl hend' hWx hsame
  rw [List.append_nil] at X'
  have hx1' : T'.heap[x]? = some cellX := by
    rw [hst2, Stand.throwing_heap] at hx1
    exact hx1
  have hx3' : s.vm.findClass X = some cellX.cls := by
    rw [← X₁.warmed.alike.findClass]
    exact hx3
  have hcodeM : s.vm.method? m = some meth := X'.method
  obtain ⟨vm', X2, k2⟩ := ct_seek (g := F0 m pc ls st) ok.wn rfl hx2 hx3' _ hs htb hway hx1' X'
  have hfind : ctFinds e ((T'.setTop (F0 m pc ls st)).pushFrame (.throwing x)) (F0 m pc ls st) x hp (((T'.setVm vm').setTop (F0 m pc ls st)).pushFrame (.throwing x)) := fun Q E d acts =>
    (W.findHandler_eq (meth := meth) (code := c) (by rw [Stand.throwing_vm]; exact X'.method') X'.code).trans (k2 Q E d acts)
  obtain ⟨hB1, hB2⟩ := ct_kept hB
  have hB1' : H.size ≤ T'.heap.size := by rw [← hT]; exact hB1
  have hB2' : ∀ q : Nat, q < H.size → T'.heap[q]? = H[q]? := fun q h => by
    rw [← hT]
    exact hB2 q (show q < T.heap.size by rw [hT]; exact h)
  obtain ⟨t2, a1, b1⟩ := kk x T'.heap locs ls trivial (hP.kept (fun k q h => hB2' q.1 (hP k q h).lt)) hD ⟨Nat.le_trans hS.1 hB1', fun q h1 h2 => by rw [hB2' q (Nat.lt_of_lt_of_le h1 hS.1)]; exact hS.2.1 q h1 h2, hS.2.2⟩ hl (T'.setVm vm') rfl X2
  refine ⟨t2, hstep₁ _ fun acts => ?_, b1⟩
  rw [doInvoke_state] at hsteps ⊢
  refine hsteps.trans ?_
  rw [hst2]
  exact ct_caught (vm' := vm') (f := F0 m pc ls st) X'.here hfind a1
end GC
section GY
variable {s0 : State} {a0 : Array Value} {D : va_G} {t : Nat → ClassId} {p : Program} {l : Launch} {e : Env} {R : Room} {s : State} {m : MethodId} {args : Array Value} {below : List Frame} {meth : Method} {c : Code} {Q : State → Prop} {Z : Heap → List Loc → Prop} {A : Nat → Prop} {own : String} {cc : ByteArray} {nL : Nat} {ret : Option FieldType} {mn : String} {fr lo mc ms : Nat} {cells slots : Nat} {ad : Nat → Nat} {n : Nat} {ce : Nat → va_E} {pc : Nat} {lv lv' : List (Nat × Value)} {st : List Value}
/-- an int comes back out of a method with handlers; mc cells of ms slots may be made -/
def gY (s0 : State) (a0 : Array Value) (D : va_G) (t : Nat → ClassId) (y : MethodName) (cc : ByteArray) (mL : Nat) (ret : Option FieldType) (hh : List (Nat × Nat × Nat × Nat)) (fr lo mc ms : Nat) (ad : Nat → Nat) (n : Nat) (ce : Nat → va_E) (av : List Value) (post : Int → (Nat → va_E) → Prop) : Prop :=
  gG s0 a0 D t → ∀ (l : Launch), l.stackTraces = false → ∀ sz : Nat, Met l y [.codeWith y cc mL ret hh] (gRm fr lo mc ms) (va_Pc av (gPc s0 D ad n ce sz)) (gQi D (va_A (wW ad n ce) sz) ad n post) mc ms (va_A (wW ad n ce) sz)
theorem g_startY {y : MethodName} {cy : ByteArray} {mL : Nat} {rt : Option FieldType} {hh : List (Nat × Nat × Nat × Nat)} {fr lo : Nat} {av : List Value} {post : Int → (Nat → va_E) → Prop} (hy : plainName y.cls = true) (hav : (lg_sl av).length ≤ mL)
    (body : ∀ (p : Program) (l : Launch) (e : Env) (R : Room) (s : State) (m : MethodId) (args : Array Value) (below : List Frame) (meth : Method) (c : Code) (A : Nat → Prop), l.stackTraces = false → c.exceptionTable.toList.map (fun h => (h.startPc, h.endPc, h.handlerPc, h.catchType)) = hh → gOk s0 a0 D t p R s m meth c A y.cls cy mL rt y.name fr lo mc ms →
      gW p l e R s m args below meth c (MQ below (gQi D A ad n post) args s mc ms A) D A mL (gZ0 s) 0 0 ad n ce 0 (lv_args 0 av) []) : gY s0 a0 D t y cy mL rt hh fr lo mc ms ad n ce av post := by
  intro hG l hlt sz
  refine va_MetW (cc := cy) (maxL := mL) (ret := rt) (hh := hh) hy rfl ?_
  intro p e s m args below meth c s₁ B hml hv
  obtain ⟨rfl, hsz, hw, ⟨ho1, ho2, ho3⟩, hP, hD⟩ := hv
  have hl := lv_entry av (n := mL) hav
  have htb : c.exceptionTable.toList.map (fun h => (h.startPc, h.endPc, h.handlerPc, h.catchType)) = hh := by
    obtain ⟨m9, meth9, c9, hn9, h1, h2, h3, h4, h5, h6, h7, -⟩ := Cond.codeWith_spec (atoms_spec (ws := [.codeWith y cy mL rt hh]) B.pre _ (List.mem_singleton.mpr rfl))
    cases B.named.symm.trans hn9
    cases B.method.symm.trans h1
    cases (Stand.of_body B).code.symm.trans h2
    exact h5
  rw [lg_entry_eq]
  refine body p l e _ s m _ below meth c (va_A (wW ad n ce) sz) hlt htb ⟨B.exec, B.bytes, hml, findClass_of_methodNamed B.named, hw, hG, fun q h => Or.inr (by rw [← hsz]; exact h), ⟨by rw [hsz]; exact ho1, ho2, fun q h => ?_⟩, ⟨Nat.le_refl _, Nat.le_refl _, Nat.le_refl _, Nat.le_refl _⟩, B.notSynchronized, B.returns, (name_of_methodNamed B.named B.method).1⟩ s.heap [] _ ⟨rfl, rfl⟩ hP hD.self va_S.rf hl
  rcases h with ⟨k, x, h⟩ | h
  · obtain ⟨h1, h2⟩ := wW_of h
    cases h2
    exact ho3 k h1
  · exact Nat.le_trans ho1 h
theorem callSW {T : State} {locs : List Loc} (X : Stand p l e R s m args below meth c T locs cells slots) (hexec : p.tables.exec = Jvm.exec) {own : String} {index : Nat} {y : MethodName} {bytes : ByteArray} {maxL : Nat} {ret : Option FieldType} {hh : List (Nat × Nat × Nat × Nat)}
    (hown : s.vm.findClass own = some m.cls) (hlink : (Cond.methodLink own index y).before args s = true) (hstat : (Cond.static y).before args s = true) (hinit : (Cond.initialized y.cls).before args s = true)
    (hcode : (Cond.codeWith y bytes maxL ret hh).before args s = true) (hy : y.cls ≠ "java/lang/invoke/MethodHandle" ∧ y.cls ≠ "java/lang/invoke/VarHandle")
    {W : Nat} {Pre : Pt → Array Value → Prop} {Post : Pt → Array Value → Option Value → Pt → Prop} (hK : Back l R p e below s args y 3 W Pre Post)
    {g : JFrame} (hg : g.method = m) (hsize : g.locals.size = c.maxLocals) {argsL rest : List Value} (hlen : ∀ sig, parseMethodDescriptor y.desc = some sig → argsL.length = sig.parameters.length)
    (hstack : g.stack = argsL.reverse ++ rest) (hW : 2 * g.monitorRoom + (rest.map fun v => v.category).sum ≤ W) (hdg : decode c.code g.pc = .ok (.invokestatic index, 3))
    (hpre : ∀ vm₁, s.WarmedH vm₁ → Pre ⟨T.setVm vm₁, locs, cells, slots⟩ argsL.toArray) :
    ∃ (v : Option Value) (vm₁ : Vm) (B : Pt), s.WarmedH vm₁ ∧ Stand p l e R s m args below meth c B.U B.locs B.cells B.slots ∧ Post ⟨T.setVm vm₁, locs, cells, slots⟩ argsL.toArray v B ∧
      ∀ target, Steps p.tables e below (B.U.setTop { g with pc := g.pc + 3, stack := v.toList ++ rest }) target → Steps p.tables e below (T.setTop g) target := by
  obtain ⟨mk, methM, cM, hnamed, hmethM, -, -, -, -, -, -, hsigM⟩ := Cond.codeWith_spec hcode
  have hstatic : methM.isStatic = true := Cond.static_spec hnamed hmethM hstat
  obtain ⟨kP, hkP, -⟩ := className_of_methodNamed hnamed
  have hinitP : kP.init = .initialized := Cond.initialized_spec (findClass_of_methodNamed hnamed) hkP hinit
  obtain ⟨vm₁, X₁, hstep₁⟩ := X.invokestatic hexec hown hlink hnamed hmethM hstatic hkP hinitP hy (g := g) hg (argsL := argsL) (rest := rest) (hlen _ hsigM) hstack hdg
  obtain ⟨v, B, X', hpost, hsteps⟩ := hK m meth c ⟨T.setVm vm₁, locs, cells, slots⟩ { g with stack := rest } (.invokestatic index) mk argsL.toArray X₁ hg hsize hdg hW (X₁.named hnamed) (hpre vm₁ X₁.warmed)
  exact ⟨v, vm₁, B, X₁.warmed, X', hpost, fun target h => hstep₁ _ fun acts => by rw [doInvoke_state]; exact hsteps.trans h⟩
theorem g_callYS (ok : gOk s0 a0 D t p R s m meth c A own cc nL ret mn fr lo mc ms) {y : MethodName} {cy : ByteArray} {mL : Nat} {rt : Option FieldType} {hh : List (Nat × Nat × Nat × Nat)} {fr' lo' mc' ms' index : Nat} {As : List Value} {post : Int → (Nat → va_E) → Prop} (hlt : l.stackTraces = false) (hM : gY s0 a0 D t y cy mL rt hh fr' lo' mc' ms' ad n ce As post) (hcode : Cond.codeWith y cy mL rt hh ∈ lw_tbl) (hini : Cond.initialized y.cls ∈ lw_tbl) (hlink : Cond.methodLink own index y ∈ lw_tbl) (hk : Cond.static y ∈ lw_tbl) (hq : y.cls ≠ "java/lang/invoke/MethodHandle" ∧ y.cls ≠ "java/lang/invoke/VarHandle" ∧ (parseMethodDescriptor y.desc).map (fun d => d.parameters.length) = some As.length) (hR : fr' + 1 ≤ fr ∧ 8 + (mL + 11) + lo' ≤ lo) (hst : (st.map fun v => v.category).sum ≤ 8) (hroom : cells + mc' ≤ mc ∧ slots + ms' ≤ ms) (hd : decode cc pc = .ok (.invokestatic index, 3)) (kk : ∀ (z : Int) (ce' : Nat → va_E), post z ce' → gW p l e R s m args below meth c Q D A nL gZ (cells + mc') (slots + ms') ad n ce' (pc + 3) lv (.int (iI z) :: st)) : gW p l e R s m args below meth c Q D A nL Z cells slots ad n ce pc lv (As.reverse ++ st) := by
  intro H locs ls hZ hP hD hS hl
  have hr := ok.r
  have hW9 := ok.w (args := args) hcode rfl
  have hK : Back l R p e below s args y 3 8 (PreOf R mc' ms' (va_Pc As (gPc s0 D ad n ce H.size))) (PostOf (gQi D (va_A (wW ad n ce) H.size) ad n post) mc' ms' (va_A (wW ad n ce) H.size)) :=
    va_backW (hh := hh) (bytes := cy) (maxL := mL) (ret := rt) (hM ok.g l hlt H.size) gPc_blind rfl rfl (show fr' + 1 ≤ R.frames by omega) (show 8 + (mL + 11) + lo' ≤ R.locals by omega)
      (fun w hw a' U hW => by rw [List.mem_singleton.mp hw]; exact word_at hW (Or.inl rfl) hW9) (List.mem_singleton.mpr rfl) (fun a' U hW => word_at hW (Or.inl rfl) (ok.w (args := args) hini rfl))
  have hrun : va_Run p l e R s m args below meth c H locs cells slots mc' ms' (F0 m pc ls (As.reverse ++ st)) st (gQi D (va_A (wW ad n ce) H.size) ad n post As.toArray) (va_A (wW ad n ce) H.size) := by
    intro T hT X
    obtain ⟨v, vm₁, ⟨U', l2, c2, s2⟩, hW₁, X', ⟨g', mk, t, L, e1, e2, hqq, h1, hL, h2, h3⟩, st9⟩ := callSW X ok.x (bytes := cy) (maxL := mL) (ret := rt) (hh := hh) ok.wn (ok.w hlink rfl) (ok.w hk rfl) (ok.w hini rfl) hW9 ⟨hq.1, hq.2.1⟩ hK (g := F0 m pc ls (As.reverse ++ st)) rfl (hl.1.trans ok.ml.symm) (argsL := As) (rest := st)
      (fun sig h => by
        have h2 := hq.2.2
        rw [h] at h2
        exact (Option.some.inj h2).symm) rfl (lv_room hst) (by rw [ok.b]; exact hd)
      (fun vm₁ hW₁ => ⟨show cells + mc' ≤ R.cells by omega, show slots + ms' ≤ R.slots by omega, g_pre ok hP hD hS (T.setVm vm₁) hT hW₁⟩)
    dsimp only [Pt.U, Pt.locs, Pt.cells, Pt.slots] at X' e1 e2 h1 h2 h3 st9
    subst h1; subst h2; subst h3
    exact ⟨v, (T.setVm vm₁).calling g' mk As.toArray, t, U', L, hT, X', hL, e1, e2, hqq, st9⟩
  refine va_calli hrun hS (fun q _ h => g_free ok hD hS q h) (g_free ok hD hS) (fun r u x H1 locs1 hx1 hvm hw hB hz1 hk1 hS1 => ?_)
  obtain ⟨z, rfl, hz⟩ := hw
  exact kk z u hz H1 locs1 ls trivial (by rw [← hx1]; exact hB.1) (hB.2.weaken (fun _ q _ h => g_free ok hD hS q.1 h)) hS1 hl
end GY
