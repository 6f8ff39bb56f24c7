/-! NoSuchElementException: its constructor has its link to RuntimeException's at 13 -/
def b13 : ByteArray := ⟨#[0x2a, 0x2b, 0xb7, 0x00, 0x0d, 0xb1]⟩
def nX : String := "java/util/NoSuchElementException"
def nAtoms : List Cond := Bundle.throwableAtoms ++ Bundle.throwableSAtoms ++ Bundle.passSAtoms nX "java/lang/RuntimeException" 13 b13 ++ Bundle.chainSAtoms "java/lang/RuntimeException" ["java/lang/Exception"] ++
  [.methodLink "StitchDesk" 151 (Bundle.initS nX), .instantiable nX 6, .selects nX Bundle.tFill0 Bundle.tFill0, .selects nX Bundle.tFill Bundle.tFill, .lays nX Bundle.tN "cause" "Ljava/lang/Throwable;", .lays nX Bundle.tN "stackTrace" Bundle.steD, .lays nX Bundle.tN "suppressedExceptions" Bundle.listD, .lays nX Bundle.tN "detailMessage" "Ljava/lang/String;", .lays nX Bundle.tN "backtrace" "Ljava/lang/Object;",
   .isRef (.static Bundle.tN "UNASSIGNED_STACK" Bundle.steD), .isRef (.static Bundle.tN "SUPPRESSED_SENTINEL" Bundle.listD), .fieldLink Bundle.tN 198 Bundle.tN "backtrace" "Ljava/lang/Object;", .lays Bundle.tN Bundle.tN "backtrace" "Ljava/lang/Object;"]
section NSE
variable {p : Program} {l : Launch} {e : Env} {R : Room} {s : State} {m₀ : MethodId} {args : Array Value} {below : List Frame} {meth : Method} {c : Code} {W : State}
set_option maxHeartbeats 4000000 in
theorem ct_nse {cells slots : Nat} (XX : Stand p l e R s m₀ args below meth c W [] cells slots) (hexec : p.tables.exec = Jvm.exec) (htr : e.platform.stackTraces = false) (hown : s.vm.findClass "StitchDesk" = some m₀.cls)
    (h : ∀ a ∈ nAtoms, a.before args s = true) {a : Addr} {cX : ClassId} {kX : Class} (hfX : s.vm.findClass nX = some cX) (hkX : s.vm.classes[cX]? = some kX) (hcell : W.heap[a]? = some (freshCell cX kX)) (hnew : s.heap.size ≤ a)
    {msg : Value} (hmsg : msg.isRef = true) {g : JFrame} (hg : g.method = m₀) (hsize : g.locals.size = c.maxLocals) (hlk : g.locked = none) (hen : g.entered = []) {rest : List Value} (hstack : g.stack = msg :: .ref a :: .ref a :: rest)
    (hd6 : decode c.code g.pc = .ok (.invokespecial 151, 3)) (hd9 : decode c.code (g.pc + 3) = .ok (.athrow, 1)) (hout : ∀ x ∈ c.exceptionTable.toList, covers x (g.pc + 3) = false)
    (hRf : 5 < R.frames) (hRl : 2 * g.monitorRoom + ((Value.ref a :: rest).map fun v => v.category).sum + 81 ≤ R.locals) (hlocks : meth.locks = false) :
    ∃ U : State, Steps p.tables e below (W.setTop g) U ∧ U.status = .running ∧ Ended U below (.threw a) ∧ s.WarmedH U.vm ∧ s.sameButNew ({ U with vm := s.vm } : State) [] cells slots ∧
      ∃ ce : Cell, U.heap[a]? = some ce ∧ ce.vm.isStatics = false ∧ s.vm.findClass nX = some ce.cls := by
  have how : e.platform.frameOwnsMonitors = true := by rw [XX.admits.platform]
  have hfi : e.platform.finalization = false := by rw [XX.admits.platform]
  have hpl : e.platform.magicAccessors = ({} : Platform).magicAccessors := by rw [XX.admits.platform]
  have w : ∀ x, x ∈ nAtoms → x.before args s = true := h
  obtain ⟨T, Z0, L, -, Y⟩ := ThrowableC.of_atoms (args := args) how hfi hpl (fun x hx => w x (by simp [nAtoms, hx]))
  obtain ⟨Z, M, LZ, LM, hnZ⟩ := Init0T.ofS_atoms (args := args) hpl L Y (fun x hx => w x (by simp [nAtoms, hx]))
  obtain ⟨P2, Ps, hlen, L2, hL, hP2m, hlink2, hlink⟩ := Bundle.chainS (args := args) hpl hnZ ["java/lang/Exception"] "java/lang/RuntimeException" (by decide) (by decide) (fun x hx => w x (by simp [nAtoms, hx]))
  obtain ⟨P1, L1, hP1m, hP1s⟩ := PassC.ofS_atoms (args := args) (s := s) hpl (X := nX) (Y := "java/lang/RuntimeException") (index := 13) (bytes := b13) (by decide) (by decide) (by decide +kernel) (by decide +kernel) (by decide +kernel) (by decide +kernel) (fun x hx => w x (by simp [nAtoms, hx]))
  have hsup1 : P1.sup = P2.m := Option.some.inj (hP1s.symm.trans hP2m)
  have hfd : s.vm.findClass nX = some P1.m.cls := findClass_of_methodNamed hP1m
  cases Option.some.inj (hfX.symm.trans hfd)
  obtain ⟨c1, k1, hc1, hk, hord, -, -, hn6⟩ := Cond.instantiable_spec (w (.instantiable nX 6) (by simp [nAtoms]))
  cases Option.some.inj (hc1.symm.trans hfd)
  cases Option.some.inj (hkX.symm.trans hk)
  have sel : ∀ (y : MethodName) (r : MethodId), y.cls ≠ "java/lang/invoke/MethodHandle" ∧ y.cls ≠ "java/lang/invoke/VarHandle" → s.methodNamed? y = some r → (Cond.selects nX y y).before args s = true → selectMethod e.platform s.vm P1.m.cls r = .method r := by
    intro y r hy hr hw
    obtain ⟨c2, r2, m2, q1, q2, q3, q4, -⟩ := Cond.selects_spec hw
    cases Option.some.inj (q1.symm.trans hfd)
    cases Option.some.inj (q2.symm.trans (State.methodFound?_of_named hr hy))
    cases Option.some.inj (q3.symm.trans hr)
    rw [Launch.admits_selectMethod XX.admits]
    exact q4
  have hsel0 := sel Bundle.tFill0 T.fill0 (by decide) Y.fill0 (w (.selects nX Bundle.tFill0 Bundle.tFill0) (by simp [nAtoms]))
  have hselF := sel Bundle.tFill T.fill (by decide) Y.fill (w (.selects nX Bundle.tFill Bundle.tFill) (by simp [nAtoms]))
  obtain ⟨cS0, hcS0, hiss⟩ := Y.statics
  obtain ⟨u0, hu0⟩ := Cond.staticRefV Y.unassigned L.unassignedStatic L.statics hcS0 hiss (w (.isRef (.static Bundle.tN "UNASSIGNED_STACK" Bundle.steD)) (by simp [nAtoms]))
  obtain ⟨sen, hsen⟩ := Cond.staticRefV Y.sentinel L.sentinelStatic L.statics hcS0 hiss (w (.isRef (.static Bundle.tN "SUPPRESSED_SENTINEL" Bundle.listD)) (by simp [nAtoms]))
  obtain ⟨ci8, i8, fB, hk8, hg8, ha8, hsB, -, hnB, htB, hffB⟩ := Cond.ownField (t := .object "java/lang/Object") Y.found L.cls (by decide +kernel) (w (.fieldLink Bundle.tN 198 Bundle.tN "backtrace" "Ljava/lang/Object;") (by simp [nAtoms])) (w (.lays Bundle.tN Bundle.tN "backtrace" "Ljava/lang/Object;") (by simp [nAtoms])) e.platform hpl
  obtain ⟨cS, hcS, heS, -, hkeep⟩ := XX.same.2.2.2.2.2 T.aS cS0 hcS0
  have hcS' : W.heap[T.aS]? = some cS := hcS
  have hkS : cS.vm ≠ .unknown := by
    rw [heS]
    intro hu
    rw [show cS0.vm = .unknown from hu] at hiss
    cases hiss
  have hneS : T.aS ≠ a := Nat.ne_of_lt (Nat.lt_of_lt_of_le (Array.getElem?_eq_some_iff.mp hcS0).1 hnew)
  obtain ⟨iM, hffM⟩ := Y.msg
  obtain ⟨tyC, dC, hdC, hdnC⟩ := Cond.laysAt hfd hk Y.cause (w (.lays nX Bundle.tN "cause" "Ljava/lang/Throwable;") (by simp [nAtoms]))
  obtain ⟨tyS, dS, hdS, hdnS⟩ := Cond.laysAt hfd hk Y.stack (w (.lays nX Bundle.tN "stackTrace" Bundle.steD) (by simp [nAtoms]))
  obtain ⟨tyP, dP, hdP, hdnP⟩ := Cond.laysAt hfd hk Y.supp (w (.lays nX Bundle.tN "suppressedExceptions" Bundle.listD) (by simp [nAtoms]))
  obtain ⟨tyM, dM, hdM, hdnM⟩ := Cond.laysAt hfd hk hffM (w (.lays nX Bundle.tN "detailMessage" "Ljava/lang/String;") (by simp [nAtoms]))
  obtain ⟨tyB, dB, hdB, hdnB⟩ := Cond.laysAt hfd hk hffB (w (.lays nX Bundle.tN "backtrace" "Ljava/lang/Object;") (by simp [nAtoms]))
  have bC := Cond.laysApart hdB hdC hdnB hdnC (by rw [hnB, Y.causeName]; decide)
  have bS := Cond.laysApart hdB hdS hdnB hdnS (by rw [hnB, Y.stackName]; decide)
  have bP := Cond.laysApart hdB hdP hdnB hdnP (by rw [hnB, Y.suppName]; decide)
  have hskip : SkipFacts T e.platform s (fun u => u) u0 ((preparedCellV T.toThrowableT (freshCell P1.m.cls kX) a u0 sen).withEntry W.cur) := by
    refine ⟨{ ci198 := ci8, i198 := i8, fBack := fB }, ⟨hk8, hg8, ha8, hsB⟩, ?_, fun _ _ => rfl⟩
    have hd := fresh_default (c := P1.m.cls) tyB
    rw [htB] at hd
    simpa [preparedCellV, Cell.setSlot, Cell.withEntry, Array.getElem?_setIfInBounds, bC, bS, bP, bC.symm, bS.symm, bP.symm, defaultValue] using hd
  obtain ⟨tm, mC, cdC, kC, vm₁, hnC, -, -, -, -, -, -, -, hW₁, st1⟩ := Steps.initColdS (tb := p.tables) (e := e) (below := below) (s := s) (U := W) XX.here hexec XX.warmed hpl hown (t := Bundle.initS nX) rfl rfl (by decide) (w (.methodLink "StitchDesk" 151 (Bundle.initS nX)) (by simp [nAtoms]))
    (w (.instanceMethod (Bundle.initS nX)) (by simp [nAtoms, Bundle.passSAtoms])) (bytes := b13) (maxL := 2) (w (.code (Bundle.initS nX) b13 2 none) (by simp [nAtoms, Bundle.passSAtoms])) (f := g) hg (a := a) (msg := msg) (rest := .ref a :: rest) hstack hd6
  cases Option.some.inj (hnC.symm.trans hP1m)
  have X₁ := XX.noted hW₁
  have hlen' : Ps.length = 1 := hlen
  obtain ⟨vm₂, X₂, st2⟩ := X₁.ctorMessageOffV hexec (g := { g with stack := .ref a :: rest }) hg hsize T L Z LZ M LM (P1 :: P2 :: Ps)
    (fun P hP => by
      rcases List.mem_cons.mp hP with rfl | hP
      · exact L1
      · rcases List.mem_cons.mp hP with rfl | hP
        · exact L2
        · exact hL P hP) ⟨hsup1, hlink2, hlink⟩ (u0 := u0) (sen := sen) (self := a) hmsg (cell := freshCell P1.m.cls kX) (cellS := cS)
    hcell (fun _ => by simp) (by simp) rfl rfl hsel0 hselF hcS' hneS hkS (by rw [hkeep _ (by simp)]; exact hu0) (by rw [hkeep _ (by simp)]; exact hsen)
    (Takes.of_laid hk hord tyC (by rw [Y.causeType]; rfl)) (Takes.of_laid hk hord tyS (by rw [Y.stackType]; exact fits_refV_array _ u0)) (Takes.of_laid hk hord tyP (by rw [Y.suppType]; exact fits_refV_object _ sen))
    (Takes.of_laid hk hord tyM (by rw [Y.msgType]; exact fits_refV_object _ ⟨msg, hmsg⟩)) Y.objLocals hskip htr [] hd6 (by simp only [List.length_cons, hlen']; omega) (by simp only [List.length_cons, hlen']; exact hRl)
  obtain ⟨hwalk, hrun, hended, hWU, hsame⟩ := X₂.athrowLeaves hexec (g := { g with stack := .ref a :: rest, pc := g.pc + 3 }) hg hlk hen hout (a := a) (rest := rest) rfl hd9 hlocks
  have hlt : a < ((W.setVm vm₁).setVm vm₂).heap.size := (Array.getElem?_eq_some_iff.mp hcell).1
  have hU := heapAt_setCell_self (s := (W.setVm vm₁).setVm vm₂) (plainBareV T.toThrowableT (freshCell P1.m.cls kX) a u0 sen msg) hlt
  refine ⟨_, st1 _ (fun acts => ?_), hrun, hended, hWU, hsame.weaken (fun y hy hy2 => ?_) (Nat.le_refl _) (Nat.le_refl _), _, hU, rfl, hfd⟩
  · rw [doInvoke_state]
    exact st2 _ hwalk
  · exfalso
    have hb : y.base = a := by
      simp only [List.nil_append, List.mem_cons, List.not_mem_nil, or_false] at hy
      rcases hy with rfl | rfl | rfl | rfl | rfl <;> rfl
    rw [hb] at hy2
    exact Nat.not_lt.mpr hnew hy2
end NSE
section GTN
variable {s0 : State} {a0 : Array Value} {D : va_G} {t : Nat → ClassId} {p : Program} {l : Launch} {e : Env} {R : Room} {s : State} {m : MethodId} {args : Array Value} {below : List Frame} {meth : Method} {c : Code} {Q : State → Prop} {Z : Heap → List Loc → Prop} {A : Nat → Prop} {own : String} {cc : ByteArray} {nL : Nat} {ret : Option FieldType} {mn : String} {fr lo mc ms : Nat} {cells slots : Nat} {ad : Nat → Nat} {n : Nat} {ce : Nat → va_E} {pc : Nat} {lv lv' : List (Nat × Value)} {st : List Value}
set_option maxRecDepth 100000 in
theorem at_NSE (ok : gOk s0 a0 D t p R s m meth c A own cc nL ret mn fr lo mc ms) : ∀ a ∈ nAtoms, a.before args s = true := List.forall_mem_cons.mpr ⟨ok.f k_12 rfl, List.forall_mem_cons.mpr ⟨ok.f k_687 rfl, List.forall_mem_cons.mpr ⟨ok.f k_696 rfl, List.forall_mem_cons.mpr ⟨ok.f k_702 rfl, List.forall_mem_cons.mpr ⟨ok.f k_705 rfl, List.forall_mem_cons.mpr ⟨ok.f k_707 rfl, List.forall_mem_cons.mpr ⟨ok.f k_688 rfl, List.forall_mem_cons.mpr ⟨ok.f k_689 rfl, List.forall_mem_cons.mpr ⟨ok.f k_28 rfl, List.forall_mem_cons.mpr ⟨ok.f k_29 rfl, List.forall_mem_cons.mpr ⟨ok.f k_690 rfl, List.forall_mem_cons.mpr ⟨ok.f k_695 rfl, List.forall_mem_cons.mpr ⟨ok.f k_703 rfl, List.forall_mem_cons.mpr ⟨ok.f k_723 rfl, List.forall_mem_cons.mpr ⟨ok.f k_677 rfl, List.forall_mem_cons.mpr ⟨ok.f k_724 rfl, List.forall_mem_cons.mpr ⟨ok.f k_679 rfl, List.forall_mem_cons.mpr ⟨ok.f k_725 rfl, List.forall_mem_cons.mpr ⟨ok.f k_681 rfl, List.forall_mem_cons.mpr ⟨ok.f k_691 rfl, List.forall_mem_cons.mpr ⟨ls_at ok k_692, List.forall_mem_cons.mpr ⟨ok.f k_693 rfl, List.forall_mem_cons.mpr ⟨ls_at ok k_694, List.forall_mem_cons.mpr ⟨ok.f k_683 rfl, List.forall_mem_cons.mpr ⟨ok.f k_719 rfl, List.forall_mem_cons.mpr ⟨ok.f k_720 rfl, List.forall_mem_cons.mpr ⟨ok.f k_722 rfl, List.forall_mem_cons.mpr ⟨ok.f k_683 rfl, List.forall_mem_cons.mpr ⟨ok.f k_909 rfl, List.forall_mem_cons.mpr ⟨ok.f k_910 rfl, List.forall_mem_cons.mpr ⟨ok.f k_911 rfl, List.forall_mem_cons.mpr ⟨ok.f k_713 rfl, List.forall_mem_cons.mpr ⟨ok.f k_669 rfl, List.forall_mem_cons.mpr ⟨ok.f k_713 rfl, List.forall_mem_cons.mpr ⟨ok.f k_714 rfl, List.forall_mem_cons.mpr ⟨ok.f k_715 rfl, List.forall_mem_cons.mpr ⟨ok.f k_716 rfl, List.forall_mem_cons.mpr ⟨ok.f k_671 rfl, List.forall_mem_cons.mpr ⟨ok.f k_716 rfl, List.forall_mem_cons.mpr ⟨ok.f k_717 rfl, List.forall_mem_cons.mpr ⟨ok.f k_718 rfl, List.forall_mem_cons.mpr ⟨ok.f k_719 rfl, List.forall_mem_cons.mpr ⟨ok.f k_673 rfl, List.forall_mem_cons.mpr ⟨ok.f k_908 rfl, List.forall_mem_cons.mpr ⟨ok.f k_900 rfl, List.forall_mem_cons.mpr ⟨ok.f k_902 rfl, List.forall_mem_cons.mpr ⟨ok.f k_701 rfl, List.forall_mem_cons.mpr ⟨ok.f k_903 rfl, List.forall_mem_cons.mpr ⟨ok.f k_904 rfl, List.forall_mem_cons.mpr ⟨ok.f k_905 rfl, List.forall_mem_cons.mpr ⟨ok.f k_906 rfl, List.forall_mem_cons.mpr ⟨ok.f k_907 rfl, List.forall_mem_cons.mpr ⟨ref_at ok (nw_at ok 16 (by decide +kernel)), List.forall_mem_cons.mpr ⟨ref_at ok (nw_at ok 17 (by decide +kernel)), List.forall_mem_cons.mpr ⟨ok.f k_686 rfl, List.forall_mem_cons.mpr ⟨ok.f k_685 rfl, fun _ h => absurd h List.not_mem_nil⟩⟩⟩⟩⟩⟩⟩⟩⟩⟩⟩⟩⟩⟩⟩⟩⟩⟩⟩⟩⟩⟩⟩⟩⟩⟩⟩⟩⟩⟩⟩⟩⟩⟩⟩⟩⟩⟩⟩⟩⟩⟩⟩⟩⟩⟩⟩⟩⟩⟩⟩⟩⟩⟩⟩⟩
theorem g_throwN (ok : gOk s0 a0 D t p R s m meth c A "StitchDesk" cc nL ret mn fr lo mc ms) (htr : e.platform.stackTraces = false) (hno : ∀ (k : Nat), ∀ x ∈ c.exceptionTable.toList, covers x k = false) {ia ib q : Nat} {tx : String} (hcl : Cond.classLink "StitchDesk" ia nX ∈ lw_tbl) (hini : Cond.initialized nX ∈ lw_tbl)
    (hstr : vk_R "StitchDesk" ib tx q s) (hd0 : decode cc pc = .ok (.new ia, 3)) (hd3 : decode cc (pc + 3) = .ok (.dup, 1)) (hd4 : decode cc (pc + 4) = .ok (.ldc ib, 2)) (hd6 : decode cc (pc + 6) = .ok (.invokespecial 151, 3)) (hd9 : decode cc (pc + 9) = .ok (.athrow, 1)) (hroom : 5 < fr ∧ 82 ≤ lo ∧ 1 ≤ mc ∧ 6 ≤ ms) :
    gW p l e R s m args below meth c (gEndX nX below args s) D A nL (gZ0 s) 0 0 ad n ce pc lv [] := by
  intro H locs ls hZ hP hD hS hl
  obtain ⟨rfl, rfl⟩ := hZ
  have hr := ok.r
  have hat := at_NSE (args := args) ok
  refine W.newc ok.x ok.b ok.wn (ok.w hcl rfl) (hat (.instantiable nX 6) (by simp [nAtoms])) (ok.w hini rfl) rfl hd0 (by omega) (by omega) (fun cC kC h1 h2 h3 h4 => ?_)
  refine lv_dup ok.x ok.b hd3 rfl ?_
  refine va_ldcS ok.x ok.b ok.wn hstr hd4 ?_
  intro T hT Y
  obtain ⟨U, k1, k2, k3, k4, k5, ceX, k6, k7, k8⟩ := ct_nse Y ok.x htr ok.wn hat h1 h2 (a := s.heap.size) (by rw [hT]; simp [freshCell]) (Nat.le_refl _) (msg := .ref q) rfl (g := F0 m (pc + 6) ls [.ref q, .ref s.heap.size, .ref s.heap.size]) rfl (hl.1.trans ok.ml.symm) rfl rfl (rest := []) rfl (by rw [ok.b]; exact hd6) (by rw [ok.b]; exact hd9) (hno _) (by omega) (by show 2 * 0 + (1 + 0) + 81 ≤ R.locals; omega) ok.lk
  exact ⟨U, k1, .threw s.heap.size, k2, k3, s.heap.size, rfl, ⟨ceX, k6, k7, k8⟩, k4, k5⟩
end GTN
