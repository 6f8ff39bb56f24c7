/-! a call that throws, and the handler that takes it: the classes of the handlers may be open -/
section CT
variable {e : Env} {s : State} {f : JFrame} {a : Addr}
theorem ct_gives {Q : Handler → Pre} {E : CtlPost} {d : Bool} {acts : List Action} {x : ExceptionTableEntry} {r : List ExceptionTableEntry} {cT : ClassId} {cell : Cell} {vm' : Vm} (hx : covers x f.pc = true) (h0 : x.catchType ≠ 0)
    (hg : (Jvm.resolveClass f.method.cls x.catchType).Gives e.toSetting s.vm (.ok cT) vm') (hcell : s.heap[a]? = some cell) (hobj : ∀ k, cell.vm ≠ .statics k)
    (hk : ∃ k, vm'.classes[cell.cls]? = some k) (hc : ∃ k, vm'.classes[cT]? = some k) (hsz : vm'.classes.size ≤ s.vm.classes.size) :
    wp (findHandler.go f a (x :: r)) Q E e d acts s ↔ if vm'.assignable cell.cls cT = true then Q (.found x.handlerPc) d acts (s.setVm vm') else wp (findHandler.go f a r) Q E e d acts (s.setVm vm') := by
  simp only [covers] at hx
  obtain ⟨ha, ht⟩ := hg.op (op := VmOp.resolveClass f.method.cls x.catchType) rfl
  have hcell' : (s.setVm vm').heap[a]? = some cell := hcell
  obtain ⟨k1, hk1⟩ := hk
  obtain ⟨k2, hk2⟩ := hc
  have hk1' : (s.setVm vm').vm.classes[cell.cls]? = some k1 := hk1
  have hk2' : (s.setVm vm').vm.classes[cT]? = some k2 := hk2
  cases hfit : vm'.assignable cell.cls cT <;>
    simp [findHandler.go, hx, h0, ha, ht, hsz, hcell, hobj, hk1, hk2, hfit, VmOp.dirties, VmOp.acts]
/-- what the search gives, and the state that it leaves -/
def ctFinds (e : Env) (s : State) (f : JFrame) (a : Addr) (pc : Nat) (s' : State) : Prop :=
  ∀ (Q : Handler → Pre) (E : CtlPost) (d : Bool) (acts : List Action), wp (findHandler f a) Q E e d acts s ↔ Q (.found pc) d acts s'
theorem ct_step {r : List Frame} {pc : Nat} {s' : State} (hfind : ctFinds e s f a pc s') : (stepThrowing e s a (.java f :: r)).Is (s'.setFrames (.java { f with pc := pc, stack := [.ref a] } :: r)) [] := by
  simp only [stepThrowing, searchFrame, vmDo]
  generalize hr : Sem.go _ e false [] s = res
  obtain ⟨as, rfl, ha⟩ := Sem.eq_ok_of hr (a := Handler.found pc) (s' := s') (acts' := []) (by simp [hfind _ _ _ _])
  exact ⟨rfl, ha⟩
theorem ct_caught {tb : Tables} {c : Code} {below : List Frame} {target : State} {vm' : Vm} {T : State} (h : At T f.method c below) {pc : Nat} (hfind : ctFinds e ((T.setTop f).pushFrame (.throwing a)) f a pc (((T.setVm vm').setTop f).pushFrame (.throwing a)))
    (hrest : Steps tb e below ((T.setVm vm').setTop { f with pc := pc, stack := [.ref a] }) target) : Steps tb e below ((T.setTop f).pushFrame (.throwing a)) target := by
  obtain ⟨hgo, hw⟩ := h.throwing a
  refine Steps.head hgo hw ?_
  rw [stepThread_throwing (frames_entered h.top _), (ct_step (s := (T.setTop f).pushFrame (.throwing a)) hfind).1]
  obtain ⟨g₀, hg⟩ := Option.isSome_iff_exists.mp h.top
  obtain ⟨r, hr⟩ := State.topJava?_eq_some.mp hg
  have hr' : (T.setVm vm').frames = .java g₀ :: r := hr
  rw [State.pushFrame, State.setFrames_setFrames, State.setTop_of_frames _ hr', State.setFrames_setFrames]
  rw [State.setTop_of_frames _ hr'] at hrest
  rw [hr]
  exact hrest
end CT
/-- the way through a table: rows with their classes; the first that fits has its handler at hp -/
def ctTab (s : State) (args : Array Value) (own X : String) (pc : Nat) : List ((Nat × Nat × Nat × Nat) × String) → Nat → Prop
  | [], _ => False
  | (h, nm) :: r, hp => (h.1 ≤ pc ∧ pc < h.2.1 ∧ h.2.2.2 ≠ 0 ∧ (Cond.classLink own h.2.2.2 nm).before args s = true) ∧ (((Cond.castable X nm).before args s = true ∧ h.2.2.1 = hp) ∨ ((Cond.not (Cond.castable X nm)).before args s = true ∧ ctTab s args own X pc r hp))
theorem ct_nocast {args : Array Value} {s : State} {X nm : String} {cX cT : ClassId} (h : (Cond.not (Cond.castable X nm)).before args s = true) (h1 : s.vm.findClass X = some cX) (h2 : s.vm.findClass nm = some cT) : s.vm.assignable cX cT = false := by
  cases hb : s.vm.assignable cX cT
  · rfl
  · simp [Cond.before, Cond.holds, Cond.value, h1, h2, hb] at h
section CS
variable {p : Program} {l : Launch} {e : Env} {R : Room} {s : State} {m : MethodId} {args : Array Value} {below : List Frame} {meth : Method} {c : Code} {T : State} {locs : List Loc} {cells slots : Nat}
theorem ct_seek {own X : String} {a : Addr} {g : JFrame} {cell : Cell} {hp : Nat} (hown : s.vm.findClass own = some m.cls) (hg : g.method = m) (hobj : cell.vm.isStatics = false) (hcls : s.vm.findClass X = some cell.cls) :
    ∀ (es : List ExceptionTableEntry) (hs : List ((Nat × Nat × Nat × Nat) × String)), es.map (fun h => (h.startPc, h.endPc, h.handlerPc, h.catchType)) = hs.map (·.1) → ctTab s args own X g.pc hs hp → ∀ {T : State}, T.heap[a]? = some cell → Stand p l e R s m args below meth c T locs cells slots →
      ∃ vm', Stand p l e R s m args below meth c (T.setVm vm') locs cells slots ∧ ∀ (Q : Handler → Pre) (E : CtlPost) (d : Bool) (acts : List Action), wp (findHandler.go g a es) Q E e d acts ((T.setTop g).pushFrame (.throwing a)) ↔ Q (.found hp) d acts (((T.setVm vm').setTop g).pushFrame (.throwing a)) := by
  intro es
  induction es with
  | nil =>
    intro hs hm ht
    cases hs with
    | nil => exact absurd ht id
    | cons q r => cases hm
  | cons x es ih =>
    intro hs hm ht T hcell XX
    cases hs with
    | nil => cases hm
    | cons q r =>
      obtain ⟨h, nm⟩ := q
      simp only [List.map_cons, List.cons.injEq] at hm
      obtain ⟨hh, hm⟩ := hm
      obtain ⟨⟨t1, t2, t3, hlink⟩, ht⟩ := ht
      subst hh
      simp only at t1 t2 t3 hlink ht
      have hpl : e.platform.magicAccessors = ({} : Platform).magicAccessors := by rw [XX.admits.platform]
      obtain ⟨cT, hcT, hcl⟩ := Cond.classLink_spec hown hlink e.platform hpl
      obtain ⟨dk, _, _, kt, hd, _, _, _, _, hkt, _, hopen⟩ := hcl.here
      have hcl₀ := XX.warmed.classLinks hcl
      have hW' : s.WarmedH (T.vm.noted m.cls x.catchType (.cls cT)) := XX.warmed.noted hd hopen (State.rightAt_cls hcl)
      obtain ⟨ks, hks⟩ := Vm.classAt_of_findClass hcls
      obtain ⟨ks', hks', -⟩ := hW'.alike.2.2 _ _ hks
      obtain ⟨kt', hkt', -⟩ := hW'.alike.2.2 _ _ hkt
      have X1 := XX.noted hW'
      have hcov : covers x g.pc = true := by simp [covers, t1, t2]
      have hgv : (Jvm.resolveClass g.method.cls x.catchType).Gives e.toSetting ((T.setTop g).pushFrame (.throwing a)).vm (.ok cT) (T.vm.noted m.cls x.catchType (.cls cT)) := by
        rw [hg, Stand.throwing_vm]
        exact resolveClass_links e.toSetting hcl₀
      have hsz : (T.vm.noted m.cls x.catchType (.cls cT)).classes.size ≤ ((T.setTop g).pushFrame (.throwing a)).vm.classes.size := by
        rw [Stand.throwing_vm]
        no_record
      have hst : ((T.setTop g).pushFrame (.throwing a)).setVm (T.vm.noted m.cls x.catchType (.cls cT)) = (((T.setVm (T.vm.noted m.cls x.catchType (.cls cT))).setTop g).pushFrame (.throwing a)) := by
        rfl
      have key := fun (Q : Handler → Pre) (E : CtlPost) (d : Bool) (acts : List Action) => ct_gives (Q := Q) (E := E) (d := d) (acts := acts) (r := es) hcov t3 hgv (by rw [Stand.throwing_heap]; exact hcell) (fun k z => by rw [z] at hobj; cases hobj) ⟨ks', hks'⟩ ⟨kt', hkt'⟩ hsz
      rcases ht with ⟨hc, rfl⟩ | ⟨hn, ht⟩
      · refine ⟨_, X1, fun Q E d acts => ?_⟩
        obtain ⟨c3, t3', w1, w2, w3⟩ := Cond.castable_spec hc
        cases hcls.symm.trans w1
        cases hcT.symm.trans w2
        rw [key Q E d acts, if_pos (by rw [hW'.alike.assignable]; exact w3), hst]
      · obtain ⟨vm2, X2, k2⟩ := ih r hm ht (T := T.setVm (T.vm.noted m.cls x.catchType (.cls cT))) hcell X1
        refine ⟨vm2, X2, fun Q E d acts => ?_⟩
        rw [key Q E d acts, if_neg (by rw [hW'.alike.assignable, ct_nocast hn hcls hcT]; decide), hst, k2 Q E d acts]
        exact Iff.rfl
end CS
