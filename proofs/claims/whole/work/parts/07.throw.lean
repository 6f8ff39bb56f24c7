/-! methods that throw: they have written nothing, and made the exception alone -/
section GX
variable {s0 : State} {a0 : Array Value} {D : va_G} {t : Nat → ClassId} {p : Program} {l : Launch} {e : Env} {R : Room} {s : State} {m : MethodId} {args : Array Value} {below : List Frame} {meth : Method} {c : Code} {Q : State → Prop} {Z : Heap → List Loc → Prop} {A : Nat → Prop} {own : String} {cc : ByteArray} {nL : Nat} {ret : Option FieldType} {mn : String} {fr lo mc ms : Nat} {cells slots : Nat} {ad : Nat → Nat} {n : Nat} {ce : Nat → va_E} {pc : Nat} {lv lv' : List (Nat × Value)} {st : List Value}
def gExc (X : String) (x : Nat) (s u : State) : Prop := ∃ cell : Cell, u.heap[x]? = some cell ∧ cell.vm.isStatics = false ∧ s.vm.findClass X = some cell.cls
def gQx (X : String) : Array Value → State → Outcome → State → Prop := fun _ st o u => ∃ x, o = .threw x ∧ gExc X x st u ∧ st.WarmedH u.vm ∧ st.sameButNew ({ u with vm := st.vm } : State) [] 1 6
def gEndX (X : String) (below : List Frame) (args : Array Value) (s : State) : State → Prop := fun u => ∃ o, u.status = .running ∧ Ended u below o ∧ gQx X args s o u
def gX (s0 : State) (a0 : Array Value) (D : va_G) (t : Nat → ClassId) (y : MethodName) (cc : ByteArray) (mL : Nat) (ret : Option FieldType) (fr lo : Nat) (ad : Nat → Nat) (n : Nat) (ce : Nat → va_E) (av : List Value) (X : String) : Prop :=
  gG s0 a0 D t → ∀ (l : Launch), l.stackTraces = false → ∀ sz : Nat, MetFree l y (headSpec [.code y cc mL ret] (gRm fr lo 1 6)) (va_Pc av (gPc s0 D ad n ce sz)) (fun _ _ _ _ _ => True) (gQx X)
theorem g_startX {y : MethodName} {cy : ByteArray} {mL : Nat} {rt : Option FieldType} {fr lo : Nat} {av : List Value} {X : String} (hy : plainName y.cls = true) (hav : (lg_sl av).length ≤ mL)
    (body : ∀ (p : Program) (l : Launch) (e : Env) (R : Room) (s : State) (m : MethodId) (args : Array Value) (below : List Frame) (meth : Method) (c : Code) (A : Nat → Prop), e.platform.stackTraces = false → (∀ (k : Nat), ∀ x ∈ c.exceptionTable.toList, covers x k = false) → gOk s0 a0 D t p R s m meth c A y.cls cy mL rt y.name fr lo 1 6 →
      gW p l e R s m args below meth c (gEndX X below args s) D A mL (gZ0 s) 0 0 ad n ce 0 (lv_args 0 av) []) : gX s0 a0 D t y cy mL rt fr lo ad n ce av X := by
  intro hG l hlt sz
  refine MetFree.of_bodyS (code := cy) (maxLocals := mL) (ret := rt) hy ?_ ?_
  · intro args s m h hn
    obtain ⟨meth, c, h1, h2, h3, h4, h5, h6, -, -⟩ := Cond.code_spec hn (atoms_spec (ws := [.code y cy mL rt]) h _ (List.mem_singleton.mpr rfl))
    exact ⟨meth, c, h1, h2, h3, h4, h5, h6⟩
  · intro p e s m args below meth c s₁ B hml hv _
    obtain ⟨rfl, hsz, hw, ⟨ho1, ho2, ho3⟩, hP, hD⟩ := hv
    have hh0 : s₁.heap = s.heap := by rw [B.state]; rfl
    have hcodeV := atoms_spec (ws := [.code y cy mL rt]) B.pre _ (List.mem_singleton.mpr rfl)
    have htr : e.platform.stackTraces = false := by rw [B.admits.platform]; exact hlt
    have hl := lv_entry av (n := mL) hav
    have K : W p l e (gRm fr lo 1 6) s m av.toArray below meth c s.heap [] 0 0 (gEndX X below av.toArray s) (entryFrame m av.toArray mL) := by
      rw [lg_entry_eq]
      refine body p l e _ s m _ below meth c (va_A (wW ad n ce) sz) htr (fun k => covers_of_empty (B.noHandlers hcodeV) k) ⟨B.exec, B.bytes, hml, findClass_of_methodNamed B.named, hw, hG, fun q h => Or.inr (by rw [← hsz]; exact h), ⟨by rw [hsz]; exact ho1, ho2, fun q h => ?_⟩, ⟨Nat.le_refl _, Nat.le_refl _, Nat.le_refl _, Nat.le_refl _⟩, B.notSynchronized, B.returns, (name_of_methodNamed B.named B.method).1⟩ s.heap [] _ ⟨rfl, rfl⟩ hP hD.self va_S.rf hl
      rcases h with ⟨k, x, h⟩ | h
      · obtain ⟨h1, h2⟩ := wW_of h
        cases h2
        exact ho3 k h1
      · exact Nat.le_trans ho1 h
    obtain ⟨u, a1, o, b1, b2, b3⟩ := K s₁ hh0 (Stand.of_body B)
    exact ⟨u, o, a1, b1, b2, b3⟩
theorem g_throw (ok : gOk s0 a0 D t p R s m meth c A own cc nL ret mn fr lo mc ms) (htr : e.platform.stackTraces = false) (hno : ∀ (k : Nat), ∀ x ∈ c.exceptionTable.toList, covers x k = false) {X : String} {names : List String} {ia ib ic q : Nat} {tx : String} (hfit : Bundle.fit X = true) (hnames : ∀ y ∈ names, Bundle.fit y = true) (hcl : Cond.classLink own ia X ∈ lw_tbl) (hini : Cond.initialized X ∈ lw_tbl)
    (hat : ∀ a ∈ Bundle.ownAtoms own ic X names, a.before args s = true) (hstr : vk_R own ib tx q s) (hd0 : decode cc pc = .ok (.new ia, 3)) (hd3 : decode cc (pc + 3) = .ok (.dup, 1)) (hd4 : decode cc (pc + 4) = .ok (.ldc ib, 2)) (hd6 : decode cc (pc + 6) = .ok (.invokespecial ic, 3)) (hd9 : decode cc (pc + 9) = .ok (.athrow, 1)) (hroom : names.length + 3 < fr ∧ 1 + (13 * (names.length + 1) + 42) ≤ lo ∧ 1 ≤ mc ∧ 6 ≤ ms) :
    gW p l e R s m args below meth c (gEndX X below args s) D A nL (gZ0 s) 0 0 ad n ce pc lv [] := by
  intro H locs ls hZ hP hD hS hl
  obtain ⟨rfl, rfl⟩ := hZ
  have hr := ok.r
  refine W.newc ok.x ok.b ok.wn (ok.w hcl rfl) (hat (.instantiable X 6) (by simp [Bundle.ownAtoms])) (ok.w hini rfl) rfl hd0 (by omega) (by omega) (fun cC kC h1 h2 h3 h4 => ?_)
  refine lv_dup ok.x ok.b hd3 rfl ?_
  refine va_ldcS ok.x ok.b ok.wn hstr hd4 ?_
  intro T hT Y
  obtain ⟨U, k1, k2, k3, k4, k5, ceX, k6, k7⟩ := Y.ctorThrowS ok.x htr (own := own) (cls := X) (names := names) (ic := ic) ok.wn hfit hnames hat (fun y hy => by cases hy) h1 h2 (a := s.heap.size) (by rw [hT]; simp [freshCell]) (Nat.le_refl _) (msg := .ref q) rfl (g := F0 m (pc + 6) ls [.ref q, .ref s.heap.size, .ref s.heap.size]) rfl (hl.1.trans ok.ml.symm) rfl rfl (rest := []) rfl (by rw [ok.b]; exact hd6) (by rw [ok.b]; exact hd9) (hno _) (by omega) (by show 2 * 0 + (1 + 0) + (13 * (names.length + 1) + 42) ≤ R.locals; omega) ok.lk
  exact ⟨U, k1, .threw s.heap.size, k2, k3, s.heap.size, rfl, ⟨ceX, k6, by rw [k7.vm]; rfl, k7.cls⟩, k4, k5⟩
end GX
