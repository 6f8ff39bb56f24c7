/-! the entry of a JDK method, by plainFor -/
section GPF
variable {s0 : State} {a0 : Array Value} {D : va_G} {t : Nat → ClassId} {ad : Nat → Nat} {n : Nat} {ce : Nat → va_E}
theorem metOfWF {l : Launch} {y : MethodName} {ws ws' : List Cond} {rm : Room} {Pc : Array Value → State → Prop} {Qc : Array Value → State → Outcome → State → Prop} {mc ms : Nat} {free : Addr → Prop} {cc : ByteArray} {maxL : Nat} {ret : Option FieldType}
    (hy : plainFor y = true) (hw : ws = Cond.code y cc maxL ret :: ws')
    (body : ∀ p e s m args below meth c s₁, BodyLoose p l y (headSpec ws rm) cc maxL ret e s m args below meth c s₁ → c.maxLocals = maxL → Pc args s →
      W p l e (headSpec ws rm).room s m args below meth c s.heap [] 0 0 (MQ below Qc args s mc ms free) (entryFrame m args maxL)) : Met l y ws rm Pc Qc mc ms free := by
  refine MetFree.of_bodySF (code := cc) (maxLocals := maxL) (ret := ret) hy ?_ ?_
  · intro args s m h hn
    obtain ⟨meth, c, h1, h2, h3, h4, h5, h6, -, -⟩ := Cond.code_spec hn (atoms_spec (ws := ws) h _ (by rw [hw]; exact List.mem_cons_self))
    exact ⟨meth, c, h1, h2, h3, h4, h5, h6⟩
  · intro p e s m args below meth c s₁ B hml hP _
    have hh0 : s₁.heap = s.heap := by rw [B.state]; rfl
    obtain ⟨t, a1, o, b1, b2, b3⟩ := body p e s m args below meth c s₁ B hml hP s₁ hh0 (Stand.of_body B)
    exact ⟨t, o, a1, b1, b2, ⟨b3.1, b3.2⟩⟩
theorem g_startPF {y : MethodName} {cy : ByteArray} {mL : Nat} {rt : Option FieldType} {fr lo : Nat} {av : List Value} {post : Int → Prop} (hy : plainFor y = true) (hav : (lg_sl av).length ≤ mL)
    (body : ∀ (p : Program) (l : Launch) (e : Env) (R : Room) (s : State) (m : MethodId) (args : Array Value) (below : List Frame) (meth : Method) (c : Code) (A : Nat → Prop), gOk s0 a0 D t p R s m meth c A y.cls cy mL rt y.name fr lo 0 0 →
      gW p l e R s m args below meth c (MQ below (gQp post) args s 0 0 (fun _ => False)) D A mL (gZ0 s) 0 0 ad n ce 0 (lv_args 0 av) []) : gP s0 a0 D t y cy mL rt fr lo ad n ce av post := by
  intro hG l sz
  refine metOfWF (cc := cy) (maxL := mL) (ret := rt) hy rfl ?_
  intro p e s m args below meth c s₁ B hml hv
  obtain ⟨rfl, hsz, hw, ⟨ho1, ho2, ho3⟩, hP, hD⟩ := hv
  have hl := lv_entry av (n := mL) hav
  rw [lg_entry_eq]
  refine body p l e _ s m _ below meth c (va_A (wW ad n ce) sz) ⟨B.exec, B.bytes, hml, findClass_of_methodNamed B.named, hw, hG, fun q h => Or.inr (by rw [← hsz]; exact h), ⟨by rw [hsz]; exact ho1, ho2, fun q h => ?_⟩, ⟨Nat.le_refl _, Nat.le_refl _, Nat.le_refl _, Nat.le_refl _⟩, B.notSynchronized, B.returns, (name_of_methodNamed B.named B.method).1⟩ s.heap [] _ ⟨rfl, rfl⟩ hP hD.self va_S.rf hl
  rcases h with ⟨k, x, h⟩ | h
  · obtain ⟨h1, h2⟩ := wW_of h
    cases h2
    exact ho3 k h1
  · exact Nat.le_trans ho1 h
end GPF
