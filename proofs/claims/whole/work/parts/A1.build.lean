/-! building: the law makes its cells one behind the other, so that place k lies at the start's end + k -/
def adB (s0 : State) : Nat → Nat := fun k => s0.heap.size + k
/-- the memory when all is made -/
def fI0 : Nat → Nat → Int := fun k j => if j = 5 ∧ 2 ≤ k ∧ k < 222 ∧ (k - 2) % 22 = 0 then 4 else if k = 224 ∧ (j = 7 ∨ j = 8) then -1 else if k = 235 ∧ j = 1 then -1 else if k = 244 ∧ (j = 10 ∨ j = 11 ∨ j = 29) then -1 else 0
def gI0 : Nat → Int → Int := fun _ _ => 0
section GBU
variable {s0 : State} {a0 : Array Value} {D : va_G} {t : Nat → ClassId} {p : Program} {l : Launch} {e : Env} {R : Room} {s : State} {m : MethodId} {args : Array Value} {below : List Frame} {meth : Method} {c : Code} {Q : State → Prop} {Z : Heap → List Loc → Prop} {A : Nat → Prop} {own : String} {cc : ByteArray} {nL : Nat} {ret : Option FieldType} {mn : String} {fr lo mc ms : Nat} {cells slots : Nat} {ad : Nat → Nat} {n : Nat} {ce : Nat → va_E} {pc : Nat} {lv lv' : List (Nat × Value)} {st : List Value}
theorem b_size (ok : gOk s0 a0 D t p R s m meth c A own cc nL ret mn fr lo mc ms) (hcnt : s.heap.size + cells = s0.heap.size + n) {T : State} {locs : List Loc} (X : Stand p l e R s m args below meth c T locs cells slots) (hP : va_P D vwCl (wW (adB s0) n ce) T.heap) : T.heap.size = s0.heap.size + n := by
  have h1 : T.heap.size ≤ s.heap.size + cells := X.same.2.2.1
  have h2 : s.heap.size ≤ T.heap.size := X.same.2.1
  have h0 := ok.o.1
  rcases Nat.eq_zero_or_pos n with h | h
  · omega
  · have h3 := (hP (n - 1) _ (wW_get (by omega))).lt
    have h4 : adB s0 (n - 1) = s0.heap.size + (n - 1) := rfl
    simp only at h3
    omega
theorem b_place (ok : gOk s0 a0 D t p R s m meth c A own cc nL ret mn fr lo mc ms) (hcnt : s.heap.size + cells = s0.heap.size + n) {ad' : Nat → Nat} (hag : ∀ k : Nat, k < n → ad' k = adB s0 k) {ce' : Nat → va_E} {slots' : Nat} {T : State} {locs : List Loc} (X : Stand p l e R s m args below meth c T locs (cells + 1) slots') (hP : va_P D vwCl (wW ad' (n + 1) ce') T.heap) (hD : va_D A (wW ad' (n + 1) ce')) : ad' n = adB s0 n := by
  have h1 : T.heap.size ≤ s.heap.size + (cells + 1) := X.same.2.2.1
  have h2 : ad' n < T.heap.size := (hP n _ (wW_get (by omega))).lt
  have h3 : s0.heap.size ≤ ad' n := ok.o.2.2 _ (hD.2 n _ (wW_get (by omega)))
  by_cases hlt : ad' n < s0.heap.size + n
  · exfalso
    have h4 := hD.1 n (ad' n - s0.heap.size) _ _ (wW_get (by omega)) (wW_get (by omega)) (by
      have h5 : ad' (ad' n - s0.heap.size) = s0.heap.size + (ad' n - s0.heap.size) := hag (ad' n - s0.heap.size) (by omega)
      show ad' n = ad' (ad' n - s0.heap.size)
      omega)
    omega
  · show ad' n = s0.heap.size + n
    omega
theorem b_grow (ok : gOk s0 a0 D t p R s m meth c A own cc nL ret mn fr lo mc ms) (hcnt : s.heap.size + cells = s0.heap.size + n) {slots' pc' : Nat} (kk : gW p l e R s m args below meth c Q D A nL gZ (cells + 1) slots' (adB s0) (n + 1) ce pc' lv (.ref (adB s0 n) :: st)) : ∀ ad' : Nat → Nat, (∀ k : Nat, k < n → ad' k = adB s0 k) → gW p l e R s m args below meth c Q D A nL gZ (cells + 1) slots' ad' (n + 1) ce pc' lv (.ref (ad' n) :: st) := by
  intro ad' hag H locs ls hZ hP hD hS hl T hT X
  subst hT
  have hq := b_place ok hcnt hag X hP hD
  have hw : wW ad' (n + 1) ce = wW (adB s0) (n + 1) ce := by
    refine wW_cong (fun k hk => ?_) (fun _ _ => rfl)
    rcases Nat.lt_or_ge k n with h | h
    · exact hag k h
    · rw [show k = n by omega]
      exact hq
  rw [hw] at hP hD
  rw [hq]
  exact kk T.heap locs ls trivial hP hD hS hl T rfl X
/-- one cell stands for another if whoever holds the one holds the other -/
def vEq (D : va_G) (x y : va_E) : Prop := ∀ (q : Nat) (H : Heap), va_at D vwCl (q, x) H → va_at D vwCl (q, y) H
theorem vEq.rf {x y : va_E} (h : x = y) : vEq D x y := fun _ _ z => h ▸ z
theorem vEq.q {i N : Nat} {f g : Nat → Option Nat} (h : ∀ j, j < N → f j = g j) : vEq D (qC t i N f) (qC t i N g) := by
  intro q H z
  have hc : vp_cell (t i) (N, .inr (.inr (.inr (.inr f)))) = vp_cell (t i) (N, .inr (.inr (.inr (.inr g)))) := by
    rw [vp_cell_q, vp_cell_q]
    unfold arrV
    have hf : (Array.ofFn (n := N) fun j => va_rf (f j.val)) = Array.ofFn (n := N) fun j => va_rf (g j.val) := by
      congr 1
      funext j
      rw [h j.val j.isLt]
    rw [hf]
  show H[q]? = some (vp_cell (t i) (N, .inr (.inr (.inr (.inr g)))))
  rw [← hc]
  exact z
theorem b_cong {ce' : Nat → va_E} (h : ∀ k : Nat, k < n → vEq D (ce k) (ce' k)) (kk : gW p l e R s m args below meth c Q D A nL Z cells slots ad n ce' pc lv st) : gW p l e R s m args below meth c Q D A nL Z cells slots ad n ce pc lv st := by
  intro H locs ls hZ hP hD hS hl
  refine kk H locs ls hZ (fun k q hk => ?_) ⟨fun i j x y hx hy hxy => ?_, fun k q hk => ?_⟩ hS hl
  · obtain ⟨h1, rfl⟩ := wW_of hk
    exact h k h1 _ H (hP k _ (wW_get h1))
  · obtain ⟨h1, rfl⟩ := wW_of hx
    obtain ⟨h2, rfl⟩ := wW_of hy
    exact hD.1 i j _ _ (wW_get h1) (wW_get h2) hxy
  · obtain ⟨h1, rfl⟩ := wW_of hk
    exact hD.2 k (ad k, ce k) (wW_get h1)
def gK (s0 : State) (a0 : Array Value) (D : va_G) (t : Nat → ClassId) (y : MethodName) (cc : ByteArray) (mL fr lo mc ms n : Nat) (ce : Nat → va_E) (av : List Value) (n' : Nat) (ce' : Nat → va_E) : Prop :=
  gG s0 a0 D t → ∀ l : Launch, Met l y [.code y cc mL none] (gRm fr lo mc ms) (va_Pc av (gPc s0 D (adB s0) n ce (s0.heap.size + n))) (va_Qv (fun _ : Unit => True) (fun _ => gB D (va_A (wW (adB s0) n ce) (s0.heap.size + n)) (adB s0) n' ce') (va_A (wW (adB s0) n ce) (s0.heap.size + n))) mc ms (va_A (wW (adB s0) n ce) (s0.heap.size + n))
theorem g_startK {y : MethodName} {cy : ByteArray} {mL : Nat} {fr lo mc ms n' : Nat} {av : List Value} {ce' : Nat → va_E} (hy : plainName y.cls = true) (hav : (lg_sl av).length ≤ mL)
    (body : ∀ (p : Program) (l : Launch) (e : Env) (R : Room) (s : State) (m : MethodId) (args : Array Value) (below : List Frame) (meth : Method) (c : Code) (A : Nat → Prop), s.heap.size = s0.heap.size + n → gOk s0 a0 D t p R s m meth c A y.cls cy mL none y.name fr lo mc ms →
      gW p l e R s m args below meth c (MQ below (va_Qv (fun _ : Unit => True) (fun _ => gB D A (adB s0) n' ce') A) args s mc ms A) D A mL (gZ0 s) 0 0 (adB s0) n ce 0 (lv_args 0 av) []) : gK s0 a0 D t y cy mL fr lo mc ms n ce av n' ce' := by
  intro hG l
  refine g_entry hG hy hav ?_
  intro p e s m below meth c A hsz hA ok
  subst hA
  exact body p l e _ s m _ below meth c _ hsz ok
theorem g_kret {ce' : Nat → va_E} (ok : gOk s0 a0 D t p R s m meth c A own cc nL none mn fr lo mc ms) (hd : decode cc pc = .ok (.return_, 1)) : gW p l e R s m args below meth c (MQ below (va_Qv (fun _ : Unit => True) (fun _ => gB D A ad n ce') A) args s cells slots A) D A nL Z cells slots ad n ce' pc lv [] :=
  fun H locs ls hZ hP hD hS hl => W.vret ok.x ok.b ok.rt (fun u hu hW => ⟨⟨(), rfl, trivial, by rw [hu]; exact hP, hD⟩, hS.F hu⟩) hS.2.2 hd ok.lk
theorem g_callKJ (ok : gOk s0 a0 D t p R s m meth c A own cc nL ret mn fr lo mc ms) (k : Nat) {y : MethodName} {cy : ByteArray} {mL : Nat} {fr' lo' index : Nat} {As : List Value} {mc' ms' n' : Nat} {ce' : Nat → va_E} (hM : gK s0 a0 D t y cy mL fr' lo' mc' ms' n ce (.ref (adB s0 k) :: As) n' ce') (hcnt : s.heap.size + cells = s0.heap.size + n) (hcode : Cond.code y cy mL none ∈ lw_tbl) (hini : Cond.initialized y.cls ∈ lw_tbl) (hlink : Cond.methodLink own index y ∈ lw_tbl) (hk : Cond.instanceMethod y ∈ lw_tbl) (hnm : y.name = "<init>") (hq : y.cls ≠ "java/lang/invoke/MethodHandle" ∧ y.cls ≠ "java/lang/invoke/VarHandle" ∧ (parseMethodDescriptor y.desc).map (fun d => d.parameters.length) = some As.length) (hR : fr' + 1 ≤ fr ∧ 8 + (mL + 11) + lo' ≤ lo) (hst : (st.map fun v => v.category).sum ≤ 8) (hroom : cells + mc' ≤ mc ∧ slots + ms' ≤ ms) (hd : decode cc pc = .ok (.invokespecial index, 3)) (kk : gW p l e R s m args below meth c Q D A nL gZ (cells + mc') (slots + ms') (adB s0) n' ce' (pc + 3) lv st) : gW p l e R s m args below meth c Q D A nL Z cells slots (adB s0) n ce pc lv (As.reverse ++ .ref (adB s0 k) :: st) := by
  intro H locs ls hZ hP hD hS hl T hT X
  have hsz : H.size = s0.heap.size + n := by
    subst hT
    exact b_size ok hcnt X hP
  have hM' := hM ok.g l
  rw [← hsz] at hM'
  refine va_callv (va_runI (As := As) (rest := st) (b := adB s0 k) ⟨ok.x, ok.b, ok.ml, ok.wn, ok.ts (args := args)⟩ hM' ⟨g_cb ok hcode hini hlink hq hR, hnm, ok.w hk rfl⟩ ⟨gPc_blind, g_pre ok hP hD hS⟩ rfl rfl hl.1 rfl (lv_room hst) hd ⟨Nat.le_trans hroom.1 ok.r.2.2.1, Nat.le_trans hroom.2 ok.r.2.2.2⟩) hS (fun q _ h => g_free ok hD hS q h) (g_free ok hD hS) (fun u x H1 locs1 hx1 hvm hw hB hz1 hk1 hS1 => ?_) T hT X
  exact kk H1 locs1 ls trivial (by rw [← hx1]; exact hB.1) (hB.2.weaken (fun _ q _ h => g_free ok hD hS q.1 h)) hS1 hl
theorem g_callKJN (ok : gOk s0 a0 D t p R s m meth c A own cc nL ret mn fr lo mc ms) (k : Nat) {y : MethodName} {cy : ByteArray} {mL : Nat} {fr' lo' index : Nat} {As : List Value} {mc' ms' n' : Nat} {ce' : Nat → va_E} {host : String} (hM : gK s0 a0 D t y cy mL fr' lo' mc' ms' n ce (.ref (adB s0 k) :: As) n' ce') (hcnt : s.heap.size + cells = s0.heap.size + n) (hcode : Cond.code y cy mL none ∈ lw_tbl) (hini : Cond.initialized y.cls ∈ lw_tbl) (hlink : Cond.methodLinkNest own index y host ∈ lw_tbl) (hk : Cond.instanceMethod y ∈ lw_tbl) (hnm : y.name = "<init>") (hq : y.cls ≠ "java/lang/invoke/MethodHandle" ∧ y.cls ≠ "java/lang/invoke/VarHandle" ∧ (parseMethodDescriptor y.desc).map (fun d => d.parameters.length) = some As.length) (hR : fr' + 1 ≤ fr ∧ 8 + (mL + 11) + lo' ≤ lo) (hst : (st.map fun v => v.category).sum ≤ 8) (hroom : cells + mc' ≤ mc ∧ slots + ms' ≤ ms) (hd : decode cc pc = .ok (.invokespecial index, 3)) (kk : gW p l e R s m args below meth c Q D A nL gZ (cells + mc') (slots + ms') (adB s0) n' ce' (pc + 3) lv st) : gW p l e R s m args below meth c Q D A nL Z cells slots (adB s0) n ce pc lv (As.reverse ++ .ref (adB s0 k) :: st) := by
  intro H locs ls hZ hP hD hS hl T hT X
  have hsz : H.size = s0.heap.size + n := by
    subst hT
    exact b_size ok hcnt X hP
  have hM' := hM ok.g l
  rw [← hsz] at hM'
  refine va_callv (va_runIN (As := As) (rest := st) (b := adB s0 k) ⟨ok.x, ok.b, ok.ml, ok.wn, ok.ts (args := args)⟩ hM' ⟨g_cn ok hcode hini hlink hq hR, hnm, ok.w hk rfl⟩ ⟨gPc_blind, g_pre ok hP hD hS⟩ rfl rfl hl.1 rfl (lv_room hst) hd ⟨Nat.le_trans hroom.1 ok.r.2.2.1, Nat.le_trans hroom.2 ok.r.2.2.2⟩) hS (fun q _ h => g_free ok hD hS q h) (g_free ok hD hS) (fun u x H1 locs1 hx1 hvm hw hB hz1 hk1 hS1 => ?_) T hT X
  exact kk H1 locs1 ls trivial (by rw [← hx1]; exact hB.1) (hB.2.weaken (fun _ q _ h => g_free ok hD hS q.1 h)) hS1 hl
end GBU
