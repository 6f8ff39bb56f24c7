/-! rows that make cells; the world grows by a place, at an address that nobody chose -/
section GA
variable {s0 : State} {a0 : Array Value} {D : va_G} {t : Nat → ClassId} {p : Program} {l : Launch} {e : Env} {R : Room} {s : State} {m : MethodId} {args : Array Value} {below : List Frame} {meth : Method} {c : Code} {Q : State → Prop} {Z : Heap → List Loc → Prop} {A : Nat → Prop} {own : String} {cc : ByteArray} {nL : Nat} {ret : Option FieldType} {mn : String} {fr lo mc ms : Nat} {cells slots : Nat} {ad : Nat → Nat} {n : Nat} {ce : Nat → va_E} {pc : Nat} {lv lv' : List (Nat × Value)} {st : List Value}
theorem a_obj (ok : gOk s0 a0 D t p R s m meth c A own cc nL ret mn fr lo mc ms) {index x : Nat} (hl0 : Cond.methodLink own index Lib.objectInit ∈ lw_tbl) (hi0 : Cond.instanceMethod Lib.objectInit ∈ lw_tbl) (hc0 : Cond.code Lib.objectInit ⟨#[0xb1]⟩ 1 none ∈ lw_tbl) (hroom : 1 ≤ fr ∧ 20 ≤ lo) (hst : (st.map fun v => v.category).sum ≤ 8) (hd : decode cc pc = .ok (.invokespecial index, 3)) (kk : gW p l e R s m args below meth c Q D A nL Z cells slots ad n ce (pc + 3) lv st) : gW p l e R s m args below meth c Q D A nL Z cells slots ad n ce pc lv (.ref x :: st) := by
  intro H locs ls hZ hP hD hS hl
  have hr := ok.r
  exact W.objInit ok.x ok.b ok.wn (ok.w hl0 rfl) (ok.w hi0 rfl) (ok.w hc0 rfl) (g := F0 m pc ls (.ref x :: st)) rfl (hl.1.trans ok.ml.symm) rfl hd (by omega) (by show 2 * 0 + _ + 12 ≤ _; omega) (kk H locs ls hZ hP hD hS hl)
theorem a_new (ok : gOk s0 a0 D t p R s m meth c A own cc nL ret mn fr lo mc ms) {C : String} {T : u_T} {N ci index : Nat} (hin : ∀ w ∈ u_ws C T N, w ∈ gTb) (hc : vwCl[ci]? = some (C, T, N)) (ty : Nat → FieldType) (hty : ∀ k, k < N → parseFieldDescriptor (T k).2.2.1 = some (ty k)) (hcl : Cond.classLink own index C ∈ lw_tbl) (hins : Cond.instantiable C N ∈ lw_tbl) (hini : Cond.initialized C ∈ lw_tbl) (fs : List Value) (hfs : ∀ j, j < N → defaultValue (ty j) = vp_V fs j) (hroom : cells + 1 ≤ mc ∧ slots + N ≤ ms) (hd : decode cc pc = .ok (.new index, 3))
    (kk : ∀ ad' : Nat → Nat, (∀ k : Nat, k < n → ad' k = ad k) → gW p l e R s m args below meth c Q D A nL gZ (cells + 1) (slots + N) ad' (n + 1) (va_up ce n (.inr (ci, fs))) (pc + 3) lv (.ref (ad' n) :: st)) : gW p l e R s m args below meth c Q D A nL Z cells slots ad n ce pc lv st := by
  intro H locs ls hZ hP hD hS hl
  have hr := ok.r
  refine va_new ok.x ok.b ok.ts hin ty hty ok.wn (ok.w hcl rfl) (ok.w hins rfl) (ok.w hini rfl) ok.k hP hD hS ok.a hc hfs (by omega) (by omega) hd (fun q H1 hP1 hD1 hS1 => ?_)
  have h := kk (va_up ad n q) (fun k hk => va_up_ne _ _ (by omega))
  rw [va_up_self] at h
  exact h H1 locs ls trivial (by rw [← wW_push]; exact hP1) (by rw [← wW_push]; exact hD1) hS1 hl
theorem a_arr (ok : gOk s0 a0 D t p R s m meth c A own cc nL ret mn fr lo mc ms) {z : Int} {N : Nat} (t0 : Nat) {atype : ArrayType} {ty : FieldType} (hty : newarray.typeOf atype = ty) {cT : ClassId} (ht : (gTl t)[t0]? = some (cT, ty)) (hno : ∀ C, ty ≠ .object C) {a1 : vp_A} (ha : ∀ cA : ClassId, vp_cell cA a1 = arrV cA N (fun _ => defaultValue ty)) (hb : componentBytes ty ≤ 8) (hz : z = N) (hN : N ≤ 100000) (harr : Cond.arrayClass ty ∈ lw_tbl) (hroom : cells + 1 ≤ mc ∧ slots + N ≤ ms) (hd : decode cc pc = .ok (.newarray atype, 2))
    (kk : ∀ ad' : Nat → Nat, (∀ k : Nat, k < n → ad' k = ad k) → gW p l e R s m args below meth c Q D A nL gZ (cells + 1) (slots + N) ad' (n + 1) (va_up ce n (.inl (cT, a1))) (pc + 2) lv (.ref (ad' n) :: st)) : gW p l e R s m args below meth c Q D A nL Z cells slots ad n ce pc lv (.int (iI z) :: st) := by
  intro H locs ls hZ hP hD hS hl
  have hr := ok.r
  have hz0 : ¬ iI z < 0 := by rw [iI_zero, iI_lt (by omega) (by omega)]; omega
  have hcl : (iI z).toNatClampNeg = N := by rw [iI_clamp (by omega), hz]; simp
  refine va_newa ok.x ok.b (atype := atype) (by rw [hty]; exact ok.w harr rfl) hty ok.k hP hD hS ok.a ha hz0 hcl (Nat.le_trans (Nat.mul_le_mul hN hb) (by decide)) (by omega) (by omega) hd (fun q cA H1 hK1 hP1 hD1 hS1 => ?_)
  have e : cA = cT := by
    have h1 := (ok.k.2 t0 _ ht).2
    have h2 := (hK1.2 (gTl t).length (cA, ty) (by simp)).2
    cases ty with
    | object C => exact absurd rfl (hno C)
    | _ => exact Option.some.inj (h2.symm.trans h1)
  subst e
  have h := kk (va_up ad n q) (fun k hk => va_up_ne _ _ (by omega))
  rw [va_up_self] at h
  exact h H1 locs ls trivial (by rw [← wW_push]; exact hP1) (by rw [← wW_push]; exact hD1) hS1 hl
theorem zA_0 : zA (fun _ => 0) = fun _ => (0 : Int32) := by
  funext j
  exact iI_zero.symm
theorem a_ints (ok : gOk s0 a0 D t p R s m meth c A own cc nL ret mn fr lo mc ms) {z : Int} (N : Nat) (hz : z = N) (hN : N ≤ 100000) (harr : Cond.arrayClass .int ∈ lw_tbl) (hroom : cells + 1 ≤ mc ∧ slots + N ≤ ms) (hd : decode cc pc = .ok (.newarray .int, 2))
    (kk : ∀ ad' : Nat → Nat, (∀ k : Nat, k < n → ad' k = ad k) → gW p l e R s m args below meth c Q D A nL gZ (cells + 1) (slots + N) ad' (n + 1) (va_up ce n (zC t N (fun _ => 0))) (pc + 2) lv (.ref (ad' n) :: st)) : gW p l e R s m args below meth c Q D A nL Z cells slots ad n ce pc lv (.int (iI z) :: st) :=
  a_arr (atype := .int) (ty := .int) ok 0 rfl rfl (fun _ h => by cases h) (a1 := (N, .inl (zA (fun _ => 0)))) (fun cA => by rw [zA_0]; rfl) (by decide) hz hN harr hroom hd kk
theorem a_bools (ok : gOk s0 a0 D t p R s m meth c A own cc nL ret mn fr lo mc ms) {z : Int} (N : Nat) (hz : z = N) (hN : N ≤ 100000) (harr : Cond.arrayClass .boolean ∈ lw_tbl) (hroom : cells + 1 ≤ mc ∧ slots + N ≤ ms) (hd : decode cc pc = .ok (.newarray .boolean, 2))
    (kk : ∀ ad' : Nat → Nat, (∀ k : Nat, k < n → ad' k = ad k) → gW p l e R s m args below meth c Q D A nL gZ (cells + 1) (slots + N) ad' (n + 1) (va_up ce n (bC t N (fun _ => 0))) (pc + 2) lv (.ref (ad' n) :: st)) : gW p l e R s m args below meth c Q D A nL Z cells slots ad n ce pc lv (.int (iI z) :: st) :=
  a_arr (atype := .boolean) (ty := .boolean) ok 4 rfl rfl (fun _ h => by cases h) (a1 := (N, .inl (zA (fun _ => 0)))) (fun cA => by rw [zA_0]; rfl) (by decide) hz hN harr hroom hd kk
theorem a_longs (ok : gOk s0 a0 D t p R s m meth c A own cc nL ret mn fr lo mc ms) {z : Int} (N : Nat) (hz : z = N) (hN : N ≤ 100000) (harr : Cond.arrayClass .long ∈ lw_tbl) (hroom : cells + 1 ≤ mc ∧ slots + N ≤ ms) (hd : decode cc pc = .ok (.newarray .long, 2))
    (kk : ∀ ad' : Nat → Nat, (∀ k : Nat, k < n → ad' k = ad k) → gW p l e R s m args below meth c Q D A nL gZ (cells + 1) (slots + N) ad' (n + 1) (va_up ce n (jC t N (fun _ => 0))) (pc + 2) lv (.ref (ad' n) :: st)) : gW p l e R s m args below meth c Q D A nL Z cells slots ad n ce pc lv (.int (iI z) :: st) :=
  a_arr (atype := .long) (ty := .long) ok 1 rfl rfl (fun _ h => by cases h) (a1 := (N, .inr (.inl (fun j => Int64.ofInt 0)))) (fun cA => rfl) (by decide) hz hN harr hroom hd kk
/-- references: an array of N, all null -/
def qC (t : Nat → ClassId) (i N : Nat) (f : Nat → Option Nat) : va_E := .inl (t i, N, .inr (.inr (.inr (.inr f))))
theorem a_refs (ok : gOk s0 a0 D t p R s m meth c A own cc nL ret mn fr lo mc ms) {z : Int} (N : Nat) (t0 : Nat) {C : String} {index : Nat} (ht : (gTl t)[t0]? = some (t t0, .object C)) (hz : z = N) (hN : N ≤ 100000) (hcl : Cond.classLink own index C ∈ lw_tbl) (hover : Cond.arrayOver (.object C) ∈ lw_tbl) (hroom : cells + 1 ≤ mc ∧ slots + N ≤ ms) (hd : decode cc pc = .ok (.anewarray index, 3))
    (kk : ∀ ad' : Nat → Nat, (∀ k : Nat, k < n → ad' k = ad k) → gW p l e R s m args below meth c Q D A nL gZ (cells + 1) (slots + N) ad' (n + 1) (va_up ce n (qC t t0 N (fun _ => none))) (pc + 3) lv (.ref (ad' n) :: st)) : gW p l e R s m args below meth c Q D A nL Z cells slots ad n ce pc lv (.int (iI z) :: st) := by
  intro H locs ls hZ hP hD hS hl
  have hr := ok.r
  have hz0 : ¬ iI z < 0 := by rw [iI_zero, iI_lt (by omega) (by omega)]; omega
  have hcl2 : (iI z).toNatClampNeg = N := by rw [iI_clamp (by omega), hz]; simp
  refine va_newq ok.x ok.b ok.wn (ok.w hcl rfl) (va_AO.moved ok.warm.alike (va_AO.of (ok.g.1 _ hover))) ok.k hP hD hS ok.a hz0 hcl2 (by omega) (by omega) (by omega) hd (fun q cA H1 hK1 hP1 hD1 hS1 => ?_)
  have e : cA = t t0 := by
    obtain ⟨kA, comp, k1, k2, k3, k4⟩ := (ok.k.2 t0 _ ht).2
    obtain ⟨kB, comp2, j1, j2, j3, j4⟩ := (hK1.2 (gTl t).length (cA, .object C) (by simp)).2
    exact Option.some.inj (j4.symm.trans k4)
  subst e
  have h := kk (va_up ad n q) (fun k hk => va_up_ne _ _ (by omega))
  rw [va_up_self] at h
  exact h H1 locs ls trivial (by rw [← wW_push]; exact hP1) (by rw [← wW_push]; exact hD1) hS1 hl
theorem a_ast (ok : gOk s0 a0 D t p R s m meth c A own cc nL ret mn fr lo mc ms) {z : Int} (k j : Nat) (hk : k < n) (hj : j < n) {N t0 ci : Nat} {f : Nat → Option Nat} {r : vw_C} {vs : List Value} (he : ce k = qC t t0 N f) (hv : ce j = .inr (ci, vs)) (hc : vwCl[ci]? = some r) (ht : (gTl t)[t0]? = some (t t0, .object r.1)) (hN : N < 2147483648) (hz : 0 ≤ z ∧ z < N) (hd : decode cc pc = .ok (.aastore, 1))
    (kk : gW p l e R s m args below meth c Q D A nL gZ cells slots ad n (va_up ce k (qC t t0 N (va_up f z.toNat (some (ad j))))) (pc + 1) lv st) : gW p l e R s m args below meth c Q D A nL Z cells slots ad n ce pc lv (.ref (ad j) :: .int (iI z) :: .ref (ad k) :: st) := by
  intro H locs ls hZ hP hD hS hl
  refine va_astq ok.x ok.b ok.k hP hD hS k t0 j ci ((wW_get hk).trans (by rw [he]; rfl)) ht ((wW_get hj).trans (by rw [hv])) hc (iI_in hN hz) hd (fun H1 locs1 hP1 hD1 hS1 => ?_)
  rw [iI_clamp (by omega), wW_set] at hP1 hD1
  exact kk H1 locs1 ls trivial hP1 hD1 hS1 hl
end GA
