/-! the law's loop and its start -/
def lw_P (b : Addr) (xs : List Int32) (args : Array Value) (s : State) : Prop := args = #[.ref b] ∧ s.IntsAt b xs ∧ xs.length ≤ 2560 ∧ (Jvm.Cond.and given_1 narrow_1).before args s = true
def lw_Q (_ : Array Value) (s : State) (o : Outcome) (t : State) : Prop := o = .returned (some (.int 1)) ∧ Framed s o t [] 601024 7293034
def lw_Z (below : List Frame) (a : Array Value) (s : State) : State → Prop := fun t => ∃ o, t.status = .running ∧ Ended t below o ∧ lw_Q a s o t
/-- the law's own end, with 1 on the stack, nothing written that was there before, its room as the claim has it -/
theorem lw_ret {p : Program} {l : Launch} {e : Env} {s : State} {m : MethodId} {below : List Frame} {meth : Method} {c : Code} {b : Nat} (hx : p.tables.exec = Jvm.exec) (hb : c.code = code) (hr : meth.sig.returnType = ret) (hlocks : meth.locks = false) {pc : Nat} {H : Heap} {ls : Array Slot} (hdg : decode code pc = .ok (.ireturn, 1)) : W p l e room_1 s m #[Value.ref b] below meth c H [] 601024 7293034 (lw_Z below #[Value.ref b] s) (F0 m pc ls [.int 1]) := by
  intro T hT X
  obtain ⟨fs, hret, hrun, hended, hW, hframe⟩ := X.leave (v := some (.int 1)) (hlocks := hlocks) (fun h => by rw [hr] at h; cases h)
  have hmeth' : T.vm.method? m = some meth := X.method'
  refine ⟨T.setFrames fs, ?_, .returned (some (.int 1)), hrun, hended, rfl, ⟨_, rfl⟩, hW, hframe⟩
  jvm_step X.here [X.here.top, hx, hb, hdg, hmeth', hr, ret, narrow_b1]
  (try refine ⟨rfl, ?_⟩); (try refine ⟨rfl, ?_⟩)
  first | (intro acts; rw [hret _ acts rfl rfl rfl]) | rw [hret _ _ rfl rfl rfl]
  exact Steps.refl _
/-- what holds at the law's entry: the machine, the code, the tables' words (any of lw_tbl by 'hts w (by decide +kernel)'), the script of L ints xs at the cell b, what the Statement gives of the start (any of its parts by flat_of_before) -/
def lw_At (p : Program) (s : State) (m : MethodId) (meth : Method) (c : Code) (b L : Nat) (xs : Nat → Int32) : Prop :=
  p.tables.exec = Jvm.exec ∧ c.code = code ∧ meth.sig.returnType = ret ∧ c.maxLocals = 7 ∧ s.vm.findClass R_law = some m.cls ∧ (∀ w ∈ lw_tbl, w.before #[Value.ref b] s = true) ∧ va_X b L xs s s.heap ∧ b < s.heap.size ∧ meth.locks = false ∧ (Jvm.Cond.and given_1 narrow_1).before #[Value.ref b] s = true
/-- what every step wants of the invariant -/
def opsAll (Inv : (Nat → Nat → Int) → (Nat → Int → Int) → Prop) (F : Nat → Nat → Int) (G : Nat → Int → Int) : Prop := (∀ p1 p2 p3 p4 : Int, (-2147483648 ≤ p1 ∧ p1 < 2147483648) → (-2147483648 ≤ p2 ∧ p2 < 2147483648) → (-2147483648 ≤ p3 ∧ p3 < 2147483648) → (-2147483648 ≤ p4 ∧ p4 < 2147483648) → oq_begin Inv F G p1 p2 p3 p4) ∧ (∀ p1 p2 p3 : Int, (-2147483648 ≤ p1 ∧ p1 < 2147483648) → (-2147483648 ≤ p2 ∧ p2 < 2147483648) → (-2147483648 ≤ p3 ∧ p3 < 2147483648) → oq_corner Inv F G p1 p2 p3) ∧ (∀ p1 p2 p3 : Int, (-2147483648 ≤ p1 ∧ p1 < 2147483648) → (-2147483648 ≤ p2 ∧ p2 < 2147483648) → (-2147483648 ≤ p3 ∧ p3 < 2147483648) → oq_rail Inv F G p1 p2 p3) ∧ (oq_end Inv F G) ∧ (∀ p1 : Int, (-2147483648 ≤ p1 ∧ p1 < 2147483648) → oq_fault Inv F G p1) ∧ (∀ p1 p2 : Int, (-2147483648 ≤ p1 ∧ p1 < 2147483648) → (-2147483648 ≤ p2 ∧ p2 < 2147483648) → oq_shape Inv F G p1 p2) ∧ (∀ p1 : Int, (-2147483648 ≤ p1 ∧ p1 < 2147483648) → oq_count Inv F G p1) ∧ (oq_stitch Inv F G) ∧ (∀ p1 p2 : Int, (-2147483648 ≤ p1 ∧ p1 < 2147483648) → (-2147483648 ≤ p2 ∧ p2 < 2147483648) → oq_record Inv F G p1 p2) ∧ (∀ p1 : Int, (-2147483648 ≤ p1 ∧ p1 < 2147483648) → oq_byteAt Inv F G p1) ∧ (∀ p1 p2 : Int, (-2147483648 ≤ p1 ∧ p1 < 2147483648) → (-2147483648 ≤ p2 ∧ p2 < 2147483648) → oq_load Inv F G p1 p2) ∧ (oq_decode Inv F G) ∧ (oq_reorder Inv F G) ∧ (∀ p1 : Int, (-2147483648 ≤ p1 ∧ p1 < 2147483648) → oq_order Inv F G p1) ∧ (∀ p1 : Int, (-2147483648 ≤ p1 ∧ p1 < 2147483648) → oq_thread Inv F G p1) ∧ (∀ p1 p2 : Int, (-2147483648 ≤ p1 ∧ p1 < 2147483648) → (-2147483648 ≤ p2 ∧ p2 < 2147483648) → oq_under Inv F G p1 p2) ∧ (∀ p1 p2 : Int, (-2147483648 ≤ p1 ∧ p1 < 2147483648) → (-2147483648 ≤ p2 ∧ p2 < 2147483648) → oq_needle Inv F G p1 p2) ∧ (∀ p1 p2 : Int, (-2147483648 ≤ p1 ∧ p1 < 2147483648) → (-2147483648 ≤ p2 ∧ p2 < 2147483648) → oq_hoop Inv F G p1 p2) ∧ (∀ p1 : Int, (-2147483648 ≤ p1 ∧ p1 < 2147483648) → oq_stop Inv F G p1)
theorem iI_and31 (c : Int) : iI c &&& iI 31 = iI (c % 32) := by
  have e : iI c = iI (c % 4294967296) := by
    apply Int32.toBitVec_inj.mp
    show BitVec.ofInt 32 c = BitVec.ofInt 32 (c % 4294967296)
    apply BitVec.eq_of_toNat_eq
    rw [BitVec.toNat_ofInt, BitVec.toNat_ofInt]
    congr 1
    show c % 4294967296 = (c % 4294967296) % 4294967296
    omega
  rw [e, iI_andN (by omega) (by decide)]
  congr 1
  rw [show (31 : Int).toNat = 2 ^ 5 - 1 from rfl, Nat.and_two_pow_sub_one_eq_mod]
  omega
section LL
variable {D : va_G} {t : Nat → ClassId} {p : Program} {l : Launch} {e : Env} {s : State} {m : MethodId} {below : List Frame} {meth : Method} {c : Code} {mn : String} {ad : Nat → Nat} {b : Nat}
theorem law_end (ok : gOk s #[Value.ref b] D t p room_1 s m meth c (fun q : Nat => s.heap.size ≤ q) R_law code 7 ret mn 11 440 601024 7293034) {cells slots : Nat} (hc : cells ≤ 601024 ∧ slots ≤ 7293034) {F : Nat → Nat → Int} {G : Nat → Int → Int} {lv : List (Nat × Value)} : gW p l e room_1 s m #[Value.ref b] below meth c (lw_Z below #[Value.ref b] s) D (fun q : Nat => s.heap.size ≤ q) 7 gZ cells slots ad 265 (mem ad t F G) 1007 lv [] := by
  refine g_iconst ok d_law_1007 ?_
  intro H locs ls hZ hP hD hS hl
  exact va_forget (fun q hq => hS.2.2 q hq) (W.widen hc.1 hc.2 (lw_ret ok.x ok.b ok.rt ok.lk d_law_1008))
set_option maxHeartbeats 1000000 in
set_option maxRecDepth 100000 in
theorem law_loop {Inv : (Nat → Nat → Int) → (Nat → Int → Int) → Prop} (HI : ∀ F G, Inv F G → opsAll Inv F G) (ok : gOk s #[Value.ref b] D t p room_1 s m meth c (fun q : Nat => s.heap.size ≤ q) R_law code 7 ret mn 11 440 601024 7293034) (hlt : l.stackTraces = false) {L : Nat} {xs : Nat → Int32} (hX : va_X b L xs s s.heap) (hbl : b < s.heap.size) (hbA : ¬ (fun q : Nat => s.heap.size ≤ q) b) (hL : L ≤ 2560) : ∀ (d : Nat) (i : Int) (F : Nat → Nat → Int) (G : Nat → Int → Int) (cells slots : Nat), (0 ≤ i ∧ i ≤ L) → (L : Int) - i < 5 * (d : Int) → (cells + d ≤ 601024 ∧ slots + 6 * d ≤ 7293034) → Inv F G → gW p l e room_1 s m #[Value.ref b] below meth c (lw_Z below #[Value.ref b] s) D (fun q : Nat => s.heap.size ≤ q) 7 gZ cells slots ad 265 (mem ad t F G) 23 [(4, .int (iI i)), (3, .ref (ad 264)), (2, .ref (ad 244)), (1, .ref (ad 0)), (0, .ref b)] [] := by
  intro d
  induction d with
  | zero =>
    intro i F G cells slots hi h0 hr hI
    exact absurd h0 (by omega)
  | succ d ih =>
    intro i F G cells slots hi h0 hr hI
    refine g_iload ok d_law_23 0 rfl ?_
    refine g_aload_n ok d_law_25 rfl 4 rfl ?_
    refine g_slen ok hX hbl hbA d_law_26 ?_
    refine g_iconst ok d_law_27 ?_
    refine g_isub ok d_law_28 ?_
    refine g_icmp_gt ok 1007 d_law_29 (by decide) (by omega) (by omega) (fun _ => law_end ok (by omega)) (fun hg => ?_)
    obtain ⟨v0, r0, e0⟩ := iI_ex (xs i.toNat)
    obtain ⟨p1, r1, hx1⟩ := iI_ex (xs (i + 1).toNat)
    obtain ⟨p2, r2, hx2⟩ := iI_ex (xs (i + 2).toNat)
    obtain ⟨p3, r3, hx3⟩ := iI_ex (xs (i + 3).toNat)
    obtain ⟨p4, r4, hx4⟩ := iI_ex (xs (i + 4).toNat)
    refine g_aload_n ok d_law_32 rfl 4 rfl ?_
    refine g_iload ok d_law_33 0 rfl ?_
    refine g_sld (v := v0) ok hX hbl hbA (by omega) (by omega) e0 d_law_35 ?_
    refine g_bipush ok (by decide) d_law_36 ?_
    refine g_iand (z := v0 % 32) ok (iI_and31 _) d_law_38 ?_
    have kk : ∀ (F2 : Nat → Nat → Int) (G2 : Nat → Int → Int), Inv F2 G2 → gW p l e room_1 s m #[Value.ref b] below meth c (lw_Z below #[Value.ref b] s) D (fun q : Nat => s.heap.size ≤ q) 7 gZ (cells + 1) (slots + 6) ad 265 (mem ad t F2 G2) 1001 [(4, .int (iI i)), (3, .ref (ad 264)), (2, .ref (ad 244)), (1, .ref (ad 0)), (0, .ref b)] [] := by
      intro F2 G2 hI2
      refine g_iinc (lv' := [(4, .int (iI (i + 5))), (3, .ref (ad 264)), (2, .ref (ad 244)), (1, .ref (ad 0)), (0, .ref b)]) ok d_law_1001 0 rfl (by decide) rfl ?_
      refine g_goto ok 23 d_law_1004 (by decide) ?_
      exact ih (i + 5) F2 G2 (cells + 1) (slots + 6) (by omega) (by omega) (by omega) hI2
    obtain ⟨q_begin, q_corner, q_rail, q_end, q_fault, q_shape, q_count, q_stitch, q_record, q_byteAt, q_load, q_decode, q_reorder, q_order, q_thread, q_under, q_needle, q_hoop, q_stop⟩ := HI F G hI
    rcases (show v0 % 32 = 0 ∨ v0 % 32 = 1 ∨ v0 % 32 = 2 ∨ v0 % 32 = 3 ∨ v0 % 32 = 4 ∨ v0 % 32 = 5 ∨ v0 % 32 = 6 ∨ v0 % 32 = 7 ∨ v0 % 32 = 8 ∨ v0 % 32 = 9 ∨ v0 % 32 = 10 ∨ v0 % 32 = 11 ∨ v0 % 32 = 12 ∨ v0 % 32 = 13 ∨ v0 % 32 = 14 ∨ v0 % 32 = 15 ∨ v0 % 32 = 16 ∨ v0 % 32 = 17 ∨ v0 % 32 = 18 ∨ (v0 % 32 < 0 ∨ 18 < v0 % 32) by omega) with h | h | h | h | h | h | h | h | h | h | h | h | h | h | h | h | h | h | h | h
    · refine g_tabIn ok (by omega) d_law_39 (by omega) (off := 89) (by rw [h]; rfl) 128 (by decide) ?_
      exact s_begin ok hlt hX hbl hbA hL (by omega) hx1 hx2 hx3 hx4 (by omega) (q_begin p1 p2 p3 p4 r1 r2 r3 r4) kk
    · refine g_tabIn ok (by omega) d_law_39 (by omega) (off := 161) (by rw [h]; rfl) 200 (by decide) ?_
      exact s_corner ok hlt hX hbl hbA hL (by omega) hx1 hx2 hx3 hx4 (by omega) (q_corner p1 p2 p3 r1 r2 r3) kk
    · refine g_tabIn ok (by omega) d_law_39 (by omega) (off := 241) (by rw [h]; rfl) 280 (by decide) ?_
      exact s_rail ok hlt hX hbl hbA hL (by omega) hx1 hx2 hx3 hx4 (by omega) (q_rail p1 p2 p3 r1 r2 r3) kk
    · refine g_tabIn ok (by omega) d_law_39 (by omega) (off := 321) (by rw [h]; rfl) 360 (by decide) ?_
      exact s_end ok hlt hX hbl hbA hL (by omega) hx1 hx2 hx3 hx4 (by omega) (q_end) kk
    · refine g_tabIn ok (by omega) d_law_39 (by omega) (off := 365) (by rw [h]; rfl) 404 (by decide) ?_
      exact s_fault ok hlt hX hbl hbA hL (by omega) hx1 hx2 hx3 hx4 (by omega) (q_fault p1 r1) kk
    · refine g_tabIn ok (by omega) d_law_39 (by omega) (off := 390) (by rw [h]; rfl) 429 (by decide) ?_
      exact s_shape ok hlt hX hbl hbA hL (by omega) hx1 hx2 hx3 hx4 (by omega) (q_shape p1 p2 r1 r2) kk
    · refine g_tabIn ok (by omega) d_law_39 (by omega) (off := 458) (by rw [h]; rfl) 497 (by decide) ?_
      exact s_count ok hlt hX hbl hbA hL (by omega) hx1 hx2 hx3 hx4 (by omega) (q_count p1 r1) kk
    · refine g_tabIn ok (by omega) d_law_39 (by omega) (off := 483) (by rw [h]; rfl) 522 (by decide) ?_
      exact s_stitch ok hlt hX hbl hbA hL (by omega) hx1 hx2 hx3 hx4 (by omega) (q_stitch) kk
    · refine g_tabIn ok (by omega) d_law_39 (by omega) (off := 496) (by rw [h]; rfl) 535 (by decide) ?_
      exact s_record ok hlt hX hbl hbA hL (by omega) hx1 hx2 hx3 hx4 (by omega) (q_record p1 p2 r1 r2) kk
    · refine g_tabIn ok (by omega) d_law_39 (by omega) (off := 564) (by rw [h]; rfl) 603 (by decide) ?_
      exact s_byteAt ok hlt hX hbl hbA hL (by omega) hx1 hx2 hx3 hx4 (by omega) (q_byteAt p1 r1) kk
    · refine g_tabIn ok (by omega) d_law_39 (by omega) (off := 620) (by rw [h]; rfl) 659 (by decide) ?_
      exact s_load ok hlt hX hbl hbA hL (by omega) hx1 hx2 hx3 hx4 (by omega) (q_load p1 p2 r1 r2) kk
    · refine g_tabIn ok (by omega) d_law_39 (by omega) (off := 688) (by rw [h]; rfl) 727 (by decide) ?_
      exact s_decode ok hlt hX hbl hbA hL (by omega) hx1 hx2 hx3 hx4 (by omega) (q_decode) kk
    · refine g_tabIn ok (by omega) d_law_39 (by omega) (off := 701) (by rw [h]; rfl) 740 (by decide) ?_
      exact s_reorder ok hlt hX hbl hbA hL (by omega) hx1 hx2 hx3 hx4 (by omega) (q_reorder) kk
    · refine g_tabIn ok (by omega) d_law_39 (by omega) (off := 714) (by rw [h]; rfl) 753 (by decide) ?_
      exact s_order ok hlt hX hbl hbA hL (by omega) hx1 hx2 hx3 hx4 (by omega) (q_order p1 r1) kk
    · refine g_tabIn ok (by omega) d_law_39 (by omega) (off := 739) (by rw [h]; rfl) 778 (by decide) ?_
      exact s_thread ok hlt hX hbl hbA hL (by omega) hx1 hx2 hx3 hx4 (by omega) (q_thread p1 r1) kk
    · refine g_tabIn ok (by omega) d_law_39 (by omega) (off := 764) (by rw [h]; rfl) 803 (by decide) ?_
      exact s_under ok hlt hX hbl hbA hL (by omega) hx1 hx2 hx3 hx4 (by omega) (q_under p1 p2 r1 r2) kk
    · refine g_tabIn ok (by omega) d_law_39 (by omega) (off := 832) (by rw [h]; rfl) 871 (by decide) ?_
      exact s_needle ok hlt hX hbl hbA hL (by omega) hx1 hx2 hx3 hx4 (by omega) (q_needle p1 p2 r1 r2) kk
    · refine g_tabIn ok (by omega) d_law_39 (by omega) (off := 900) (by rw [h]; rfl) 939 (by decide) ?_
      exact s_hoop ok hlt hX hbl hbA hL (by omega) hx1 hx2 hx3 hx4 (by omega) (q_hoop p1 p2 r1 r2) kk
    · refine g_tabIn ok (by omega) d_law_39 (by omega) (off := 937) (by rw [h]; rfl) 976 (by decide) ?_
      exact s_stop ok hlt hX hbl hbA hL (by omega) hx1 hx2 hx3 hx4 (by omega) (q_stop p1 r1) kk
    · refine g_tabOut ok (by omega) d_law_39 (by omega) 1001 (by decide) ?_
      refine g_widen (k := cells + 1) (j := slots + 6) (by omega) (by omega) ?_
      exact kk F G hI
end LL
set_option maxHeartbeats 1000000 in
set_option maxRecDepth 100000 in
theorem law_K {s : State} {a0 : Array Value} (hts : ∀ w ∈ lw_tbl, w.before a0 s = true) : ∃ (D : va_G) (t : Nat → ClassId), va_K D vwCl (gTl t) s := by
  obtain ⟨c0, i0, h0⟩ := u_known (C := R_Dk) (T := T_Dk) (N := 11) (n := 11) (fun w hw => hts w (List.mem_filter.mp hw).1) in_Dk (hts _ k_23)
  obtain ⟨c1, i1, h1⟩ := u_known (C := R_Sh) (T := T_Sh) (N := 11) (n := 11) (fun w hw => hts w (List.mem_filter.mp hw).1) in_Sh (hts _ k_32)
  obtain ⟨c2, i2, h2⟩ := u_known (C := R_Rg) (T := T_Rg) (N := 3) (n := 3) (fun w hw => hts w (List.mem_filter.mp hw).1) in_Rg (hts _ k_39)
  obtain ⟨c3, i3, h3⟩ := u_known (C := R_Ty) (T := T_Ty) (N := 2) (n := 2) (fun w hw => hts w (List.mem_filter.mp hw).1) in_Ty (hts _ k_69)
  obtain ⟨c4, i4, h4⟩ := u_known (C := R_In) (T := T_In) (N := 9) (n := 9) (fun w hw => hts w (List.mem_filter.mp hw).1) in_In (hts _ k_149)
  obtain ⟨c5, i5, h5⟩ := u_known (C := R_Rt) (T := T_Rt) (N := 1) (n := 1) (fun w hw => hts w (List.mem_filter.mp hw).1) in_Rt (hts _ k_186)
  obtain ⟨c6, i6, h6⟩ := u_known (C := R_Hl) (T := T_Hl) (N := 13) (n := 13) (fun w hw => hts w (List.mem_filter.mp hw).1) in_Hl (hts _ k_192)
  obtain ⟨c7, i7, h7⟩ := u_known (C := R_Pm) (T := T_Pm) (N := 7) (n := 7) (fun w hw => hts w (List.mem_filter.mp hw).1) in_Pm (hts _ k_245)
  obtain ⟨c8, i8, h8⟩ := u_known (C := R_Pa) (T := T_Pa) (N := 3) (n := 3) (fun w hw => hts w (List.mem_filter.mp hw).1) in_Pa (hts _ k_251)
  obtain ⟨c9, i9, h9⟩ := u_known (C := R_Pl) (T := T_Pl) (N := 6) (n := 6) (fun w hw => hts w (List.mem_filter.mp hw).1) in_Pl (hts _ k_293)
  obtain ⟨c10, i10, h10⟩ := u_known (C := R_Mo) (T := T_Mo) (N := 34) (n := 34) (fun w hw => hts w (List.mem_filter.mp hw).1) in_Mo (hts _ k_984)
  obtain ⟨aI, kI, mI, fI, gI, jI⟩ := Cond.arrayClass_spec (hts _ k_67)
  obtain ⟨aJ, kJ, mJ, fJ, gJ, jJ⟩ := Cond.arrayClass_spec (hts _ k_1322)
  obtain ⟨aZ, kZ, mZ, fZ, gZ, jZ⟩ := Cond.arrayClass_spec (hts _ k_1092)
  obtain ⟨mR, aR, kR, nR, -, gR, jR, fR⟩ := Cond.arrayOver_spec (hts _ k_38)
  obtain ⟨mS, aS, kS, nS, -, gS, jS, fS⟩ := Cond.arrayOver_spec (hts _ k_31)
  refine ⟨(fun k => [c0, c1, c2, c3, c4, c5, c6, c7, c8, c9, c10].getD k 0, fun k => [i0, i1, i2, i3, i4, i5, i6, i7, i8, i9, i10].getD k i0), fun k => [aI, aJ, aR, aS, aZ].getD k 0, fun k q hq => ?_, fun k q hq => ?_⟩
  · match k, hq with
    | 0, hq => cases hq; exact h0
    | 1, hq => cases hq; exact h1
    | 2, hq => cases hq; exact h2
    | 3, hq => cases hq; exact h3
    | 4, hq => cases hq; exact h4
    | 5, hq => cases hq; exact h5
    | 6, hq => cases hq; exact h6
    | 7, hq => cases hq; exact h7
    | 8, hq => cases hq; exact h8
    | 9, hq => cases hq; exact h9
    | 10, hq => cases hq; exact h10
    | k + 11, hq => simp [vwCl] at hq
  · match k, hq with
    | 0, hq => cases hq; exact ⟨fun N z => ⟨(fun k h => by cases h), kI, gI, mI, jI⟩, fI⟩
    | 1, hq => cases hq; exact ⟨fun N z => ⟨(fun k h => by cases h), kJ, gJ, mJ, jJ⟩, fJ⟩
    | 2, hq => cases hq; exact ⟨fun N z => ⟨(fun k h => by cases h), kR, gR, mR, jR⟩, kR, mR, gR, jR, nR, fR⟩
    | 3, hq => cases hq; exact ⟨fun N z => ⟨(fun k h => by cases h), kS, gS, mS, jS⟩, kS, mS, gS, jS, nS, fS⟩
    | 4, hq => cases hq; exact ⟨fun N z => ⟨(fun k h => by cases h), kZ, gZ, mZ, jZ⟩, fZ⟩
    | k + 5, hq => simp [gTl] at hq
set_option maxHeartbeats 1000000 in
set_option maxRecDepth 100000 in
theorem whole_start0 {Inv : (Nat → Nat → Int) → (Nat → Int → Int) → Prop} (HI : ∀ F G, Inv F G → opsAll Inv F G) (h0 : Inv fI0 gI0) {p : Program} {e : Env} {s : State} {m : MethodId} {below : List Frame} {meth : Method} {c : Code} (l : Launch) (hlt : l.stackTraces = false) {b L : Nat} {xs : Nat → Int32} (hL : L ≤ 2560) (C0 : lw_At p s m meth c b L xs) : W p l e room_1 s m #[Value.ref b] below meth c s.heap [] 0 0 (lw_Z below #[Value.ref b] s) (entryFrame m ([Value.ref b] : List Value).toArray 7) := by
  obtain ⟨hx, hb, hr, hml, hown, hts, hX, hbl, hlocks, hgv⟩ := id C0
  obtain ⟨D, t, hK⟩ := law_K hts
  have hnw : narrow_1.before #[Value.ref b] s = true := by
    rw [Cond.before_and, Bool.and_eq_true] at hgv
    exact hgv.2
  have ok : gOk s #[Value.ref b] D t p room_1 s m meth c (fun q : Nat => s.heap.size ≤ q) R_law code 7 ret meth.name 11 440 601024 7293034 := ⟨hx, hb, hml, hown, State.WarmedH.refl _, ⟨hts, hK, hnw⟩, fun q h => h, ⟨Nat.le_refl _, fun _ _ => rfl, fun q h => h⟩, ⟨Nat.le_refl _, Nat.le_refl _, Nat.le_refl _, Nat.le_refl _⟩, hlocks, hr, rfl⟩
  have K : gW p l e room_1 s m #[Value.ref b] below meth c (lw_Z below #[Value.ref b] s) D (fun q : Nat => s.heap.size ≤ q) 7 (gZ0 s) 0 0 (adB s) 0 (mI0 s t) 0 [(0, .ref b)] [] := by
    refine b_new (N := 11) ok (by omega) in_Dk cl_Dk ty_Dk ok_Dk k_22 k_23 k_1 [.null, .null, .null, .null, .null, .null, .null, .null, .int (iI 0), .int (iI 0), .int (iI 0)] (by decide +kernel) (by decide) d_law_0 ?_
    refine g_dup ok d_law_3 rfl ?_
    refine g_callKJ (As := []) ok 0 (k_Dk_init s #[Value.ref b] D t (mI0 s t)) (by omega) k_26 k_1 k_24 k_25 rfl q_Dk_init (by decide) (Nat.le_of_ble_eq_true rfl) (by decide) d_law_4 ?_
    refine g_astore_n (lv' := [(1, .ref (adB s 0)), (0, .ref b)]) ok d_law_7 rfl (by decide) rfl ?_
    refine b_new (N := 34) ok (by omega) in_Mo cl_Mo ty_Mo ok_Mo k_983 k_984 k_11 [.int (iI 0), .int (iI 0), .int (iI 0), .null, .null, .null, .null, .null, .null, .int (iI 0), .int (iI 0), .int (iI 0), .int (iI 0), .null, .null, .null, .null, .null, .null, .null, .int (iI 0), .null, .null, .null, .int (iI 0), .int (iI 0), .int (iI 0), .int (iI 0), .int (iI 0), .int (iI 0), .int (iI 0), .null, .null, .null] (by decide +kernel) (by decide) d_law_8 ?_
    refine g_dup ok d_law_11 rfl ?_
    refine g_callKJ (As := []) ok 244 (k_Mo_init s #[Value.ref b] D t (mI0 s t) 244) (by omega) k_987 k_11 k_985 k_986 rfl q_Mo_init (by decide) (Nat.le_of_ble_eq_true rfl) (by decide) d_law_12 ?_
    refine b_cong (ce' := mI0 s t) (fun k hk => vEq.rf ?_) ?_
    · have hk2 : k < 264 := hk
      rcases (show k = 244 ∨ k = 245 ∨ k = 246 ∨ k = 247 ∨ k = 248 ∨ k = 249 ∨ k = 250 ∨ k = 251 ∨ k = 252 ∨ k = 253 ∨ k = 254 ∨ k = 255 ∨ k = 256 ∨ k = 257 ∨ k = 258 ∨ k = 259 ∨ k = 260 ∨ k = 261 ∨ k = 262 ∨ k = 263 ∨ k < 244 by omega) with h | h | h | h | h | h | h | h | h | h | h | h | h | h | h | h | h | h | h | h | h
      · subst h
        rfl
      · subst h
        rfl
      · subst h
        rfl
      · subst h
        rfl
      · subst h
        rfl
      · subst h
        rfl
      · subst h
        rfl
      · subst h
        rfl
      · subst h
        rfl
      · subst h
        rfl
      · subst h
        rfl
      · subst h
        rfl
      · subst h
        rfl
      · subst h
        rfl
      · subst h
        rfl
      · subst h
        rfl
      · subst h
        rfl
      · subst h
        rfl
      · subst h
        rfl
      · subst h
        rfl
      · rw [va_up_ne _ _ (by omega), va_up_ne _ _ (by omega), va_up_ne _ _ (by omega), va_up_ne _ _ (by omega), va_up_ne _ _ (by omega), va_up_ne _ _ (by omega), va_up_ne _ _ (by omega), va_up_ne _ _ (by omega), va_up_ne _ _ (by omega), va_up_ne _ _ (by omega), va_up_ne _ _ (by omega), va_up_ne _ _ (by omega), va_up_ne _ _ (by omega), va_up_ne _ _ (by omega), va_up_ne _ _ (by omega), va_up_ne _ _ (by omega), va_up_ne _ _ (by omega), va_up_ne _ _ (by omega), va_up_ne _ _ (by omega), va_up_ne _ _ (by omega)]
    refine g_astore_n (lv' := [(2, .ref (adB s 244)), (1, .ref (adB s 0)), (0, .ref b)]) ok d_law_15 rfl (by decide) rfl ?_
    refine g_iconst ok d_law_16 ?_
    refine a_longs ok 1 rfl (by decide) k_1322 (by decide) d_law_17 (b_grow ok (by omega) ?_)
    refine b_cong (ce' := mI0 s t) (fun k hk => vEq.rf ?_) ?_
    · have hk2 : k < 265 := hk
      rcases (show k = 264 ∨ k < 264 by omega) with h | h
      · subst h
        rfl
      · show va_up _ 264 _ k = _
        rw [va_up_ne _ _ (by omega)]
    refine g_astore_n (lv' := [(3, .ref (adB s 264)), (2, .ref (adB s 244)), (1, .ref (adB s 0)), (0, .ref b)]) ok d_law_19 rfl (by decide) rfl ?_
    refine g_iconst ok d_law_20 ?_
    refine g_istore (lv' := [(4, .int (iI 0)), (3, .ref (adB s 264)), (2, .ref (adB s 244)), (1, .ref (adB s 0)), (0, .ref b)]) ok d_law_21 (by decide) rfl ?_
    exact law_loop HI ok hlt hX hbl (Nat.not_le.mpr hbl) hL 513 0 fI0 gI0 _ _ (by omega) (by omega) (by decide) h0
  have hl := lv_entry ([Value.ref b] : List Value) (n := 7) (Nat.le_of_ble_eq_true rfl)
  rw [lg_entry_eq]
  exact K s.heap [] _ ⟨rfl, rfl⟩ (fun k q h => by simp [wW] at h) ⟨fun i j x y h => by simp [wW] at h, fun k q h => by simp [wW] at h⟩ va_S.rf hl
