/-! runs as a list of events; calls through RunTaker -/
abbrev Ev := Int × Int × Bool
noncomputable def stE (has : Int → Int → Prop) (col : Int) (p : PS × Bool) (e : Ev) : PS × Bool := (tkS has col e.1 e.2.1 e.2.2 p.2 p.1, false)
noncomputable def runF (has : Int → Int → Prop) (col : Int) (E : List Ev) (s : PS) : PS × Bool := E.foldl (stE has col) (s, true)
theorem runF_snoc (has : Int → Int → Prop) (col : Int) (E : List Ev) (s : PS) (e : Ev) : runF has col (E ++ [e]) s = stE has col (runF has col E s) e := by
  unfold runF
  rw [List.foldl_append]
  rfl
def nf (E : List Ev) : Int := E.foldl (fun n e => n + b2 e.2.2) 0
theorem nf_snoc (E : List Ev) (e : Ev) : nf (E ++ [e]) = nf E + b2 e.2.2 := by
  unfold nf
  rw [List.foldl_append]
  rfl
theorem len_snoc (E : List Ev) (e : Ev) : ((E ++ [e]).length : Int) = (E.length : Int) + 1 := by
  rw [List.length_append]
  simp
section GF
variable {s0 : State} {a0 : Array Value} {D : va_G} {t : Nat → ClassId} {p : Program} {l : Launch} {e : Env} {R : Room} {s : State} {m : MethodId} {args : Array Value} {below : List Frame} {meth : Method} {c : Code} {Q : State → Prop} {Z : Heap → List Loc → Prop} {A : Nat → Prop} {own : String} {cc : ByteArray} {nL : Nat} {ret : Option FieldType} {mn : String} {fr lo mc ms : Nat} {cells slots : Nat} {ad : Nat → Nat} {n : Nat} {ce : Nat → va_E} {pc : Nat} {lv lv' : List (Nat × Value)} {st : List Value}
theorem g_cf (ok : gOk s0 a0 D t p R s m meth c A own cc nL ret mn fr lo mc ms) {x y : MethodName} {cy : ByteArray} {mL : Nat} {rt : Option FieldType} {C : String} {fr' lo' mc' ms' index k : Nat} (hcode : Cond.code y cy mL rt ∈ lw_tbl) (hini : Cond.initialized y.cls ∈ lw_tbl) (hlink : Cond.methodLink own index x ∈ lw_tbl) (hdecl : Cond.declares x ∈ lw_tbl) (hface : Cond.interfaceMethod x.cls x.cls x.name x.desc ∈ lw_tbl) (hsel : Cond.selects C x y ∈ lw_tbl) (hk : Cond.instanceMethod y ∈ lw_tbl) (hpub : Cond.publicMethod y ∈ lw_tbl) (hunh : Cond.unhidden C x.name x.desc ∈ lw_tbl) (hcast : Cond.castable C x.cls ∈ lw_tbl)
    (hd : x.cls ≠ "java/lang/invoke/MethodHandle" ∧ x.cls ≠ "java/lang/invoke/VarHandle" ∧ (parseMethodDescriptor x.desc).map (fun d => d.parameters.length) = some k) (hR : fr' + 1 ≤ fr ∧ 8 + (mL + 11) + lo' ≤ lo) : va_CI R s args own C index x y cy mL rt [.code y cy mL rt] (gRm fr' lo' mc' ms') mc' ms' k := by
  have hF : va_Fw C x y s := va_Fw.moved ⟨hd.1, hd.2.1⟩ ok.warm.alike (va_Fw.of (ok.g.1 _ hdecl) (ok.g.1 _ hface) (ok.g.1 _ hpub) (ok.g.1 _ hunh) (ok.g.1 _ hcast))
  refine ⟨⟨rfl, rfl, Nat.le_trans hR.1 ok.r.1, Nat.le_trans hR.2 ok.r.2.1, fun w hw a' U hW => ?_, List.mem_singleton.mpr rfl⟩, ok.w hlink rfl, va_any rfl hF.1, va_any rfl hF.2.1, ok.w hsel rfl, ok.w hk rfl, va_any rfl hF.2.2.1, va_any rfl hF.2.2.2.1, va_any rfl hF.2.2.2.2, ok.w hini rfl, ok.w hcode rfl, ⟨hd.1, hd.2.1⟩, fun sig h => ?_⟩
  · rw [List.mem_singleton.mp hw]
    exact word_at hW (Or.inl rfl) (ok.w (args := args) hcode rfl)
  · have h2 := hd.2.2
    rw [h] at h2
    exact (Option.some.inj h2).symm
theorem g_callVF (ok : gOk s0 a0 D t p R s m meth c A own cc nL ret mn fr lo mc ms) (k : Nat) {x y : MethodName} {cy : ByteArray} {mL : Nat} {rt : Option FieldType} {fr' lo' index count : Nat} {As : List Value} {post : (Nat → va_E) → Prop} (hM : gV s0 a0 D t y cy mL rt fr' lo' ad n ce (.ref (ad k) :: As) post) (hcode : Cond.code y cy mL rt ∈ lw_tbl) (hini : Cond.initialized y.cls ∈ lw_tbl) (hlink : Cond.methodLink own index x ∈ lw_tbl) {ci : Nat} {q0 : vw_C} {fs : List Value} (hc : vwCl[ci]? = some q0) (hkn : k < n) (he : ce k = .inr (ci, fs)) (hdecl : Cond.declares x ∈ lw_tbl) (hface : Cond.interfaceMethod x.cls x.cls x.name x.desc ∈ lw_tbl) (hsel : Cond.selects q0.1 x y ∈ lw_tbl) (hk : Cond.instanceMethod y ∈ lw_tbl) (hpub : Cond.publicMethod y ∈ lw_tbl) (hunh : Cond.unhidden q0.1 x.name x.desc ∈ lw_tbl) (hcast : Cond.castable q0.1 x.cls ∈ lw_tbl)
    (hq : x.cls ≠ "java/lang/invoke/MethodHandle" ∧ x.cls ≠ "java/lang/invoke/VarHandle" ∧ (parseMethodDescriptor x.desc).map (fun d => d.parameters.length) = some As.length) (hR : fr' + 1 ≤ fr ∧ 8 + (mL + 11) + lo' ≤ lo) (hst : (st.map fun v => v.category).sum ≤ 8) (hroom : cells ≤ mc ∧ slots ≤ ms) (hd : decode cc pc = .ok (.invokeinterface index count, 5)) (kk : ∀ (ce' : Nat → va_E), post ce' → gW p l e R s m args below meth c Q D A nL gZ cells slots ad n ce' (pc + 5) lv st) : gW p l e R s m args below meth c Q D A nL Z cells slots ad n ce pc lv (As.reverse ++ .ref (ad k) :: st) := by
  intro H locs ls hZ hP hD hS hl
  refine va_callFv (va_runF (As := As) (rest := st) (b := ad k) (ok.k.1 ci q0 hc).2 ⟨ok.x, ok.b, ok.ml, ok.wn, ok.ts (args := args)⟩ (hM ok.g l H.size) (g_cf ok hcode hini hlink hdecl hface hsel hk hpub hunh hcast hq hR) ⟨gPc_blind, va_recv ok.k hP hc ((wW_get hkn).trans (by rw [he])), g_pre ok hP hD hS⟩ rfl rfl hl.1 rfl (lv_room hst) hd ⟨Nat.le_trans hroom.1 ok.r.2.2.1, Nat.le_trans hroom.2 ok.r.2.2.2⟩) hS (fun q _ h => g_free ok hD hS q h) (g_free ok hD hS) (fun u x H1 locs1 hx1 hvm hw hB hz1 hk1 hS1 => ?_)
  exact kk u hw H1 locs1 ls trivial (by rw [← hx1]; exact hB.1) (hB.2.weaken (fun _ q _ h => g_free ok hD hS q.1 h)) hS1 hl
theorem pI_Pm_shape (ok : gOk s0 a0 D t p R s m meth c A own cc nL ret mn fr lo mc ms) (k : Nat) (hK : isPm k) {F : Nat → Nat → Int} {G : Nat → Int → Int} {index : Nat} (hl0 : Cond.fieldLink own index "StitchDesk$PathMaker" "shape" "LStitchDesk$Shape;" ∈ lw_tbl) {v : Int} {q : Nat} (hv : 0 ≤ v) (hq : q = 2 + 22 * v.toNat) (hd : decode cc pc = .ok (.putfield index, 3)) (kk : gW p l e R s m args below meth c Q D A nL gZ cells slots ad 265 (mem ad t (fU F k 1 v) G) (pc + 3) lv st) : gW p l e R s m args below meth c Q D A nL Z cells slots ad 265 (mem ad t F G) pc lv (.ref (ad q) :: .ref (ad k) :: st) := by
  refine g_put ok in_Pm cl_Pm k (m_Pm (ad := ad) (t := t) (F := F) (G := G) hK).1 (m_Pm hK).2 1 (by decide) ty_Pm ok_Pm nm_Pm rfl hl0 rfl rfl rfl (Nat.le_of_ble_eq_true rfl) hd ?_
  rw [mem_put (v := v) (j := 1) (by rw [(m_Pm hK).2]; simp [f_Pm, fU]; rw [pm_ref hv hq])]
  exact kk
end GF
/-- the frame of a taker at q: the maker changes itself and the path, a tally itself; the line of the teller is free -/
def tkF (q : Nat) (F F1 : Nat → Nat → Int) : Prop := ∀ a b, a ≠ 231 → (q = 235 → ¬ (a = 235 ∧ 2 ≤ b) ∧ a ≠ 236) → (q ≠ 235 → a ≠ q) → F1 a b = F a b
def tkG (q : Nat) (G G1 : Nat → Int → Int) : Prop := ∀ a, ¬ (232 ≤ a ∧ a ≤ 234) → (q = 235 → a ≠ 237) → G1 a = G a
/-- where a taker lies: the tally of the shape at k, or the maker that is at this shape -/
def tkAt (q k : Nat) (F : Nat → Nat → Int) (G : Nat → Int → Int) : Prop := shOk F G k ∧ (q = k + 21 ∨ (q = 235 ∧ 0 ≤ F 235 1 ∧ k = 2 + 22 * (F 235 1).toNat))
/-- the taker has taken the events E; a run has been begun or not -/
def tkR (q k : Nat) (F : Nat → Nat → Int) (G : Nat → Int → Int) (s : PS) (F1 : Nat → Nat → Int) (G1 : Nat → Int → Int) (E : List Ev) (pd : Bool) : Prop :=
  (q = 235 → mkR F1 G1 (runF (hasC F G k) (F k 3) E s).1 (runF (hasC F G k) (F k 3) E s).2 pd ∧ (F1 235 6 = 0 ∨ F1 235 6 = 1)) ∧ (q ≠ 235 → F1 q 0 = F q 0 + nf E + b2 pd ∧ F1 q 1 = F q 1 + (E.length : Int)) ∧ tkF q F F1 ∧ tkG q G G1
/-- the teller's line stays as it is -/
def tkL (F : Nat → Nat → Int) (G : Nat → Int → Int) (F1 : Nat → Nat → Int) (G1 : Nat → Int → Int) : Prop := (∀ b, F1 231 b = F 231 b) ∧ ∀ a, 232 ≤ a → a ≤ 234 → G1 a = G a
theorem tkL_tr {F F1 F2 : Nat → Nat → Int} {G G1 G2 : Nat → Int → Int} (h : tkL F G F1 G1) (h2 : tkL F1 G1 F2 G2) : tkL F G F2 G2 := ⟨fun b => (h2.1 b).trans (h.1 b), fun a q1 q2 => (h2.2 a q1 q2).trans (h.2 a q1 q2)⟩
theorem tkF_tr {q : Nat} {F F1 F2 : Nat → Nat → Int} (h : tkF q F F1) (h2 : tkF q F1 F2) : tkF q F F2 := fun a b q1 q2 q3 => (h2 a b q1 q2 q3).trans (h a b q1 q2 q3)
theorem tkG_tr {q : Nat} {G G1 G2 : Nat → Int → Int} (h : tkG q G G1) (h2 : tkG q G1 G2) : tkG q G G2 := fun a q1 q2 => (h2 a q1 q2).trans (h a q1 q2)
theorem tkAt_F {q k : Nat} {F F1 : Nat → Nat → Int} {G : Nat → Int → Int} (h : tkAt q k F G) (hf : tkF q F F1) (a b : Nat) (h1 : k ≤ a) (h2 : a < k + 21) : F1 a b = F a b := by
  obtain ⟨⟨hK, -⟩, h⟩ := h
  unfold isSh at hK
  exact hf a b (by omega) (fun _ => by omega) (fun _ => by omega)
theorem tkAt_G {q k : Nat} {F : Nat → Nat → Int} {G G1 : Nat → Int → Int} (h : tkAt q k F G) (hg : tkG q G G1) (a : Nat) (h1 : k ≤ a) (h2 : a < k + 21) : G1 a = G a := by
  obtain ⟨⟨hK, -⟩, -⟩ := h
  unfold isSh at hK
  exact hg a (by omega) (fun _ => by omega)
theorem tkAt_1 {q k : Nat} {F F1 : Nat → Nat → Int} {G G1 : Nat → Int → Int} (h : tkAt q k F G) (hf : tkF q F F1) (hg : tkG q G G1) : tkAt q k F1 G1 := by
  refine ⟨shOk_cong h.1 (tkAt_F h hf) (tkAt_G h hg), ?_⟩
  rcases h.2 with c | ⟨c1, c2, c3⟩
  · exact Or.inl c
  · have e : F1 235 1 = F 235 1 := hf 235 1 (by omega) (fun _ => by omega) (fun z => absurd c1 z)
    rw [e]
    exact Or.inr ⟨c1, c2, c3⟩
theorem tkR_hl {q k : Nat} {F F1 F2 : Nat → Nat → Int} {G G1 G2 : Nat → Int → Int} {s : PS} {E : List Ev} {pd : Bool} (hA : tkAt q k F G) (h : tkR q k F G s F1 G1 E pd) (hf : ∀ a b, a ≠ 231 → F2 a b = F1 a b) (hg : ∀ a, ¬ (232 ≤ a ∧ a ≤ 234) → G2 a = G1 a) : tkR q k F G s F2 G2 E pd := by
  obtain ⟨h1, h2, h3, h4⟩ := h
  refine ⟨fun c => ?_, fun c => ?_, tkF_tr h3 (fun a b q1 _ _ => hf a b q1), tkG_tr h4 (fun a q1 _ => hg a q1)⟩
  · obtain ⟨⟨⟨g1, g2, g3, g4, g5, g6⟩, g7⟩, g8⟩ := h1 c
    refine ⟨⟨⟨by rw [hf _ _ (by decide)]; exact g1, by rw [hf _ _ (by decide)]; exact g2, by rw [hf _ _ (by decide)]; exact g3, pathR_cong g4 (fun b => hf _ _ (by decide)) (hg _ (by decide)), g5, g6⟩, fun z => ?_⟩, by rw [hf _ _ (by decide)]; exact g8⟩
    rw [hf _ _ (by decide), hf _ _ (by decide)]
    exact g7 z
  · have hK := hA.1.1
    unfold isSh at hK
    have hq : q ≠ 231 := by
      rcases hA.2 with z | z <;> omega
    rw [hf _ _ hq, hf _ _ hq]
    exact h2 c
section GT
variable {s0 : State} {a0 : Array Value} {D : va_G} {t : Nat → ClassId} {p : Program} {l : Launch} {e : Env} {R : Room} {s : State} {m : MethodId} {args : Array Value} {below : List Frame} {meth : Method} {c : Code} {Q : State → Prop} {Z : Heap → List Loc → Prop} {A : Nat → Prop} {own : String} {cc : ByteArray} {nL : Nat} {ret : Option FieldType} {mn : String} {fr lo mc ms : Nat} {cells slots : Nat} {ad : Nat → Nat} {n : Nat} {ce : Nat → va_E} {pc : Nat} {lv lv' : List (Nat × Value)} {st : List Value}
theorem g_tkB (ok : gOk s0 a0 D t p R s m meth c A "StitchDesk$RunTeller" cc nL ret mn fr lo mc ms) {F F1 : Nat → Nat → Int} {G G1 : Nat → Int → Int} {q k : Nat} {S : PS} {E : List Ev} {pd : Bool} (hA : tkAt q k F G) (hR : tkR q k F G S F1 G1 E pd) (hpd : q ≠ 235 → pd = false) (hroom : 1 ≤ fr ∧ 20 ≤ lo) (hst : (st.map fun v => v.category).sum ≤ 8) (hd : decode cc pc = .ok (.invokeinterface 43 1, 5)) (kk : ∀ F2 G2, tkR q k F G S F2 G2 E true → tkL F1 G1 F2 G2 → gW p l e R s m args below meth c Q D A nL gZ 0 0 ad 265 (mem ad t F2 G2) (pc + 5) lv st) : gW p l e R s m args below meth c Q D A nL Z 0 0 ad 265 (mem ad t F1 G1) pc lv (.ref (ad q) :: st) := by
  have hB := tkAt_1 hA hR.2.2.1 hR.2.2.2
  by_cases c5 : q = 235
  · subst c5
    obtain ⟨hm, hm6⟩ := hR.1 rfl
    obtain ⟨g1, g2, g3⟩ : shOk F1 G1 k ∧ 0 ≤ F1 235 1 ∧ k = 2 + 22 * (F1 235 1).toNat := by
      have hK := hB.1.1
      unfold isSh at hK
      rcases hB.2 with z | ⟨-, z⟩
      · omega
      · exact ⟨hB.1, z.1, z.2⟩
    have e := pmR_eq hm.1
    refine g_callVF (As := []) (st := st) ok 235 (c_Pm_beginRun F1 G1 s0 a0 D t ad) k_460 k_8 k_452 cl_Pm (m_Pm (ad := ad) (t := t) (F := F1) (G := G1) rfl).1 (m_Pm rfl).2 k_454 k_453 k_456 k_458 k_459 k_457 k_455 ⟨by decide, by decide, (by decide +kernel : (parseMethodDescriptor "()V").map (fun d => d.parameters.length) = some 0)⟩ (by omega) hst ⟨Nat.zero_le _, Nat.zero_le _⟩ hd (fun ce1 h => ?_)
    obtain ⟨F2, G2, rfl, hF2, hG2⟩ := h
    refine kk F2 G2 ⟨fun _ => ?_, fun z => absurd rfl z, ?_, ?_⟩ ?_
    · subst hF2 hG2
      refine ⟨⟨⟨by rw [fU_ja (by decide)]; exact hm.1.1, by rw [fU_ja (by decide)]; exact hm.1.2.1, by rw [fU_ja (by decide)]; exact hm.1.2.2.1, pathR_cong hm.1.2.2.2.1 (fun b => fU_ka (by decide)) rfl, hm.1.2.2.2.2⟩, fun z => ⟨by rw [fU_ja (by decide)]; exact (hm.2 z).1, by rw [fU_hit]; rfl⟩⟩, Or.inr fU_hit⟩
    · subst hF2
      refine tkF_tr hR.2.2.1 (fun a b _ q2 _ => ?_)
      have := (q2 rfl).1
      unfold fU
      rw [if_neg (by omega)]
    · subst hG2
      exact hR.2.2.2
    · subst hF2 hG2
      exact ⟨fun b => fU_ka (by decide), fun _ _ _ => rfl⟩
  · have hq : q = k + 21 := by
      rcases hA.2 with z | z
      · exact z
      · exact absurd z.1 c5
    have hT : isTy q := hq ▸ ty_of hA.1.1
    have h2 := hR.2.1 c5
    refine g_callVF (As := []) (st := st) ok q (c_Ty_beginRun F1 G1 _ hT s0 a0 D t ad) k_466 k_4 k_452 cl_Ty (m_Ty (ad := ad) (t := t) (F := F1) (G := G1) hT).1 (m_Ty hT).2 k_454 k_453 k_462 k_464 k_465 k_463 k_461 ⟨by decide, by decide, (by decide +kernel : (parseMethodDescriptor "()V").map (fun d => d.parameters.length) = some 0)⟩ (by omega) hst ⟨Nat.zero_le _, Nat.zero_le _⟩ hd (fun ce1 h => ?_)
    obtain ⟨F2, G2, rfl, hF2, hG2⟩ := h
    subst hF2 hG2
    have h231 : (231 : Nat) ≠ q := by
      have hK := hA.1.1
      unfold isSh at hK
      omega
    refine kk _ _ ⟨fun z => absurd z c5, fun _ => ?_, tkF_tr hR.2.2.1 (fun a b _ _ q3 => fU_ka (q3 c5)), hR.2.2.2⟩ ⟨fun b => fU_ka h231, fun _ _ _ => rfl⟩
    rw [fU_hit, fU_ja (by decide), h2.1, h2.2, hpd c5]
    exact ⟨by show F q 0 + nf E + 0 + 1 = F q 0 + nf E + 1; omega, rfl⟩
theorem g_tkT (ok : gOk s0 a0 D t p R s m meth c A "StitchDesk$RunTeller" cc nL ret mn fr lo mc ms) {F F1 : Nat → Nat → Int} {G G1 : Nat → Int → Int} {q k : Nat} {S : PS} {E : List Ev} {pd : Bool} {x y : Int} (hA : tkAt q k F G) (hR : tkR q k F G S F1 G1 E pd) (hU : inR x y) (hroom : 5 ≤ fr ∧ 118 ≤ lo) (hst : (st.map fun v => v.category).sum ≤ 8) (hd : decode cc pc = .ok (.invokeinterface 55 3, 5)) (kk : ∀ F2 G2, tkR q k F G S F2 G2 (E ++ [(x, y, pd)]) false → tkL F1 G1 F2 G2 → gW p l e R s m args below meth c Q D A nL gZ 0 0 ad 265 (mem ad t F2 G2) (pc + 5) lv st) : gW p l e R s m args below meth c Q D A nL Z 0 0 ad 265 (mem ad t F1 G1) pc lv (.int (iI y) :: .int (iI x) :: .ref (ad q) :: st) := by
  have hB := tkAt_1 hA hR.2.2.1 hR.2.2.2
  by_cases c5 : q = 235
  · subst c5
    obtain ⟨hm, hm6⟩ := hR.1 rfl
    obtain ⟨g1, g2, g3⟩ : shOk F1 G1 k ∧ 0 ≤ F1 235 1 ∧ k = 2 + 22 * (F1 235 1).toNat := by
      have hK := hB.1.1
      unfold isSh at hK
      rcases hB.2 with z | ⟨-, z⟩
      · omega
      · exact ⟨hB.1, z.1, z.2⟩
    have e := pmR_eq hm.1
    refine g_callVF (As := [.int (iI x), .int (iI y)]) (st := st) ok 235 (c_Pm_take F1 G1 k g2 g3 g1 x y _ _ _ (e ▸ hm) hU s0 a0 D t ad) k_483 k_8 k_476 cl_Pm (m_Pm (ad := ad) (t := t) (F := F1) (G := G1) rfl).1 (m_Pm rfl).2 k_478 k_477 k_479 k_481 k_482 k_480 k_455 ⟨by decide, by decide, (by decide +kernel : (parseMethodDescriptor "(II)V").map (fun d => d.parameters.length) = some 2)⟩ (by omega) hst ⟨Nat.zero_le _, Nat.zero_le _⟩ hd (fun ce1 h => ?_)
    obtain ⟨F2, G2, rfl, hM2, hf2, hg2, h62⟩ := h
    refine kk F2 G2 ⟨fun _ => ?_, fun z => absurd rfl z, ?_, ?_⟩ ?_
    · rw [runF_snoc]
      have e1 : hasC F1 G1 k = hasC F G k := hasC_cong hA.1.1 (tkAt_F hA hR.2.2.1) (tkAt_G hA hR.2.2.2)
      have e2 : F1 k 3 = F k 3 := tkAt_F hA hR.2.2.1 k 3 (by omega) (by omega)
      rw [e1, e2, ← e] at hM2
      exact ⟨hM2, by omega⟩
    · exact tkF_tr hR.2.2.1 (fun a b q1 q2 q3 => hf2 a b (q2 rfl).1 (q2 rfl).2)
    · exact tkG_tr hR.2.2.2 (fun a q1 q2 => hg2 a (q2 rfl))
    · exact ⟨fun b => hf2 231 b (by omega) (by decide), fun a q1 q2 => hg2 a (by omega)⟩
  · have hq : q = k + 21 := by
      rcases hA.2 with z | z
      · exact z
      · exact absurd z.1 c5
    have hT : isTy q := hq ▸ ty_of hA.1.1
    have h2 := hR.2.1 c5
    refine g_callVF (As := [.int (iI x), .int (iI y)]) (st := st) ok q (c_Ty_take F1 G1 _ x y hT s0 a0 D t ad) k_528 k_4 k_476 cl_Ty (m_Ty (ad := ad) (t := t) (F := F1) (G := G1) hT).1 (m_Ty hT).2 k_478 k_477 k_524 k_526 k_527 k_525 k_461 ⟨by decide, by decide, (by decide +kernel : (parseMethodDescriptor "(II)V").map (fun d => d.parameters.length) = some 2)⟩ (by omega) hst ⟨Nat.zero_le _, Nat.zero_le _⟩ hd (fun ce1 h => ?_)
    obtain ⟨F2, G2, rfl, hF2, hG2⟩ := h
    subst hF2 hG2
    have h231 : (231 : Nat) ≠ q := by
      have hK := hA.1.1
      unfold isSh at hK
      omega
    refine kk _ _ ⟨fun z => absurd z c5, fun _ => ?_, tkF_tr hR.2.2.1 (fun a b _ _ q3 => fU_ka (q3 c5)), hR.2.2.2⟩ ⟨fun b => fU_ka h231, fun _ _ _ => rfl⟩
    rw [fU_ja (by decide), fU_hit, nf_snoc, len_snoc, h2.1, h2.2]
    exact ⟨by show F q 0 + nf E + b2 pd = F q 0 + (nf E + b2 pd) + b2 false; show F q 0 + nf E + b2 pd = F q 0 + (nf E + b2 pd) + 0; omega, by omega⟩
end GT
