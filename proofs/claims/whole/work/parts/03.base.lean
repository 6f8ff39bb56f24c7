/-! BASE: a judgement gW for the walk of one method over a world by PLACES (place k lies at ad k and holds ce k), with everything of the machine that stays fixed packed into gOk; contracts gI (an int comes back), gV (nothing comes back); one row an instruction, over the kit's rows. Numbers are iI z, z an Int. -/
-- ints by their numbers
def iI (z : Int) : Int32 := Int32.ofInt z
theorem iI_toInt {z : Int} (h : -2147483648 ≤ z ∧ z < 2147483648) : (iI z).toInt = z := Int32.toInt_ofInt_of_le (by omega) (by omega)
theorem iI_of (x : Int32) : x = iI x.toInt := (Int32.ofInt_toInt x).symm
theorem iI_rng (x : Int32) : -2147483648 ≤ x.toInt ∧ x.toInt < 2147483648 := ⟨by have := Int32.le_toInt x; omega, by have := Int32.toInt_lt x; omega⟩
theorem iI_ex (x : Int32) : ∃ z : Int, (-2147483648 ≤ z ∧ z < 2147483648) ∧ x = iI z := ⟨x.toInt, iI_rng x, iI_of x⟩
theorem iI_add (a b : Int) : iI a + iI b = iI (a + b) := (Int32.ofInt_add a b).symm
theorem iI_sub (a b : Int) : iI a - iI b = iI (a - b) := (Int32.ofInt_sub a b).symm
theorem iI_mul (a b : Int) : iI a * iI b = iI (a * b) := (Int32.ofInt_mul a b).symm
theorem iI_neg (a : Int) : -iI a = iI (-a) := (Int32.ofInt_neg a).symm
theorem iI_lt {a b : Int} (ha : -2147483648 ≤ a ∧ a < 2147483648) (hb : -2147483648 ≤ b ∧ b < 2147483648) : iI a < iI b ↔ a < b := by
  rw [Int32.lt_iff_toInt_lt, iI_toInt ha, iI_toInt hb]
theorem iI_le {a b : Int} (ha : -2147483648 ≤ a ∧ a < 2147483648) (hb : -2147483648 ≤ b ∧ b < 2147483648) : iI a ≤ iI b ↔ a ≤ b := by
  rw [Int32.le_iff_toInt_le, iI_toInt ha, iI_toInt hb]
theorem iI_eq {a b : Int} (ha : -2147483648 ≤ a ∧ a < 2147483648) (hb : -2147483648 ≤ b ∧ b < 2147483648) : iI a = iI b ↔ a = b := by
  rw [← Int32.toInt_inj, iI_toInt ha, iI_toInt hb]
theorem iI_zero : (0 : Int32) = iI 0 := by decide
theorem iI_nat (k : Nat) : Int32.ofNat k = iI (k : Int) := by
  unfold iI
  rw [Int32.ofInt_eq_ofNat]
theorem iI_in {z : Int} {k : Nat} (hk : k < 2147483648) (h : 0 ≤ z ∧ z < k) : vp_in (iI z) k := by
  rw [vp_in_iff, iI_toInt (by omega)]
  exact h
theorem iI_clamp {z : Int} (h : 0 ≤ z ∧ z < 2147483648) : (iI z).toNatClampNeg = z.toNat := by
  show (iI z).toInt.toNat = z.toNat
  rw [iI_toInt (by omega)]
/-- an array of ints by its numbers, a function of the place -/
def zU (f : Int → Int) (i v : Int) : Int → Int := fun j => if j = i then v else f j
theorem zU_self (f : Int → Int) (i v : Int) : zU f i v i = v := by simp [zU]
theorem zU_ne (f : Int → Int) {i j : Int} (v : Int) (h : j ≠ i) : zU f i v j = f j := by simp [zU, h]
def zA (f : Int → Int) : Nat → Int32 := fun j => iI (f (j : Int))
theorem zA_at {f : Int → Int} {z : Int} (h : 0 ≤ z ∧ z < 2147483648) : zA f (iI z).toNatClampNeg = iI (f z) := by
  rw [iI_clamp h]
  unfold zA
  rw [Int.toNat_of_nonneg h.1]
theorem zA_up {f : Int → Int} {z v : Int} (h : 0 ≤ z ∧ z < 2147483648) : upd (zA f) (iI z).toNatClampNeg (iI v) = zA (zU f z v) := by
  rw [iI_clamp h]
  funext j
  unfold upd zA zU
  by_cases hj : j = z.toNat
  · have : (j : Int) = z := by omega
    rw [if_pos hj, if_pos this]
  · have : ¬ (j : Int) = z := by omega
    rw [if_neg hj, if_neg this]
-- the world by places
def wW (ad : Nat → Nat) (n : Nat) (ce : Nat → va_E) : va_W := (List.range n).map (fun k => (ad k, ce k))
theorem wW_get {ad : Nat → Nat} {n : Nat} {ce : Nat → va_E} {k : Nat} (h : k < n) : (wW ad n ce)[k]? = some (ad k, ce k) := by
  simp [wW, h]
theorem wW_of {ad : Nat → Nat} {n : Nat} {ce : Nat → va_E} {k : Nat} {q : Nat × va_E} (h : (wW ad n ce)[k]? = some q) : k < n ∧ q = (ad k, ce k) := by
  have hk : k < n := by
    have := (List.getElem?_eq_some_iff.mp h).1
    simpa [wW] using this
  rw [wW_get hk] at h
  exact ⟨hk, (Option.some.inj h).symm⟩
theorem wW_ext {w : va_W} {ad : Nat → Nat} {n : Nat} {ce : Nat → va_E} (hl : w.length = n) (h : ∀ k, k < n → w[k]? = some (ad k, ce k)) : w = wW ad n ce := by
  apply List.ext_getElem?
  intro k
  by_cases hk : k < n
  · rw [h k hk, wW_get hk]
  · rw [List.getElem?_eq_none (by omega), List.getElem?_eq_none (by simp [wW]; omega)]
theorem wW_set {ad : Nat → Nat} {n : Nat} {ce : Nat → va_E} {k : Nat} {e : va_E} : (wW ad n ce).set k (ad k, e) = wW ad n (va_up ce k e) := by
  refine wW_ext (by simp [wW]) (fun j hj => ?_)
  rw [List.getElem?_set]
  by_cases h : k = j
  · subst h
    rw [if_pos rfl, if_pos (by simpa [wW] using hj), va_up_self]
  · rw [if_neg h, wW_get hj, va_up_ne _ _ (Ne.symm h)]
theorem wW_push {ad : Nat → Nat} {n : Nat} {ce : Nat → va_E} {q : Nat} {e : va_E} : wW ad n ce ++ [(q, e)] = wW (va_up ad n q) (n + 1) (va_up ce n e) := by
  refine wW_ext (by simp [wW]) (fun j hj => ?_)
  by_cases h : j < n
  · rw [List.getElem?_append_left (by simpa [wW] using h), wW_get h, va_up_ne _ _ (by omega), va_up_ne _ _ (by omega)]
  · have hj : j = n := by omega
    subst hj
    rw [List.getElem?_append_right (by simp [wW]), va_up_self, va_up_self]
    simp [wW]
theorem wW_cong {ad ad' : Nat → Nat} {n : Nat} {ce ce' : Nat → va_E} (h1 : ∀ k, k < n → ad k = ad' k) (h2 : ∀ k, k < n → ce k = ce' k) : wW ad n ce = wW ad' n ce' := by
  refine wW_ext (by simp [wW]) (fun k hk => ?_)
  rw [wW_get hk, h1 k hk, h2 k hk]
/-- an array of ints -/
def zC (t : Nat → ClassId) (N : Nat) (f : Int → Int) : va_E := .inl (t 0, N, .inl (zA f))
