/-! the needle's way, without a memory -/
def iab (a : Int) : Int := if a < 0 then -a else a
def al (a b k n : Int) : Int := if n < 1 then a else a + k * (b - a) / n
def far (x y u v : Int) : Int := max (iab (u - x)) (iab (v - y))
def nst (x y u v : Int) : Int := (far x y u v + 69) / 70
abbrev Rc := Int × Int × Int
abbrev PS := Int × Int × Int × List Rc
def mvL (x y u v kd n : Int) : Nat → List Rc
  | 0 => []
  | j + 1 => mvL x y u v kd n j ++ [(al x u ((j : Int) + 1) n - al x u (j : Int) n, al y v ((j : Int) + 1) n - al y v (j : Int) n, kd)]
def mvS (kd u v : Int) (s : PS) : PS := (u, v, s.2.2.1, s.2.2.2 ++ mvL s.1 s.2.1 u v kd (nst s.1 s.2.1 u v) (nst s.1 s.2.1 u v).toNat)
def lpS (u v : Int) (s : PS) : PS := mvS 1 u v (if 300 < far s.1 s.2.1 u v then (s.1, s.2.1, s.2.2.1, s.2.2.2 ++ [(0, 0, 2)]) else s)
def chS (col : Int) (s : PS) : PS := (s.1, s.2.1, col, if ¬ s.2.2.1 = -1 ∧ ¬ s.2.2.1 = col then s.2.2.2 ++ [(0, 0, 3)] else s.2.2.2)
noncomputable def pif {α : Type} (p : Prop) (a b : α) : α := @ite α p (Classical.propDecidable p) a b
theorem pif_pos {α : Type} {p : Prop} {a b : α} (h : p) : pif p a b = a := by
  unfold pif
  rw [if_pos h]
theorem pif_neg {α : Type} {p : Prop} {a b : α} (h : ¬ p) : pif p a b = b := by
  unfold pif
  rw [if_neg h]
def stays (has : Int → Int → Prop) (x y u v : Int) : Prop := ∀ k : Int, 1 ≤ k → k ≤ nst x y u v → has (al x u k (nst x y u v)) (al y v k (nst x y u v))
/-- a place is taken: the first of a run or not, the first of the shape or not -/
noncomputable def tkS (has : Int → Int → Prop) (col u v : Int) (first ent : Bool) (s : PS) : PS := if 4000 < s.2.2.2.length then s else if first = false then mvS 0 u v s else if ent = true then lpS u v (chS col s) else pif (stays has s.1 s.2.1 u v) (mvS 0 u v s) (lpS u v s)
theorem iab_rng {a : Int} (h : -600 ≤ a ∧ a ≤ 600) : 0 ≤ iab a ∧ iab a ≤ 600 := by
  unfold iab
  split <;> omega
def inR (x y : Int) : Prop := (0 ≤ x ∧ x ≤ 600) ∧ (0 ≤ y ∧ y ≤ 600)
theorem far_rng {x y u v : Int} (h : inR x y) (h2 : inR u v) : 0 ≤ far x y u v ∧ far x y u v ≤ 600 ∧ (-far x y u v ≤ u - x ∧ u - x ≤ far x y u v) ∧ (-far x y u v ≤ v - y ∧ v - y ≤ far x y u v) := by
  unfold inR at h h2
  unfold far iab
  split <;> split <;> omega
theorem nst_rng {x y u v : Int} (h : inR x y) (h2 : inR u v) : 0 ≤ nst x y u v ∧ nst x y u v ≤ 9 ∧ far x y u v ≤ 70 * nst x y u v := by
  have := far_rng h h2
  unfold nst
  omega
theorem nst_0 {x y u v : Int} (h : inR x y) (h2 : inR u v) (h0 : nst x y u v = 0) : u = x ∧ v = y := by
  have a := far_rng h h2
  have b := nst_rng h h2
  omega
theorem al_0 (a b n : Int) : al a b 0 n = a := by
  unfold al
  split
  · rfl
  · rw [Int.zero_mul, Int.zero_ediv, Int.add_zero]
theorem al_n {a b n : Int} (h : 1 ≤ n) : al a b n n = b := by
  unfold al
  rw [if_neg (by omega), Int.mul_ediv_cancel_left _ (by omega)]
  omega
theorem al_rng {a b k n : Int} (ha : 0 ≤ a ∧ a ≤ 600) (hb : 0 ≤ b ∧ b ≤ 600) (hk : 0 ≤ k ∧ k ≤ n) : 0 ≤ al a b k n ∧ al a b k n ≤ 600 := by
  unfold al
  split
  · exact ha
  · have hn : 0 < n := by omega
    rcases Int.le_total 0 (b - a) with d | d
    · have h1 : 0 ≤ k * (b - a) := Int.mul_nonneg hk.1 d
      have h2 : k * (b - a) ≤ (b - a) * n := by
        rw [Int.mul_comm (b - a) n]
        exact Int.mul_le_mul_of_nonneg_right hk.2 d
      have h3 := Int.ediv_nonneg h1 (Int.le_of_lt hn)
      have h4 : k * (b - a) / n ≤ b - a := Int.ediv_le_of_le_mul hn h2
      omega
    · have h1 : (b - a) * n ≤ k * (b - a) := by
        rw [Int.mul_comm (b - a) n]
        exact Int.mul_le_mul_of_nonpos_right hk.2 d
      have h2 : k * (b - a) ≤ 0 * n := by
        rw [Int.zero_mul]
        exact Int.mul_nonpos_of_nonneg_of_nonpos hk.1 d
      have h3 := Int.le_ediv_of_mul_le hn h1
      have h4 := Int.ediv_le_of_le_mul hn h2
      omega
theorem al_step {a b k n : Int} (hd : -(70 * n) ≤ b - a ∧ b - a ≤ 70 * n) (hn : 1 ≤ n) : -70 ≤ al a b (k + 1) n - al a b k n ∧ al a b (k + 1) n - al a b k n ≤ 70 := by
  unfold al
  rw [if_neg (by omega), if_neg (by omega), Int.add_mul, Int.one_mul]
  have hn0 : 0 < n := by omega
  generalize k * (b - a) = q
  have h1 : (q + (b - a)) / n ≤ (q + 70 * n) / n := Int.ediv_le_ediv hn0 (by omega)
  have h2 : (q + -70 * n) / n ≤ (q + (b - a)) / n := Int.ediv_le_ediv hn0 (by omega)
  rw [Int.add_mul_ediv_right _ _ (by omega)] at h1 h2
  omega
def rcOk (r : Rc) : Prop := (-121 ≤ r.1 ∧ r.1 ≤ 121) ∧ (-121 ≤ r.2.1 ∧ r.2.1 ≤ 121) ∧ (0 ≤ r.2.2 ∧ r.2.2 < 4)
def cdR (r : Rc) : Int := r.2.2 * 65536 + (r.2.1 + 128) * 256 + (r.1 + 128)
/-- the path holds the records L: all of them, or the first 4000 -/
def pathR (F : Nat → Nat → Int) (G : Nat → Int → Int) (L : List Rc) : Prop := F 236 1 = min (L.length : Int) 4000 ∧ F 236 2 = (if 4000 < L.length then 1 else 0) ∧ (∀ (i : Nat) (r : Rc), i < 4000 → L[i]? = some r → G 237 (i : Int) = cdR r) ∧ ∀ r ∈ L, rcOk r
theorem pathR_rng {F : Nat → Nat → Int} {G : Nat → Int → Int} {L : List Rc} (h : pathR F G L) : (0 ≤ F 236 1 ∧ F 236 1 ≤ 4000) ∧ (F 236 2 = 0 ∨ F 236 2 = 1) ∧ (F 236 2 = 1 ↔ 4000 < L.length) := by
  obtain ⟨h1, h2, -⟩ := h
  split at h2 <;> omega
theorem snoc_get {L : List Rc} {r q : Rc} {i : Nat} (h : (L ++ [r])[i]? = some q) : (i < L.length ∧ L[i]? = some q) ∨ (i = L.length ∧ q = r) := by
  rcases Nat.lt_trichotomy i L.length with c | c | c
  · rw [List.getElem?_append_left c] at h
    exact Or.inl ⟨c, h⟩
  · subst c
    rw [List.getElem?_concat_length] at h
    exact Or.inr ⟨rfl, (Option.some.inj h).symm⟩
  · rw [List.getElem?_append_right (by omega)] at h
    have : ([r] : List Rc)[i - L.length]? = none := List.getElem?_eq_none (by simp; omega)
    rw [this] at h
    exact absurd h (by simp)
theorem pathR_add {F F1 : Nat → Nat → Int} {G G1 : Nat → Int → Int} {L : List Rc} {x y z : Int} (h : pathR F G L) (hr : rcOk (x, y, z)) (hF : F1 = (if F 236 1 < 4000 then fU F 236 1 (F 236 1 + 1) else fU F 236 2 1)) (hG : G1 = (if F 236 1 < 4000 then gU G 237 (F 236 1) (z * 65536 + (y + 128) * 256 + (x + 128)) else G)) : pathR F1 G1 (L ++ [(x, y, z)]) := by
  obtain ⟨h1, h2, h3, h4⟩ := h
  have hl : (L ++ [(x, y, z)]).length = L.length + 1 := by simp
  have hm : ∀ r ∈ L ++ [(x, y, z)], rcOk r := fun r q => by
    rcases List.mem_append.mp q with q | q
    · exact h4 r q
    · rw [List.mem_singleton.mp q]
      exact hr
  by_cases c : L.length < 4000
  · rw [if_pos (by omega)] at hF hG
    subst hF hG
    refine ⟨?_, ?_, fun i r hi q => ?_, hm⟩
    · rw [fU_hit, hl]
      omega
    · rw [fU_ja (by decide), h2, hl, if_neg (by omega), if_neg (by omega)]
    · rcases snoc_get q with ⟨c1, c2⟩ | ⟨c1, c2⟩
      · rw [gU_i (by omega)]
        exact h3 i r hi c2
      · subst c2
        rw [show (i : Int) = F 236 1 by omega, gU_hit]
        rfl
  · rw [if_neg (by omega)] at hF hG
    subst hF hG
    refine ⟨?_, ?_, fun i r hi q => ?_, hm⟩
    · rw [fU_ja (by decide), hl, h1]
      omega
    · rw [fU_hit, hl, if_pos (by omega)]
    · rcases snoc_get q with ⟨c1, c2⟩ | ⟨c1, c2⟩
      · exact h3 i r hi c2
      · omega
theorem pathR_cong {F F1 : Nat → Nat → Int} {G G1 : Nat → Int → Int} {L : List Rc} (h : pathR F G L) (hF : ∀ b, F1 236 b = F 236 b) (hG : G1 237 = G 237) : pathR F1 G1 L := by
  unfold pathR at h ⊢
  rw [hF, hF, hG]
  exact h
theorem mvL_len (x y u v kd n : Int) : ∀ j, (mvL x y u v kd n j).length = j
  | 0 => rfl
  | j + 1 => by
    show (mvL x y u v kd n j ++ [_]).length = _
    rw [List.length_append, mvL_len x y u v kd n j]
    rfl
theorem mvL_step {x y u v kd n k : Int} (hk : 1 ≤ k) : mvL x y u v kd n k.toNat = mvL x y u v kd n (k - 1).toNat ++ [(al x u k n - al x u (k - 1) n, al y v k n - al y v (k - 1) n, kd)] := by
  have e : k.toNat = (k - 1).toNat + 1 := by omega
  have e2 : (((k - 1).toNat : Nat) : Int) = k - 1 := by omega
  rw [e]
  show mvL x y u v kd n (k - 1).toNat ++ [(al x u ((((k - 1).toNat : Nat) : Int) + 1) n - al x u (((k - 1).toNat : Nat) : Int) n, al y v ((((k - 1).toNat : Nat) : Int) + 1) n - al y v (((k - 1).toNat : Nat) : Int) n, kd)] = _
  rw [e2, show k - 1 + 1 = k by omega]
section GV
variable {p : Program} {l : Launch} {e : Env} {R : Room} {s : State} {m : MethodId} {args : Array Value} {below : List Frame} {meth : Method} {c : Code} {Q : State → Prop} {D : va_G} {A : Nat → Prop} {nL : Nat} {Z : Heap → List Loc → Prop} {cells slots : Nat} {ad : Nat → Nat} {n : Nat} {ce : Nat → va_E} {pc : Nat} {lv : List (Nat × Value)} {st : List Value}
theorem g_tv {x y : Value} (h : x = y) (kk : gW p l e R s m args below meth c Q D A nL Z cells slots ad n ce pc lv (y :: st)) : gW p l e R s m args below meth c Q D A nL Z cells slots ad n ce pc lv (x :: st) := h ▸ kk
end GV
theorem pm_ref {ad : Nat → Nat} {z : Int} {k : Nat} (h : 0 ≤ z) (hk : k = 2 + 22 * z.toNat) : pmS ad z = .ref (ad k) := by
  unfold pmS
  rw [if_neg (by omega), hk]
