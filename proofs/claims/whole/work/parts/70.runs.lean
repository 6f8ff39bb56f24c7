/-! the runs along a line: maximal stretches of more than one place -/
def mxR (P : Int → Prop) (a b : Int) : Prop := a < b ∧ (∀ t : Int, a ≤ t → t ≤ b → P t) ∧ ¬ P (a - 1) ∧ ¬ P (b + 1)
def isRn (P : Int → Prop) (L : List (Int × Int)) : Prop := L.Pairwise (fun p q => p.1 < q.1) ∧ ∀ a b : Int, (a, b) ∈ L ↔ mxR P a b
theorem mxR_ord {P : Int → Prop} {a b c d : Int} (h : mxR P a b) (h2 : mxR P c d) (hac : a < c) : b < c := by
  rcases Int.lt_or_le b c with q | q
  · exact q
  · exact absurd (h.2.1 (c - 1) (by omega) (by omega)) h2.2.2.1
theorem sorted_ext : ∀ (L M : List (Int × Int)), L.Pairwise (fun p q => p.1 < q.1) → M.Pairwise (fun p q => p.1 < q.1) → (∀ p, p ∈ L ↔ p ∈ M) → L = M
  | [], [], _, _, _ => rfl
  | [], m :: M, _, _, h => absurd ((h m).mpr List.mem_cons_self) (by simp)
  | l :: L, [], _, _, h => absurd ((h l).mp List.mem_cons_self) (by simp)
  | l :: L, m :: M, h1, h2, h => by
    obtain ⟨a1, a2⟩ := List.pairwise_cons.mp h1
    obtain ⟨b1, b2⟩ := List.pairwise_cons.mp h2
    have e : l = m := by
      rcases List.mem_cons.mp ((h l).mp List.mem_cons_self) with q | q
      · exact q
      · rcases List.mem_cons.mp ((h m).mpr List.mem_cons_self) with q2 | q2
        · exact q2.symm
        · have x := b1 l q
          have y := a1 m q2
          omega
    subst e
    rw [sorted_ext L M a2 b2 (fun p => ?_)]
    constructor
    · intro q
      rcases List.mem_cons.mp ((h p).mp (List.mem_cons_of_mem _ q)) with z | z
      · subst z
        exact absurd (a1 p q) (by omega)
      · exact z
    · intro q
      rcases List.mem_cons.mp ((h p).mpr (List.mem_cons_of_mem _ q)) with z | z
      · subst z
        exact absurd (b1 p q) (by omega)
      · exact z
theorem isRn_uniq {P : Int → Prop} {L M : List (Int × Int)} (h : isRn P L) (h2 : isRn P M) : L = M :=
  sorted_ext L M h.1 h2.1 (fun p => (h.2 p.1 p.2).trans (h2.2 p.1 p.2).symm)
noncomputable def pts (P : Int → Prop) : List (Int × Int) := @dite _ (∃ L, isRn P L) (Classical.propDecidable _) (fun h => Classical.choose h) (fun _ => [])
theorem pts_eq {P : Int → Prop} {L : List (Int × Int)} (h : isRn P L) : pts P = L := by
  have hx : ∃ L, isRn P L := ⟨L, h⟩
  unfold pts
  rw [dif_pos hx]
  exact isRn_uniq (Classical.choose_spec hx) h
theorem mxR_iff {P Q : Int → Prop} {c : Int} (h : ∀ t, P t ↔ Q (t - c)) {a b : Int} : mxR P a b ↔ mxR Q (a - c) (b - c) := by
  unfold mxR
  rw [h (a - 1), h (b + 1), show a - 1 - c = a - c - 1 by omega, show b + 1 - c = b - c + 1 by omega]
  constructor
  · rintro ⟨h1, h2, h3, h4⟩
    refine ⟨by omega, fun t q1 q2 => ?_, h3, h4⟩
    have := (h (t + c)).mp (h2 (t + c) (by omega) (by omega))
    rw [show t + c - c = t by omega] at this
    exact this
  · rintro ⟨h1, h2, h3, h4⟩
    exact ⟨by omega, fun t q1 q2 => (h t).mpr (h2 _ (by omega) (by omega)), h3, h4⟩
theorem mxR_neg {P Q : Int → Prop} {c : Int} (h : ∀ t, P t ↔ Q (c - t)) {a b : Int} : mxR P a b ↔ mxR Q (c - b) (c - a) := by
  unfold mxR
  rw [h (a - 1), h (b + 1), show c - (a - 1) = c - a + 1 by omega, show c - (b + 1) = c - b - 1 by omega]
  constructor
  · rintro ⟨h1, h2, h3, h4⟩
    refine ⟨by omega, fun t q1 q2 => ?_, h4, h3⟩
    have := (h (c - t)).mp (h2 (c - t) (by omega) (by omega))
    rw [show c - (c - t) = t by omega] at this
    exact this
  · rintro ⟨h1, h2, h3, h4⟩
    exact ⟨by omega, fun t q1 q2 => (h t).mpr (h2 _ (by omega) (by omega)), h4, h3⟩
theorem isRn_shift {P Q : Int → Prop} {c : Int} {L : List (Int × Int)} (hq : isRn Q L) (h : ∀ t, P t ↔ Q (t - c)) : isRn P (L.map (fun p => (c + p.1, c + p.2))) := by
  refine ⟨?_, fun a b => ?_⟩
  · rw [List.pairwise_map]
    exact hq.1.imp (fun {p q} z => by show c + p.1 < c + q.1; omega)
  · rw [mxR_iff h, ← hq.2, List.mem_map]
    constructor
    · rintro ⟨p, hp, e⟩
      have e1 : c + p.1 = a := congrArg Prod.fst e
      have e2 : c + p.2 = b := congrArg Prod.snd e
      rw [show a - c = p.1 by omega, show b - c = p.2 by omega]
      exact hp
    · intro hp
      exact ⟨_, hp, by show (c + (a - c), c + (b - c)) = (a, b); rw [show c + (a - c) = a by omega, show c + (b - c) = b by omega]⟩
theorem isRn_flip {P Q : Int → Prop} {c : Int} {L : List (Int × Int)} (hq : isRn Q L) (h : ∀ t, P t ↔ Q (c - t)) : isRn P ((L.map (fun p => (c - p.2, c - p.1))).reverse) := by
  refine ⟨?_, fun a b => ?_⟩
  · rw [List.pairwise_reverse, List.pairwise_map]
    refine (List.Pairwise.and_mem.mp hq.1).imp (fun {p q} z => ?_)
    obtain ⟨hp, hq2, z⟩ := z
    have m1 := (hq.2 p.1 p.2).mp hp
    have m2 := (hq.2 q.1 q.2).mp hq2
    have := mxR_ord m1 m2 z
    have m3 := m2.1
    show c - q.2 < c - p.2
    omega
  · rw [mxR_neg h, ← hq.2, List.mem_reverse, List.mem_map]
    constructor
    · rintro ⟨p, hp, e⟩
      have e1 : c - p.2 = a := congrArg Prod.fst e
      have e2 : c - p.1 = b := congrArg Prod.snd e
      rw [show c - b = p.1 by omega, show c - a = p.2 by omega]
      exact hp
    · intro hp
      exact ⟨_, hp, by show (c - (c - a), c - (c - b)) = (a, b); rw [show c - (c - a) = a by omega, show c - (c - b) = b by omega]⟩
/-- the runs of a row, in the order and the way that they are sewn -/
noncomputable def hL (rs : Bool) (P : Int → Prop) : List (Int × Int) := if rs = true then pts P else (pts P).reverse.map (fun p => (p.2, p.1))
def hEv (x y : Int → Int) : List (Int × Int) → List Ev
  | [] => []
  | p :: L => (x p.1, y p.1, true) :: (x p.2, y p.2, false) :: hEv x y L
theorem hEv_snoc (x y : Int → Int) (p : Int × Int) : ∀ L : List (Int × Int), hEv x y (L ++ [p]) = hEv x y L ++ [(x p.1, y p.1, true)] ++ [(x p.2, y p.2, false)]
  | [] => rfl
  | q :: L => by
    show (x q.1, y q.1, true) :: (x q.2, y q.2, false) :: hEv x y (L ++ [p]) = _
    rw [hEv_snoc x y p L]
    rfl
theorem hEv_len (x y : Int → Int) : ∀ L : List (Int × Int), (hEv x y L).length = 2 * L.length
  | [] => rfl
  | q :: L => by
    show (hEv x y L).length + 1 + 1 = 2 * (L.length + 1)
    rw [hEv_len x y L]
    omega
theorem hL_up {P Q : Int → Prop} {c : Int} {L : List (Int × Int)} (hq : isRn Q L) (h : ∀ t, P t ↔ Q (t - c)) : hL true P = L.map (fun p => (c + p.1, c + p.2)) := by
  unfold hL
  rw [if_pos rfl, pts_eq (isRn_shift hq h)]
theorem hL_dn {P Q : Int → Prop} {c : Int} {L : List (Int × Int)} (hq : isRn Q L) (h : ∀ t, P t ↔ Q (c - t)) : hL false P = L.map (fun p => (c - p.1, c - p.2)) := by
  unfold hL
  rw [if_neg (by decide), pts_eq (isRn_flip hq h), List.reverse_reverse, List.map_map]
  rfl
