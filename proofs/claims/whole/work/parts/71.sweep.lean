/-! events in their order, and how many of a kind lie before a place -/
def ind (k p e : Int) : Int := if e % 3 = k ∧ e / 3 ≤ p then 1 else 0
def kN (g : Int → Int) (k p : Int) : Nat → Int
  | 0 => 0
  | n + 1 => kN g k p n + ind k p (g (n : Int))
def srt (g : Int → Int) (n : Int) : Prop := ∀ i j : Int, 0 ≤ i → i < j → j < n → g i ≤ g j
/-- e has been put into g -/
def insd (g g1 : Int → Int) (n e : Int) : Prop := ∃ i : Int, (0 ≤ i ∧ i ≤ n) ∧ (∀ j : Int, 0 ≤ j → j < i → g1 j = g j ∧ g j ≤ e) ∧ g1 i = e ∧ ∀ j : Int, i ≤ j → j < n → g1 (j + 1) = g j ∧ e < g j
theorem insd_srt {g g1 : Int → Int} {n e : Int} (hs : srt g n) (h : insd g g1 n e) : srt g1 (n + 1) := by
  obtain ⟨i, hi, h1, h2, h3⟩ := h
  intro a b q1 q2 q3
  rcases Int.lt_trichotomy b i with c | c | c
  · rw [(h1 a q1 (by omega)).1, (h1 b (by omega) c).1]
    exact hs a b q1 q2 (by omega)
  · rw [c, h2, (h1 a q1 (by omega)).1]
    exact (h1 a q1 (by omega)).2
  · have x := h3 (b - 1) (by omega) (by omega)
    rw [show b - 1 + 1 = b by omega] at x
    rw [x.1]
    rcases Int.lt_trichotomy a i with d | d | d
    · have y := h1 a q1 d
      rw [y.1]
      omega
    · rw [d, h2]
      omega
    · have y := h3 (a - 1) (by omega) (by omega)
      rw [show a - 1 + 1 = a by omega] at y
      rw [y.1]
      exact hs _ _ (by omega) (by omega) (by omega)
theorem insd_all {g g1 : Int → Int} {n e : Int} {Q : Int → Prop} (h : insd g g1 n e) (hq : ∀ j : Int, 0 ≤ j → j < n → Q (g j)) (he : Q e) : ∀ j : Int, 0 ≤ j → j < n + 1 → Q (g1 j) := by
  obtain ⟨i, hi, h1, h2, h3⟩ := h
  intro a q1 q2
  rcases Int.lt_trichotomy a i with d | d | d
  · rw [(h1 a q1 d).1]
    exact hq a q1 (by omega)
  · rw [d, h2]
    exact he
  · have y := h3 (a - 1) (by omega) (by omega)
    rw [show a - 1 + 1 = a by omega] at y
    rw [y.1]
    exact hq _ (by omega) (by omega)
theorem kN_congr {g g1 : Int → Int} {k p : Int} : ∀ n : Nat, (∀ j : Int, 0 ≤ j → j < n → g1 j = g j) → kN g1 k p n = kN g k p n
  | 0, _ => rfl
  | n + 1, h => by
    show kN g1 k p n + ind k p (g1 n) = kN g k p n + ind k p (g n)
    rw [kN_congr n (fun j a b => h j a (by omega)), h n (by omega) (by omega)]
theorem insd_kNA {g g1 : Int → Int} {i : Nat} {e k p : Int} (h1 : ∀ j : Int, 0 ≤ j → j < i → g1 j = g j) (h2 : g1 i = e) : ∀ d : Nat, (∀ j : Int, i ≤ j → j < i + d → g1 (j + 1) = g j) → kN g1 k p (i + d + 1) = kN g k p (i + d) + ind k p e
  | 0, _ => by
    show kN g1 k p i + ind k p (g1 i) = kN g k p i + ind k p e
    rw [kN_congr i h1, h2]
  | d + 1, h => by
    show kN g1 k p (i + d + 1) + ind k p (g1 ((i + d + 1 : Nat) : Int)) = kN g k p (i + d) + ind k p (g ((i + d : Nat) : Int)) + ind k p e
    rw [insd_kNA h1 h2 d (fun j a b => h j a (by omega))]
    have e1 := h ((i + d : Nat) : Int) (by omega) (by omega)
    have e2 : ((i + d : Nat) : Int) + 1 = ((i + d + 1 : Nat) : Int) := by omega
    rw [e2] at e1
    rw [e1]
    omega
theorem insd_kN {g g1 : Int → Int} {n e k p : Int} (h : insd g g1 n e) : kN g1 k p (n + 1).toNat = kN g k p n.toNat + ind k p e := by
  obtain ⟨i, hi, h1, h2, h3⟩ := h
  have a := insd_kNA (g := g) (g1 := g1) (i := i.toNat) (e := e) (k := k) (p := p) (fun j a b => (h1 j a (by omega)).1) (by rw [show ((i.toNat : Nat) : Int) = i by omega]; exact h2) (n - i).toNat (fun j a b => (h3 j (by omega) (by omega)).1)
  rw [show i.toNat + (n - i).toNat + 1 = (n + 1).toNat by omega, show i.toNat + (n - i).toNat = n.toNat by omega] at a
  exact a
/-- what n events in g amount to: edges that lie at p; half-lines that are crossed there -/
def evO (g : Int → Int) (n p : Int) : Int := kN g 1 p n.toNat - kN g 2 p n.toNat
def evF (g : Int → Int) (n p : Int) : Int := kN g 0 p n.toNat
def evOk (g : Int → Int) (n : Int) : Prop := srt g n ∧ ∀ j : Int, 0 ≤ j → j < n → 0 ≤ g j ∧ g j ≤ 1805
theorem ind_at {k p a b : Int} (hb : 0 ≤ b ∧ b < 3) : ind k p (a * 3 + b) = if b = k ∧ a ≤ p then 1 else 0 := by
  unfold ind
  rw [show (a * 3 + b) % 3 = b by omega, show (a * 3 + b) / 3 = a by omega]
theorem ev_on {g g1 g2 : Int → Int} {n lo hi p : Int} (h1 : insd g g1 n (lo * 3 + 1)) (h2 : insd g1 g2 (n + 1) ((hi + 1) * 3 + 2)) (hl : lo ≤ hi) : evO g2 (n + 1 + 1) p = evO g n p + (if lo ≤ p ∧ p ≤ hi then 1 else 0) ∧ evF g2 (n + 1 + 1) p = evF g n p := by
  unfold evO evF
  rw [insd_kN h2, insd_kN h2, insd_kN h2, insd_kN h1, insd_kN h1, insd_kN h1, ind_at (by decide), ind_at (by decide), ind_at (by decide), ind_at (by decide), ind_at (by decide), ind_at (by decide)]
  refine ⟨?_, ?_⟩
  · split <;> split <;> split <;> split <;> split <;> omega
  · split <;> split <;> omega
theorem ev_cr {g g1 g2 : Int → Int} {n lo hi p : Int} (h1 : insd g g1 n (lo * 3 + 0)) (h2 : insd g1 g2 (n + 1) ((hi + 1) * 3 + 0)) (hl : lo ≤ hi) : evO g2 (n + 1 + 1) p = evO g n p ∧ evF g2 (n + 1 + 1) p % 2 = (evF g n p + (if lo ≤ p ∧ p ≤ hi then 1 else 0)) % 2 := by
  unfold evO evF
  rw [insd_kN h2, insd_kN h2, insd_kN h2, insd_kN h1, insd_kN h1, insd_kN h1, ind_at (by decide), ind_at (by decide), ind_at (by decide), ind_at (by decide), ind_at (by decide), ind_at (by decide)]
  refine ⟨?_, ?_⟩
  · split <;> split <;> split <;> split <;> omega
  · split <;> split <;> split <;> omega
/-! the sweep: what is known of the runs of W before q -/
def swI (W : Int → Prop) (q st : Int) (L : List (Int × Int)) : Prop :=
  ((st = -1 ∧ ¬ W (q - 1)) ∨ (0 ≤ st ∧ st < q ∧ (∀ t : Int, st ≤ t → t < q → W t) ∧ ¬ W (st - 1))) ∧ L.Pairwise (fun p r => p.1 < r.1) ∧ ∀ a b : Int, (a, b) ∈ L ↔ (mxR W a b ∧ b + 1 < q)
theorem sw_same {W : Int → Prop} {q q' st : Int} {L : List (Int × Int)} (h : swI W q st L) (hq : q ≤ q') (hw : ∀ t : Int, q ≤ t → t < q' → W t) : ∀ a b : Int, (a, b) ∈ L ↔ (mxR W a b ∧ b + 1 < q') := by
  intro a b
  rw [h.2.2 a b]
  constructor
  · rintro ⟨h1, h2⟩
    exact ⟨h1, by omega⟩
  · rintro ⟨h1, h2⟩
    refine ⟨h1, ?_⟩
    rcases Int.lt_or_le (b + 1) q with z | z
    · exact z
    · exact absurd (hw (b + 1) z h2) h1.2.2.2
theorem sw_in1 {W : Int → Prop} {q q' : Int} {L : List (Int × Int)} (h : swI W q (-1) L) (h0 : 0 ≤ q) (hq : q < q') (hw : ∀ t : Int, q ≤ t → t < q' → W t) : swI W q' q L := by
  refine ⟨Or.inr ⟨h0, hq, hw, ?_⟩, h.2.1, sw_same h (by omega) hw⟩
  rcases h.1 with z | z
  · exact z.2
  · omega
theorem sw_in2 {W : Int → Prop} {q q' st : Int} {L : List (Int × Int)} (h : swI W q st L) (hs : ¬ st = -1) (hq : q < q') (hw : ∀ t : Int, q ≤ t → t < q' → W t) : swI W q' st L := by
  refine ⟨Or.inr ?_, h.2.1, sw_same h (by omega) hw⟩
  rcases h.1 with z | z
  · exact absurd z.1 hs
  · refine ⟨z.1, by omega, fun t a b => ?_, z.2.2.2⟩
    rcases Int.lt_or_le t q with c | c
    · exact z.2.2.1 t a c
    · exact hw t c b
theorem sw_out1 {W : Int → Prop} {q q' : Int} {L : List (Int × Int)} (h : swI W q (-1) L) (hq : q < q') (hw : ∀ t : Int, q ≤ t → t < q' → ¬ W t) : swI W q' (-1) L := by
  refine ⟨Or.inl ⟨rfl, hw _ (by omega) (by omega)⟩, h.2.1, fun a b => ?_⟩
  rw [h.2.2 a b]
  constructor
  · rintro ⟨h1, h2⟩
    exact ⟨h1, by omega⟩
  · rintro ⟨h1, h2⟩
    refine ⟨h1, ?_⟩
    rcases Int.lt_or_le (b + 1) q with z | z
    · exact z
    · have hb := h1.2.1 b (by have := h1.1; omega) (by omega)
      rcases Int.lt_or_le b q with y | y
      · rcases h.1 with x | x
        · rw [show b = q - 1 by omega] at hb
          exact absurd hb x.2
        · omega
      · exact absurd hb (hw b y (by omega))
theorem sw_run {W : Int → Prop} {q q' st a b : Int} {L : List (Int × Int)} (h : swI W q st L) (hs : ¬ st = -1) (hw : ∀ t : Int, q ≤ t → t < q' → ¬ W t) (hm : mxR W a b) (hb : b + 1 < q') (hn : ¬ b + 1 < q) : a = st ∧ b = q - 1 := by
  have w := hm.2.1 b (by have := hm.1; omega) (by omega)
  have hb2 : b = q - 1 := by
    rcases Int.lt_or_le b q with y | y
    · omega
    · exact absurd w (hw b y (by omega))
  refine ⟨?_, hb2⟩
  rcases h.1 with z | z
  · exact absurd z.1 hs
  · rcases Int.lt_trichotomy a st with c | c | c
    · exact absurd (hm.2.1 (st - 1) (by omega) (by omega)) z.2.2.2
    · exact c
    · exact absurd (z.2.2.1 (a - 1) (by omega) (by have := hm.1; omega)) hm.2.2.1
theorem sw_out2 {W : Int → Prop} {q q' st : Int} {L : List (Int × Int)} (h : swI W q st L) (hs : ¬ st = -1) (hq : q < q') (hw : ∀ t : Int, q ≤ t → t < q' → ¬ W t) (hl : st < q - 1) : swI W q' (-1) (L ++ [(st, q - 1)]) := by
  have hz : 0 ≤ st ∧ st < q ∧ (∀ t : Int, st ≤ t → t < q → W t) ∧ ¬ W (st - 1) := by
    rcases h.1 with z | z
    · exact absurd z.1 hs
    · exact z
  have hm : mxR W st (q - 1) := ⟨hl, fun t a b => hz.2.2.1 t a (by omega), hz.2.2.2, by rw [show q - 1 + 1 = q by omega]; exact hw q (by omega) hq⟩
  refine ⟨Or.inl ⟨rfl, hw _ (by omega) (by omega)⟩, ?_, fun a b => ?_⟩
  · rw [List.pairwise_append]
    refine ⟨h.2.1, List.pairwise_singleton _ _, fun p hp r hr => ?_⟩
    rw [List.mem_singleton.mp hr]
    obtain ⟨m1, m2⟩ := (h.2.2 p.1 p.2).mp hp
    show p.1 < st
    rcases Int.lt_trichotomy p.1 st with c | c | c
    · exact c
    · exact absurd (hz.2.2.1 (p.2 + 1) (by have := m1.1; omega) (by omega)) m1.2.2.2
    · exact absurd (hz.2.2.1 (p.1 - 1) (by omega) (by have := m1.1; omega)) m1.2.2.1
  · rw [List.mem_append, h.2.2 a b, List.mem_singleton]
    constructor
    · rintro (⟨h1, h2⟩ | h1)
      · exact ⟨h1, by omega⟩
      · obtain ⟨e1, e2⟩ := Prod.mk.inj h1
        subst e1 e2
        exact ⟨hm, by omega⟩
    · rintro ⟨h1, h2⟩
      by_cases c : b + 1 < q
      · exact Or.inl ⟨h1, c⟩
      · obtain ⟨e1, e2⟩ := sw_run h hs hw h1 h2 c
        rw [e1, e2]
        exact Or.inr rfl
theorem sw_out3 {W : Int → Prop} {q q' st : Int} {L : List (Int × Int)} (h : swI W q st L) (hs : ¬ st = -1) (hq : q < q') (hw : ∀ t : Int, q ≤ t → t < q' → ¬ W t) (hl : ¬ st < q - 1) : swI W q' (-1) L := by
  refine ⟨Or.inl ⟨rfl, hw _ (by omega) (by omega)⟩, h.2.1, fun a b => ?_⟩
  rw [h.2.2 a b]
  constructor
  · rintro ⟨h1, h2⟩
    exact ⟨h1, by omega⟩
  · rintro ⟨h1, h2⟩
    refine ⟨h1, ?_⟩
    by_cases c : b + 1 < q
    · exact c
    · obtain ⟨e1, e2⟩ := sw_run h hs hw h1 h2 c
      have := h1.1
      omega
theorem sw_end {W : Int → Prop} {q st : Int} {L : List (Int × Int)} (h : swI W q st L) (hw : ∀ t : Int, q ≤ t + 1 → ¬ W t) : isRn W L := by
  refine ⟨h.2.1, fun a b => (h.2.2 a b).trans ⟨fun z => z.1, fun z => ⟨z, ?_⟩⟩⟩
  rcases Int.lt_or_le (b + 1) q with c | c
  · exact c
  · exact absurd (z.2.1 b (by have := z.1; omega) (by omega)) (hw b c)
theorem sw_0 {W : Int → Prop} {q : Int} (hw : ∀ t : Int, t < q → ¬ W t) : swI W q (-1) [] := by
  refine ⟨Or.inl ⟨rfl, hw _ (by omega)⟩, List.Pairwise.nil, fun a b => ⟨fun h => absurd h (by simp), fun h => ?_⟩⟩
  have := h.1.1
  exact absurd (h.1.2.1 a (by omega) (by omega)) (hw a (by omega))
/-- events at t or before are the first i ones -/
theorem kN_cutA {g : Int → Int} {k t : Int} {i : Nat} (h0 : ∀ j : Int, 0 ≤ j → j < i → g j / 3 ≤ t ∧ g j / 3 ≤ 1000) : kN g k t i = kN g k 1000 i := by
  induction i with
  | zero => rfl
  | succ i ih =>
    show kN g k t i + ind k t (g i) = kN g k 1000 i + ind k 1000 (g i)
    rw [ih (fun j a b => h0 j a (by omega))]
    have z := h0 i (by omega) (by omega)
    unfold ind
    have e : (g i % 3 = k ∧ g i / 3 ≤ t) ↔ (g i % 3 = k ∧ g i / 3 ≤ 1000) := ⟨fun q => ⟨q.1, z.2⟩, fun q => ⟨q.1, z.1⟩⟩
    split <;> split <;> omega
theorem kN_cut {g : Int → Int} {k t : Int} {i : Nat} (h0 : ∀ j : Int, 0 ≤ j → j < i → g j / 3 ≤ t ∧ g j / 3 ≤ 1000) : ∀ d : Nat, (∀ j : Int, i ≤ j → j < i + d → t < g j / 3) → kN g k t (i + d) = kN g k 1000 i
  | 0, _ => kN_cutA h0
  | d + 1, h => by
    show kN g k t (i + d) + ind k t (g ((i + d : Nat) : Int)) = _
    rw [kN_cut h0 d (fun j a b => h j a (by omega))]
    have z := h ((i + d : Nat) : Int) (by omega) (by omega)
    have e : ind k t (g ((i + d : Nat) : Int)) = 0 := by
      unfold ind
      rw [if_neg (by omega)]
    rw [e, Int.add_zero]
def evW (g : Int → Int) (n t : Int) : Prop := 0 < evO g n t ∨ evF g n t % 2 = 1
theorem evW_cut {g : Int → Int} {n i t : Int} (hi : 0 ≤ i ∧ i ≤ n) (h0 : ∀ j : Int, 0 ≤ j → j < i → g j / 3 ≤ t ∧ g j / 3 ≤ 1000) (h1 : ∀ j : Int, i ≤ j → j < n → t < g j / 3) : evW g n t ↔ (0 < kN g 1 1000 i.toNat - kN g 2 1000 i.toNat ∨ kN g 0 1000 i.toNat % 2 = 1) := by
  have e : ∀ k : Int, kN g k t n.toNat = kN g k 1000 i.toNat := fun k => by
    have z := kN_cut (g := g) (k := k) (t := t) (i := i.toNat) (fun j a b => h0 j a (by omega)) (n - i).toNat (fun j a b => h1 j (by omega) (by omega))
    rw [show i.toNat + (n - i).toNat = n.toNat by omega] at z
    exact z
  unfold evW evO evF
  rw [e, e, e]
theorem kN_step {g : Int → Int} {k i : Int} (h : 0 ≤ i) (hg : g i / 3 ≤ 1000) : kN g k 1000 (i + 1).toNat = kN g k 1000 i.toNat + (if g i % 3 = k then 1 else 0) := by
  rw [show (i + 1).toNat = i.toNat + 1 by omega]
  show kN g k 1000 i.toNat + ind k 1000 (g ((i.toNat : Nat) : Int)) = _
  rw [show ((i.toNat : Nat) : Int) = i by omega]
  unfold ind
  have e : (g i % 3 = k ∧ g i / 3 ≤ 1000) ↔ g i % 3 = k := ⟨fun q => q.1, fun q => ⟨q, hg⟩⟩
  split <;> split <;> omega
