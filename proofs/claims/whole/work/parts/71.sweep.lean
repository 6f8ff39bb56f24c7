/-! events in their order, and how many of a kind lie before a place -/
def ind (k p e : Int) : Int := if e % 3 = k ∧ e / 3 ≤ p then 1 else 0
def kN (g : Int → Int) (k p : Int) : Nat → Int
  | 0 => 0
  | n + 1 => kN g k p n + ind k p (g (n : Int))
def srt (g : Int → Int) (n : Int) : Prop := ∀ i j : Int, 0 ≤ i → i < j → j < n → g i ≤ g j
/-- e has been put into g -/
def insd (g g1 : Int → Int) (n e : Int) : Prop := ∃ i : Int, (0 ≤ i ∧ i ≤ n) ∧ (∀ j : Int, 0 ≤ j → j < i → g1 j = g j ∧ g j ≤ e) ∧ g1 i = e ∧ ∀ j : Int, i ≤ j → j < n → g1 (j + 1) = g j ∧ e < g j
theorem insd_srt {g g1 : Int → Int} {n e : Int} (hs : srt g n) (h : insd g g1 n e) : srt g1 (n + 1) := by
  obtain ⟨i, hi, h1, h2, h3⟩ := h
  intro a b q1 q2 q3
  rcases Int.lt_trichotomy b i with c | c | c
  · rw [(h1 a q1 (by omega)).1, (h1 b (by omega) c).1]
    exact hs a b q1 q2 (by omega)
  · rw [c, h2, (h1 a q1 (by omega)).1]
    exact (h1 a q1 (by omega)).2
  · have x := h3 (b - 1) (by omega) (by omega)
    rw [show b - 1 + 1 = b by omega] at x
    rw [x.1]
    rcases Int.lt_trichotomy a i with d | d | d
    · have y := h1 a q1 d
      rw [y.1]
      omega
    · rw [d, h2]
      omega
    · have y := h3 (a - 1) (by omega) (by omega)
      rw [show a - 1 + 1 = a by omega] at y
      rw [y.1]
      exact hs _ _ (by omega) (by omega) (by omega)
theorem insd_all {g g1 : Int → Int} {n e : Int} {Q : Int → Prop} (h : insd g g1 n e) (hq : ∀ j : Int, 0 ≤ j → j < n → Q (g j)) (he : Q e) : ∀ j : Int, 0 ≤ j → j < n + 1 → Q (g1 j) := by
  obtain ⟨i, hi, h1, h2, h3⟩ := h
  intro a q1 q2
  rcases Int.lt_trichotomy a i with d | d | d
  · rw [(h1 a q1 d).1]
    exact hq a q1 (by omega)
  · rw [d, h2]
    exact he
  · have y := h3 (a - 1) (by omega) (by omega)
    rw [show a - 1 + 1 = a by omega] at y
    rw [y.1]
    exact hq _ (by omega) (by omega)
theorem kN_congr {g g1 : Int → Int} {k p : Int} : ∀ n : Nat, (∀ j : Int, 0 ≤ j → j < n → g1 j = g j) → kN g1 k p n = kN g k p n
  | 0, _ => rfl
  | n + 1, h => by
    show kN g1 k p n + ind k p (g1 n) = kN g k p n + ind k p (g n)
    rw [kN_congr n (fun j a b => h j a (by omega)), h n (by omega) (by omega)]
theorem insd_kNA {g g1 : Int → Int} {i : Nat} {e k p : Int} (h1 : ∀ j : Int, 0 ≤ j → j < i → g1 j = g j) (h2 : g1 i = e) : ∀ d : Nat, (∀ j : Int, i ≤ j → j < i + d → g1 (j + 1) = g j) → kN g1 k p (i + d + 1) = kN g k p (i + d) + ind k p e
  | 0, _ => by
    show kN g1 k p i + ind k p (g1 i) = kN g k p i + ind k p e
    rw [kN_congr i h1, h2]
  | d + 1, h => by
    show kN g1 k p (i + d + 1) + ind k p (g1 ((i + d + 1 : Nat) : Int)) = kN g k p (i + d) + ind k p (g ((i + d : Nat) : Int)) + ind k p e
    rw [insd_kNA h1 h2 d (fun j a b => h j a (by omega))]
    have e1 := h ((i + d : Nat) : Int) (by omega) (by omega)
    have e2 : ((i + d : Nat) : Int) + 1 = ((i + d + 1 : Nat) : Int) := by omega
    rw [e2] at e1
    rw [e1]
    omega
theorem insd_kN {g g1 : Int → Int} {n e k p : Int} (h : insd g g1 n e) : kN g1 k p (n + 1).toNat = kN g k p n.toNat + ind k p e := by
  obtain ⟨i, hi, h1, h2, h3⟩ := h
  have a := insd_kNA (g := g) (g1 := g1) (i := i.toNat) (e := e) (k := k) (p := p) (fun j a b => (h1 j a (by omega)).1) (by rw [show ((i.toNat : Nat) : Int) = i by omega]; exact h2) (n - i).toNat (fun j a b => (h3 j (by omega) (by omega)).1)
  rw [show i.toNat + (n - i).toNat + 1 = (n + 1).toNat by omega, show i.toNat + (n - i).toNat = n.toNat by omega] at a
  exact a
/-- what n events in g amount to: edges that lie at p; half-lines that are crossed there -/
def evO (g : Int → Int) (n p : Int) : Int := kN g 1 p n.toNat - kN g 2 p n.toNat
def evF (g : Int → Int) (n p : Int) : Int := kN g 0 p n.toNat
def evOk (g : Int → Int) (n : Int) : Prop := srt g n ∧ ∀ j : Int, 0 ≤ j → j < n → 0 ≤ g j ∧ g j ≤ 1805
theorem ind_at {k p a b : Int} (hb : 0 ≤ b ∧ b < 3) : ind k p (a * 3 + b) = if b = k ∧ a ≤ p then 1 else 0 := by
  unfold ind
  rw [show (a * 3 + b) % 3 = b by omega, show (a * 3 + b) / 3 = a by omega]
theorem ev_on {g g1 g2 : Int → Int} {n lo hi p : Int} (h1 : insd g g1 n (lo * 3 + 1)) (h2 : insd g1 g2 (n + 1) ((hi + 1) * 3 + 2)) (hl : lo ≤ hi) : evO g2 (n + 1 + 1) p = evO g n p + (if lo ≤ p ∧ p ≤ hi then 1 else 0) ∧ evF g2 (n + 1 + 1) p = evF g n p := by
  unfold evO evF
  rw [insd_kN h2, insd_kN h2, insd_kN h2, insd_kN h1, insd_kN h1, insd_kN h1, ind_at (by decide), ind_at (by decide), ind_at (by decide), ind_at (by decide), ind_at (by decide), ind_at (by decide)]
  refine ⟨?_, ?_⟩
  · split <;> split <;> split <;> split <;> split <;> omega
  · split <;> split <;> omega
theorem ev_cr {g g1 g2 : Int → Int} {n lo hi p : Int} (h1 : insd g g1 n (lo * 3 + 0)) (h2 : insd g1 g2 (n + 1) ((hi + 1) * 3 + 0)) (hl : lo ≤ hi) : evO g2 (n + 1 + 1) p = evO g n p ∧ evF g2 (n + 1 + 1) p % 2 = (evF g n p + (if lo ≤ p ∧ p ≤ hi then 1 else 0)) % 2 := by
  unfold evO evF
  rw [insd_kN h2, insd_kN h2, insd_kN h2, insd_kN h1, insd_kN h1, insd_kN h1, ind_at (by decide), ind_at (by decide), ind_at (by decide), ind_at (by decide), ind_at (by decide), ind_at (by decide)]
  refine ⟨?_, ?_⟩
  · split <;> split <;> split <;> split <;> omega
  · split <;> split <;> split <;> omega
