/-! the fewest changes, set by set -/
def may (pr : Nat → Nat → Prop) (S : Int) (k : Nat) : Prop := ¬ bt S k ∧ ∀ j, j < k → pr k j → bt S j
noncomputable def vC (few fri : Int → Int) (S c : Int) : Int := few S + pif (bt (fri S) c.toNat) 0 1
theorem vC_rng {few fri : Int → Int} {S c : Int} : few S ≤ vC few fri S c ∧ vC few fri S c ≤ few S + 1 := by
  unfold vC
  by_cases q : bt (fri S) c.toNat
  · rw [pif_pos q]
    omega
  · rw [pif_neg q]
    omega
/-- what is known behind the first m candidates -/
def wgI (ok : Nat → Prop) (v : Nat → Int) (col : Nat → Int) (m : Nat) (fw fr : Int) : Prop :=
  (0 ≤ fw ∧ fw ≤ 10) ∧ (0 ≤ fr ∧ fr < 256) ∧ (∀ j, j < m → ok j → fw ≤ v j) ∧ (fw = 10 ∨ ∃ j, j < m ∧ ok j ∧ v j = fw) ∧ (fw < 10 → ∀ c : Nat, c < 8 → (bt fr c ↔ ∃ j, j < m ∧ ok j ∧ v j = fw ∧ col j = (c : Int)))
theorem wg_0 {ok : Nat → Prop} {v col : Nat → Int} {fr : Int} (h : 0 ≤ fr ∧ fr < 256) : wgI ok v col 0 10 fr :=
  ⟨by decide, h, fun j hj => by omega, Or.inl rfl, fun z => by omega⟩
theorem wg_no {ok : Nat → Prop} {v col : Nat → Int} {m : Nat} {fw fr : Int} (h : wgI ok v col m fw fr) (hm : ok m → fw < v m) : wgI ok v col (m + 1) fw fr := by
  obtain ⟨h1, h2, h3, h4, h5⟩ := h
  refine ⟨h1, h2, fun j hj ho => ?_, ?_, fun hf c hc => ?_⟩
  · by_cases e : j = m
    · subst e
      have := hm ho
      omega
    · exact h3 j (by omega) ho
  · rcases h4 with z | ⟨j, a, b⟩
    · exact Or.inl z
    · exact Or.inr ⟨j, by omega, b⟩
  · rw [h5 hf c hc]
    constructor
    · rintro ⟨j, a, b⟩
      exact ⟨j, by omega, b⟩
    · rintro ⟨j, a, b, d, e⟩
      by_cases q : j = m
      · subst q
        have := hm b
        omega
      · exact ⟨j, by omega, b, d, e⟩
theorem wg_eq {ok : Nat → Prop} {v col : Nat → Int} {m : Nat} {fw fr w : Int} {cm : Nat} (h : wgI ok v col m fw fr) (ho : ok m) (hv : v m = fw) (hl : v m < 10) (hw : 0 ≤ w ∧ w < 256) (hc : col m = (cm : Int)) (hb : ∀ j, bt w j ↔ (bt fr j ∨ j = cm)) : wgI ok v col (m + 1) fw w := by
  obtain ⟨h1, h2, h3, h4, h5⟩ := h
  refine ⟨h1, hw, fun j hj o => ?_, Or.inr ⟨m, by omega, ho, hv⟩, fun hf c hc8 => ?_⟩
  · by_cases e : j = m
    · subst e
      omega
    · exact h3 j (by omega) o
  · rw [hb c, h5 hf c hc8]
    constructor
    · rintro (⟨j, a, b⟩ | e)
      · exact ⟨j, by omega, b⟩
      · exact ⟨m, by omega, ho, hv, by rw [hc, e]⟩
    · rintro ⟨j, a, b, d, e⟩
      by_cases q : j = m
      · subst q
        right
        omega
      · exact Or.inl ⟨j, by omega, b, d, e⟩
theorem wg_lt {ok : Nat → Prop} {v col : Nat → Int} {m : Nat} {fw fr w : Int} {cm : Nat} (h : wgI ok v col m fw fr) (ho : ok m) (hv : v m < fw) (h0 : 0 ≤ v m) (hw : 0 ≤ w ∧ w < 256) (hc : col m = (cm : Int)) (hb : ∀ j, bt w j ↔ j = cm) : wgI ok v col (m + 1) (v m) w := by
  obtain ⟨h1, h2, h3, h4, h5⟩ := h
  refine ⟨by omega, hw, fun j hj o => ?_, Or.inr ⟨m, by omega, ho, rfl⟩, fun hf c hc8 => ?_⟩
  · by_cases e : j = m
    · subst e
      omega
    · have := h3 j (by omega) o
      omega
  · rw [hb c]
    constructor
    · intro e
      exact ⟨m, by omega, ho, rfl, by rw [hc, e]⟩
    · rintro ⟨j, a, b, d, e⟩
      by_cases q : j = m
      · subst q
        omega
      · have := h3 j (by omega) b
        omega
def dpS (n : Nat) (pr : Nat → Nat → Prop) (col : Nat → Int) (few fri : Int → Int) (S : Int) : Prop :=
  (0 ≤ fri S ∧ fri S < 256) ∧ 0 ≤ few S ∧ (S = 2 ^ n - 1 → few S = 0 ∧ ∀ c, c < 8 → bt (fri S) c) ∧ (S ≠ 2 ^ n - 1 → few S ≤ (n : Int) - pop S n - 1 ∧ (∃ k, k < n ∧ may pr S k ∧ vC few fri (S + 2 ^ k) (col k) = few S) ∧ (∀ k, k < n → may pr S k → few S ≤ vC few fri (S + 2 ^ k) (col k)) ∧ ∀ c : Nat, c < 8 → (bt (fri S) c ↔ ∃ k, k < n ∧ may pr S k ∧ vC few fri (S + 2 ^ k) (col k) = few S ∧ col k = (c : Int)))
theorem dp_bd {n : Nat} {pr : Nat → Nat → Prop} {col : Nat → Int} {few fri : Int → Int} {T c : Int} (h : dpS n pr col few fri T) (hc : 0 ≤ c ∧ c < 8) : 0 ≤ vC few fri T c ∧ vC few fri T c ≤ (n : Int) - pop T n := by
  have r := vC_rng (few := few) (fri := fri) (S := T) (c := c)
  refine ⟨by have := h.2.1; omega, ?_⟩
  by_cases e : T = 2 ^ n - 1
  · obtain ⟨e1, e2⟩ := h.2.2.1 e
    unfold vC
    rw [pif_pos (e2 c.toNat (by omega)), e1, e, pop_all n (Nat.le_refl _)]
    omega
  · have := (h.2.2.2 e).1
    omega
theorem dp_v {n : Nat} {pr : Nat → Nat → Prop} {col : Nat → Int} {few fri : Int → Int} {S : Int} {k : Nat} (hn : n ≤ 10) (hS : 0 ≤ S ∧ S ≤ 2 ^ n - 1) (hcol : ∀ k, k < n → 0 ≤ col k ∧ col k < 8) (hk : k < n) (hm : may pr S k) (h : dpS n pr col few fri (S + 2 ^ k)) : 0 ≤ vC few fri (S + 2 ^ k) (col k) ∧ vC few fri (S + 2 ^ k) (col k) ≤ (n : Int) - pop S n - 1 := by
  have b := dp_bd h (hcol k hk)
  have hle := pw_le hn
  rw [pop_add (by omega) (by omega) hm.1 n, if_pos hk] at b
  omega
theorem may_ex {n : Nat} {pr : Nat → Nat → Prop} {S : Int} (hn : n ≤ 10) (hS : 0 ≤ S ∧ S ≤ 2 ^ n - 1) (h : S ≠ 2 ^ n - 1) : ∃ k, k < n ∧ may pr S k := by
  obtain ⟨k, a, b, c⟩ := not_full hn hS h
  exact ⟨k, a, b, fun j hj _ => c j hj⟩
theorem dp_mk {n : Nat} {pr : Nat → Nat → Prop} {col : Nat → Int} {few fri : Int → Int} {S : Int} (hn : n ≤ 10) (hS : 0 ≤ S ∧ S ≤ 2 ^ n - 1) (hne : S ≠ 2 ^ n - 1) (hcol : ∀ k, k < n → 0 ≤ col k ∧ col k < 8) (hT : ∀ T, S < T → T ≤ 2 ^ n - 1 → dpS n pr col few fri T) (h : wgI (may pr S) (fun k => vC few fri (S + 2 ^ k) (col k)) col n (few S) (fri S)) : dpS n pr col few fri S := by
  obtain ⟨h1, h2, h3, h4, h5⟩ := h
  obtain ⟨k, hk, hm⟩ := may_ex (pr := pr) hn hS hne
  have hp := pw_pos k
  have hin := bt_in hn hS hk hm.1
  have hv := dp_v hn hS hcol hk hm (hT _ (by omega) hin.2)
  have hle : few S ≤ vC few fri (S + 2 ^ k) (col k) := h3 k hk hm
  have hlt := pop_rng S n
  refine ⟨h2, h1.1, fun e => absurd e hne, fun _ => ⟨by omega, ?_, h3, fun c hc => h5 (by omega) c hc⟩⟩
  rcases h4 with z | z
  · omega
  · exact z
/-- the value of a set with a colour before it; 8: none -/
noncomputable def vX (few fri : Int → Int) (S c : Int) : Int := if c = 8 then few S else vC few fri S c
def chg (c k : Int) : Int := if c < 8 ∧ ¬ c = k then 1 else 0
def pkP (pr : Nat → Nat → Prop) (col : Nat → Int) (val : Int → Int → Int) (S c : Int) (k : Nat) : Prop := may pr S k ∧ val (S + 2 ^ k) (col k) + chg c (col k) = val S c
def pk (n : Nat) (pr : Nat → Nat → Prop) (col : Nat → Int) (val : Int → Int → Int) (S c : Int) (k : Nat) : Prop := k < n ∧ pkP pr col val S c k ∧ ∀ j, j < k → ¬ pkP pr col val S c j
theorem pk_uniq {n : Nat} {pr : Nat → Nat → Prop} {col : Nat → Int} {val : Int → Int → Int} {S c : Int} {k j : Nat} (h : pk n pr col val S c k) (h2 : pk n pr col val S c j) : k = j := by
  rcases Nat.lt_trichotomy k j with q | q | q
  · exact absurd h.2.1 (h2.2.2 k q)
  · exact q
  · exact absurd h2.2.1 (h.2.2 j q)
theorem vX_col {few fri : Int → Int} {S c : Int} (h : c < 8) : vX few fri S c = vC few fri S c := if_neg (by omega)
theorem vX_ex {n : Nat} {pr : Nat → Nat → Prop} {col : Nat → Int} {few fri : Int → Int} {S c : Int} (hcol : ∀ k, k < n → 0 ≤ col k ∧ col k < 8) (hd : dpS n pr col few fri S) (hne : S ≠ 2 ^ n - 1) (hc : 0 ≤ c ∧ c ≤ 8) : ∃ k, k < n ∧ pkP pr col (vX few fri) S c k := by
  obtain ⟨-, ⟨k, hk, hm, hv⟩, h3, h4⟩ := hd.2.2.2 hne
  by_cases e : c = 8
  · refine ⟨k, hk, hm, ?_⟩
    rw [vX_col (hcol k hk).2, hv]
    unfold vX chg
    rw [if_pos e, if_neg (by omega)]
    omega
  · by_cases q : bt (fri S) c.toNat
    · obtain ⟨j, a, b, d, f⟩ := (h4 c.toNat (by omega)).mp q
      refine ⟨j, a, b, ?_⟩
      rw [vX_col (hcol j a).2, d, vX_col (by omega)]
      unfold vC chg
      rw [pif_pos q, if_neg (by omega)]
    · refine ⟨k, hk, hm, ?_⟩
      rw [vX_col (hcol k hk).2, hv, vX_col (by omega)]
      have hck : ¬ c = col k := fun z => q ((h4 c.toNat (by omega)).mpr ⟨k, hk, hm, hv, by omega⟩)
      unfold vC chg
      rw [pif_neg q, if_pos ⟨by omega, hck⟩]
theorem vX_le {n : Nat} {pr : Nat → Nat → Prop} {col : Nat → Int} {few fri : Int → Int} {S c : Int} {k : Nat} (hcol : ∀ k, k < n → 0 ≤ col k ∧ col k < 8) (hd : dpS n pr col few fri S) (hne : S ≠ 2 ^ n - 1) (hc : 0 ≤ c ∧ c ≤ 8) (hk : k < n) (hm : may pr S k) : vX few fri S c ≤ vX few fri (S + 2 ^ k) (col k) + chg c (col k) := by
  obtain ⟨-, -, h3, h4⟩ := hd.2.2.2 hne
  have hv := h3 k hk hm
  rw [vX_col (hcol k hk).2]
  by_cases e : c = 8
  · unfold vX chg
    rw [if_pos e, if_neg (by omega)]
    omega
  · rw [vX_col (by omega)]
    by_cases q : bt (fri S) c.toNat
    · unfold chg
      have : vC few fri S c = few S := by
        unfold vC
        rw [pif_pos q]
        omega
      rw [this]
      split <;> omega
    · have : vC few fri S c = few S + 1 := by
        unfold vC
        rw [pif_neg q]
      rw [this]
      by_cases z : c = col k
      · have hn : ¬ vC few fri (S + 2 ^ k) (col k) = few S := fun y => q ((h4 c.toNat (by omega)).mpr ⟨k, hk, hm, y, by omega⟩)
        unfold chg
        rw [if_neg (by omega)]
        omega
      · unfold chg
        rw [if_pos ⟨by omega, z⟩]
        omega
theorem pk_ex {n : Nat} {pr : Nat → Nat → Prop} {col : Nat → Int} {few fri : Int → Int} {S c : Int} (hcol : ∀ k, k < n → 0 ≤ col k ∧ col k < 8) (hd : dpS n pr col few fri S) (hne : S ≠ 2 ^ n - 1) (hc : 0 ≤ c ∧ c ≤ 8) : ∃ k, pk n pr col (vX few fri) S c k := by
  obtain ⟨k, hk, h⟩ := vX_ex hcol hd hne hc
  obtain ⟨j, a, b, d⟩ := least_ex (P := fun j => ¬ pkP pr col (vX few fri) S c j) n ⟨k, hk, fun z => z h⟩
  exact ⟨j, a, Classical.byContradiction (fun z => b z), d⟩
/-- the reference's table -/
def lfS (n : Nat) (pr : Nat → Nat → Prop) (col : Nat → Int) (lf : Int → Int → Int) (S : Int) : Prop :=
  (S = 2 ^ n - 1 → ∀ c : Int, 0 ≤ c → c ≤ 8 → lf S c = 0) ∧ (S ≠ 2 ^ n - 1 → ∀ c : Int, 0 ≤ c → c ≤ 8 → (∃ k, k < n ∧ may pr S k ∧ lf (S + 2 ^ k) (col k) + chg c (col k) = lf S c) ∧ ∀ k, k < n → may pr S k → lf S c ≤ lf (S + 2 ^ k) (col k) + chg c (col k))
theorem lf_eq {n : Nat} {pr : Nat → Nat → Prop} {col : Nat → Int} {few fri : Int → Int} {lf : Int → Int → Int} (hn : n ≤ 10) (hcol : ∀ k, k < n → 0 ≤ col k ∧ col k < 8) (hd : ∀ S, 0 ≤ S → S ≤ 2 ^ n - 1 → dpS n pr col few fri S) (hl : ∀ S, 0 ≤ S → S ≤ 2 ^ n - 1 → lfS n pr col lf S) : ∀ (m : Nat) (S c : Int), (2 : Int) ^ n - 1 - S < m → 0 ≤ S → S ≤ 2 ^ n - 1 → 0 ≤ c → c ≤ 8 → lf S c = vX few fri S c
  | 0, S, c, h, h1, h2, h3, h4 => by omega
  | m + 1, S, c, h, h1, h2, h3, h4 => by
    have d := hd S h1 h2
    have l := hl S h1 h2
    by_cases e : S = 2 ^ n - 1
    · rw [l.1 e c h3 h4]
      obtain ⟨d1, d2⟩ := d.2.2.1 e
      by_cases q : c = 8
      · unfold vX
        rw [if_pos q, d1]
      · rw [vX_col (by omega)]
        unfold vC
        rw [pif_pos (d2 c.toNat (by omega)), d1]
        rfl
    · have ih : ∀ k, k < n → may pr S k → lf (S + 2 ^ k) (col k) = vX few fri (S + 2 ^ k) (col k) := fun k hk hm => by
        have hp := pw_pos k
        have hin := bt_in hn ⟨h1, h2⟩ hk hm.1
        exact lf_eq hn hcol hd hl m (S + 2 ^ k) (col k) (by omega) hin.1 hin.2 (hcol k hk).1 (by have := (hcol k hk).2; omega)
      obtain ⟨⟨k, a, b, f⟩, g⟩ := l.2 e c h3 h4
      obtain ⟨j, a2, b2, f2⟩ := vX_ex hcol d e ⟨h3, h4⟩
      have x1 := g j a2 b2
      rw [ih j a2 b2, f2] at x1
      have x2 := vX_le hcol d e ⟨h3, h4⟩ a b
      rw [← ih k a b, f] at x2
      omega
/-- the choices one after the other -/
def chn (n : Nat) (pr : Nat → Nat → Prop) (col : Nat → Int) (val : Int → Int → Int) : Int → Int → List Nat → Prop
  | _, _, [] => True
  | S, c, k :: ks => pk n pr col val S c k ∧ chn n pr col val (S + 2 ^ k) (col k) ks
def chS' (S : Int) : List Nat → Int
  | [] => S
  | k :: ks => chS' (S + 2 ^ k) ks
def chC (col : Nat → Int) (c : Int) : List Nat → Int
  | [] => c
  | k :: ks => chC col (col k) ks
theorem chn_snoc {n : Nat} {pr : Nat → Nat → Prop} {col : Nat → Int} {val : Int → Int → Int} {k : Nat} : ∀ {ks : List Nat} {S c : Int}, chn n pr col val S c ks → pk n pr col val (chS' S ks) (chC col c ks) k → chn n pr col val S c (ks ++ [k])
  | [], _, _, _, h => ⟨h, trivial⟩
  | _ :: _, _, _, h, h2 => ⟨h.1, chn_snoc h.2 h2⟩
theorem chS_snoc {k : Nat} : ∀ {ks : List Nat} {S : Int}, chS' S (ks ++ [k]) = chS' S ks + 2 ^ k
  | [], _ => rfl
  | j :: ks, S => chS_snoc (ks := ks) (S := S + 2 ^ j)
theorem chC_snoc {col : Nat → Int} {k : Nat} : ∀ {ks : List Nat} {c : Int}, chC col c (ks ++ [k]) = col k
  | [], _ => rfl
  | j :: ks, _ => chC_snoc (ks := ks) (c := col j)
theorem chn_uniq {n : Nat} {pr : Nat → Nat → Prop} {col : Nat → Int} {val : Int → Int → Int} : ∀ {L M : List Nat} {S c : Int}, chn n pr col val S c L → chn n pr col val S c M → L.length = M.length → L = M
  | [], [], _, _, _, _, _ => rfl
  | [], _ :: _, _, _, _, _, h => absurd h (by simp)
  | _ :: _, [], _, _, _, _, h => absurd h (by simp)
  | k :: L, j :: M, _, _, h1, h2, h => by
    have e := pk_uniq h1.1 h2.1
    subst e
    rw [chn_uniq h1.2 h2.2 (by simpa using h)]
