/-! what holds between the class and the reference -/
def ivA (F : Nat → Nat → Int) : Prop := (0 ≤ F 0 8 ∧ F 0 8 ≤ 10) ∧ F 244 1 = F 0 8 ∧ (F 0 10 = 0 ∨ F 0 10 = 1) ∧ F 244 2 = F 0 10 ∧ (F 0 10 = 1 → F 0 8 ≤ 9) ∧ (F 235 6 = 0 ∨ F 235 6 = 1)
def ivF (F : Nat → Nat → Int) : Prop := F 244 9 = F 224 6 ∧ F 244 10 = F 224 7 ∧ F 244 11 = F 224 8
def ivL (F : Nat → Nat → Int) (G : Nat → Int → Int) : Prop := byOk (G 223) (F 0 9) ∧ F 244 30 = F 0 9 ∧ ∀ i : Int, 0 ≤ i → i < F 0 9 → G 261 i = G 223 i
def ivP (F : Nat → Nat → Int) (G : Nat → Int → Int) : Prop := pRec F G ∧ F 244 20 = F 236 1 ∧ ∀ a : Int, 0 ≤ a → a < F 236 1 → G 258 a = cX G a ∧ G 259 a = cY G a ∧ G 260 a = cK G a
def ivQ (F : Nat → Nat → Int) (G : Nat → Int → Int) : Prop := ∀ j : Int, 0 ≤ j → j < F 0 8 → G 250 j = G 222 j ∧ 0 ≤ G 222 j ∧ G 222 j < F 0 8
def ivT (G : Nat → Int → Int) : Prop := ∀ T : Int, 0 ≤ T → T < 1024 → 0 ≤ G 240 T ∧ G 240 T < 256
def ivS (F : Nat → Nat → Int) (G : Nat → Int → Int) : Prop := ∀ j : Int, 0 ≤ j → j < F 0 8 → cpl F G (2 + 22 * j.toNat) j
def opn (F : Nat → Nat → Int) (G : Nat → Int → Int) (k : Nat) : Prop := opOk F G k ∧ same F G k 10 ∧ (F k 4 = 1 → G 246 42 = 0 ∧ G 246 43 = 0)
def ivO (F : Nat → Nat → Int) (G : Nat → Int → Int) : Prop := cnts G 10 ∧ (0 ≤ G 245 41 ∧ G 245 41 ≤ 2) ∧ (F 0 10 = 1 → opn F G (2 + 22 * (F 0 8).toNat))
def Inv (F : Nat → Nat → Int) (G : Nat → Int → Int) : Prop := ivA F ∧ ivF F ∧ ivL F G ∧ ivP F G ∧ ivQ F G ∧ ivT G ∧ ivS F G ∧ ivO F G
theorem ivA_cong {F F1 : Nat → Nat → Int} (h : ivA F) (h1 : F1 0 8 = F 0 8) (h2 : F1 0 10 = F 0 10) (h3 : F1 244 1 = F 244 1) (h4 : F1 244 2 = F 244 2) (h5 : F1 235 6 = F 235 6) : ivA F1 := by
  unfold ivA
  rw [h1, h2, h3, h4, h5]
  exact h
theorem ivF_cong {F F1 : Nat → Nat → Int} (h : ivF F) (h1 : ∀ b, F1 224 b = F 224 b) (h2 : ∀ b, b = 9 ∨ b = 10 ∨ b = 11 → F1 244 b = F 244 b) : ivF F1 := by
  unfold ivF
  rw [h1, h1, h1, h2 9 (by decide), h2 10 (by decide), h2 11 (by decide)]
  exact h
theorem ivL_cong {F F1 : Nat → Nat → Int} {G G1 : Nat → Int → Int} (h : ivL F G) (h1 : F1 0 9 = F 0 9) (h2 : F1 244 30 = F 244 30) (h3 : G1 223 = G 223) (h4 : G1 261 = G 261) : ivL F1 G1 := by
  unfold ivL
  rw [h1, h2, h3, h4]
  exact h
theorem ivP_cong {F F1 : Nat → Nat → Int} {G G1 : Nat → Int → Int} (h : ivP F G) (h1 : F1 236 1 = F 236 1) (h2 : F1 244 20 = F 244 20) (h3 : G1 237 = G 237) (h4 : G1 258 = G 258) (h5 : G1 259 = G 259) (h6 : G1 260 = G 260) : ivP F1 G1 := by
  unfold ivP pRec pOk cX cY cK at h ⊢
  rw [h1, h2, h3, h4, h5, h6]
  exact h
theorem ivQ_cong {F F1 : Nat → Nat → Int} {G G1 : Nat → Int → Int} (h : ivQ F G) (h1 : F1 0 8 = F 0 8) (h2 : G1 222 = G 222) (h3 : G1 250 = G 250) : ivQ F1 G1 := by
  unfold ivQ
  rw [h1, h2, h3]
  exact h
theorem ivT_cong {G G1 : Nat → Int → Int} (h : ivT G) (h1 : G1 240 = G 240) : ivT G1 := by
  unfold ivT
  rw [h1]
  exact h
theorem ivS_cong {F F1 : Nat → Nat → Int} {G G1 : Nat → Int → Int} (hn : F 0 8 ≤ 10) (h : ivS F G) (h1 : F1 0 8 = F 0 8) (hF : ∀ a b, 2 ≤ a → a < 222 → F1 a b = F a b) (hG : ∀ a, 2 ≤ a → a < 222 → G1 a = G a) (hR : ∀ a, 245 ≤ a → a ≤ 249 → G1 a = G a) : ivS F1 G1 := by
  intro j j0 j1
  rw [h1] at j1
  refine cpl_cong (h j j0 j1) (fun a b c d => hF a b (by omega) (by omega)) (fun a c d => hG a (by omega) (by omega)) ⟨fun i _ _ => ?_, fun i _ _ => ?_⟩
  · rw [hR 245 (by decide) (by decide), hR 246 (by decide) (by decide), hR 249 (by decide) (by decide)]
    exact ⟨rfl, rfl, rfl⟩
  · rw [hR 247 (by decide) (by decide), hR 248 (by decide) (by decide)]
    exact ⟨rfl, rfl⟩
theorem opn_cong {F F1 : Nat → Nat → Int} {G G1 : Nat → Int → Int} {k : Nat} (h : opn F G k) (hF : ∀ a b, k ≤ a → a < k + 22 → F1 a b = F a b) (hG : ∀ a, k ≤ a → a < k + 22 → G1 a = G a) (hR : ∀ a, 245 ≤ a → a ≤ 248 → G1 a = G a) : opn F1 G1 k := by
  obtain ⟨h1, h2, h3⟩ := h
  have hb := same_bd h2
  refine ⟨opOk_cong h1 (fun a b c d => hF a b c (by omega)) (fun a c d => hG a c (by omega)), same_cong h2 hF hG (fun i _ _ => ?_) (fun i _ _ => ?_) hb.1 hb.2, ?_⟩
  · rw [hR 245 (by decide) (by decide), hR 246 (by decide) (by decide)]
    exact ⟨rfl, rfl⟩
  · rw [hR 247 (by decide) (by decide), hR 248 (by decide) (by decide)]
    exact ⟨rfl, rfl⟩
  · rw [hF k 4 (by omega) (by omega), hR 246 (by decide) (by decide)]
    exact h3
theorem ivO_cong {F F1 : Nat → Nat → Int} {G G1 : Nat → Int → Int} (hA : ivA F) (h : ivO F G) (h1 : F1 0 8 = F 0 8) (h2 : F1 0 10 = F 0 10) (hF : ∀ a b, 2 ≤ a → a < 222 → F1 a b = F a b) (hG : ∀ a, 2 ≤ a → a < 222 → G1 a = G a) (hR : ∀ a, 245 ≤ a → a ≤ 248 → G1 a = G a) : ivO F1 G1 := by
  obtain ⟨a1, a2, a3⟩ := h
  refine ⟨?_, ?_, fun o => ?_⟩
  · unfold cnts
    rw [hR 246 (by decide) (by decide)]
    exact a1
  · rw [hR 245 (by decide) (by decide)]
    exact a2
  · rw [h2] at o
    rw [h1]
    have n9 := hA.2.2.2.2.1 o
    have n0 := hA.1
    exact opn_cong (a3 o) (fun a b c d => hF a b (by omega) (by omega)) (fun a c d => hG a (by omega) (by omega)) hR
/-- a call that only asks leaves it -/
theorem iv_q {F F1 : Nat → Nat → Int} {G G1 : Nat → Int → Int} (h : Inv F G) (hF : ∀ a b, ¬ (a = 244 ∧ (b = 0 ∨ b = 12 ∨ (26 ≤ b ∧ b ≤ 28))) → F1 a b = F a b) (hG : ∀ a, ¬ (251 ≤ a ∧ a ≤ 257) → a ≠ 264 → G1 a = G a) : Inv F1 G1 := by
  obtain ⟨h1, h2, h3, h4, h5, h6, h7, h8⟩ := h
  refine ⟨ivA_cong h1 (hF _ _ (by omega)) (hF _ _ (by omega)) (hF _ _ (by omega)) (hF _ _ (by omega)) (hF _ _ (by omega)), ivF_cong h2 (fun b => hF _ _ (by omega)) (fun b z => hF _ _ (by omega)), ivL_cong h3 (hF _ _ (by omega)) (hF _ _ (by omega)) (hG _ (by omega) (by omega)) (hG _ (by omega) (by omega)), ivP_cong h4 (hF _ _ (by omega)) (hF _ _ (by omega)) (hG _ (by omega) (by omega)) (hG _ (by omega) (by omega)) (hG _ (by omega) (by omega)) (hG _ (by omega) (by omega)), ivQ_cong h5 (hF _ _ (by omega)) (hG _ (by omega) (by omega)) (hG _ (by omega) (by omega)), ivT_cong h6 (hG _ (by omega) (by omega)), ivS_cong h1.1.2 h7 (hF _ _ (by omega)) (fun a b c d => hF a b (by omega)) (fun a c d => hG a (by omega) (by omega)) (fun a c d => hG a (by omega) (by omega)), ivO_cong h1 h8 (hF _ _ (by omega)) (hF _ _ (by omega)) (fun a b c d => hF a b (by omega)) (fun a c d => hG a (by omega) (by omega)) (fun a c d => hG a (by omega) (by omega))⟩
theorem iv_t {F : Nat → Nat → Int} {G : Nat → Int → Int} (h : Inv F G) (v : Int) : Inv (fU F 244 0 v) G := iv_q h (fun a b z => by
  unfold fU
  rw [if_neg (by omega)]) (fun _ _ _ => rfl)
theorem iv_g {F : Nat → Nat → Int} {G : Nat → Int → Int} (h : Inv F G) (v : Int) : Inv F (gU G 264 0 v) := iv_q h (fun _ _ _ => rfl) (fun a _ z => gU_k _ _ _ z)
theorem iv_m {F : Nat → Nat → Int} {G : Nat → Int → Int} (h : Inv F G) : mRec F G := by
  obtain ⟨⟨⟨p1, p2⟩, p3⟩, p4, p5⟩ := h.2.2.2.1
  unfold mRec
  rw [p4]
  refine ⟨p1, fun a a0 a1 => ?_⟩
  have z := p3 a a0 a1
  have y := p5 a a0 a1
  have u := p2 a a0 a1
  rw [y.1, y.2.1, y.2.2]
  refine ⟨z.1, z.2, ?_⟩
  unfold cK
  omega
-- what hangs on the first of the records only
theorem sumN_cg {f g : Int → Int} : ∀ n : Nat, (∀ i : Int, 0 ≤ i → i < n → f i = g i) → sumN f n = sumN g n
  | 0, _ => rfl
  | n + 1, h => by
    show sumN f n + f (n : Int) = sumN g n + g (n : Int)
    rw [sumN_cg n (fun i a b => h i a (by omega)), h (n : Int) (by omega) (by omega)]
theorem pmin_cg {f g : Int → Int} : ∀ n : Nat, (∀ i : Int, 0 ≤ i → i < n → f i = g i) → pmin f n = pmin g n
  | 0, _ => rfl
  | n + 1, h => by
    show min (pmin f n) (sumN f (n + 1)) = min (pmin g n) (sumN g (n + 1))
    rw [pmin_cg n (fun i a b => h i a (by omega)), sumN_cg (n + 1) h]
theorem pmax_cg {f g : Int → Int} : ∀ n : Nat, (∀ i : Int, 0 ≤ i → i < n → f i = g i) → pmax f n = pmax g n
  | 0, _ => rfl
  | n + 1, h => by
    show max (pmax f n) (sumN f (n + 1)) = max (pmax g n) (sumN g (n + 1))
    rw [pmax_cg n (fun i a b => h i a (by omega)), sumN_cg (n + 1) h]
theorem stN_cg {f g : Int → Int} : ∀ n : Nat, (∀ i : Int, 0 ≤ i → i < n → f i = g i) → stN f n = stN g n
  | 0, _ => rfl
  | n + 1, h => by
    show stN f n + (if f (n : Int) = 3 then 1 else 0) = stN g n + (if g (n : Int) = 3 then 1 else 0)
    rw [stN_cg n (fun i a b => h i a (by omega)), h (n : Int) (by omega) (by omega)]
theorem thN_cg {X X' Y Y' K K' : Int → Int} {s : Int} : ∀ n : Nat, (∀ i : Int, 0 ≤ i → i < n → X i = X' i ∧ Y i = Y' i ∧ K i = K' i) → thN X Y K s n = thN X' Y' K' s n
  | 0, _ => rfl
  | n + 1, h => by
    have z := h (n : Int) (by omega) (by omega)
    show thN X Y K s n + (if K (n : Int) = 0 ∧ stN K n = s then rootU (X (n : Int) * X (n : Int) + Y (n : Int) * Y (n : Int)) else 0) = thN X' Y' K' s n + (if K' (n : Int) = 0 ∧ stN K' n = s then rootU (X' (n : Int) * X' (n : Int) + Y' (n : Int) * Y' (n : Int)) else 0)
    rw [thN_cg n (fun i a b => h i a (by omega)), stN_cg n (fun i a b => (h i a (by omega)).2.2), z.1, z.2.1, z.2.2]
-- the calls that only ask, and throw nothing
theorem o_fault {F : Nat → Nat → Int} {G : Nat → Int → Int} (h : Inv F G) (p1 : Int) (q1 : -2147483648 ≤ p1 ∧ p1 < 2147483648) : oq_fault Inv F G p1 := by
  refine ⟨_, c_Dk_fault F G p1 q1, fun z1 h1 => ⟨_, c_Mo_fault F G p1 q1, fun z F2 G2 h2 => ?_⟩⟩
  obtain ⟨rfl, rfl, e⟩ := h2
  have hf := h.2.1
  rw [hf.1, hf.2.1, hf.2.2] at e
  exact ⟨by rw [show z1 = z from h1.trans e.symm], iv_t h 0⟩
theorem o_count {F : Nat → Nat → Int} {G : Nat → Int → Int} (h : Inv F G) (p1 : Int) (q1 : -2147483648 ≤ p1 ∧ p1 < 2147483648) : oq_count Inv F G p1 := by
  obtain ⟨hA, -, hL, hP, -⟩ := id h
  refine ⟨_, c_Dk_count F G p1 q1 hA.2.2.1, fun z1 h1 => ⟨_, c_Mo_count F G p1 q1 (by rw [hA.2.2.2.1]; exact hA.2.2.1), fun z F2 G2 h2 => ?_⟩⟩
  obtain ⟨rfl, rfl, e⟩ := h2
  rw [hA.2.1, hA.2.2.2.1, hL.2.1, hP.2.1] at e
  exact ⟨by rw [show z1 = z from h1.trans e.symm], iv_t h 0⟩
theorem o_order {F : Nat → Nat → Int} {G : Nat → Int → Int} (h : Inv F G) (p1 : Int) (q1 : -2147483648 ≤ p1 ∧ p1 < 2147483648) : oq_order Inv F G p1 := by
  obtain ⟨hA, -, hL, hP, hQ, -⟩ := id h
  refine ⟨_, c_Dk_order F G p1 q1 hA.1, fun z1 h1 => ⟨_, c_Mo_order F G p1 q1 (by rw [hA.2.1]; exact hA.1), fun z F2 G2 h2 => ?_⟩⟩
  obtain ⟨rfl, rfl, e⟩ := h2
  rw [hA.2.1] at e
  have e1 : z1 = z := by
    rw [e, show z1 = _ from h1]
    split
    · rename_i c
      exact (hQ p1 c.1 c.2).1.symm
    · rfl
  exact ⟨by rw [e1], iv_t h 0⟩
theorem o_thread {F : Nat → Nat → Int} {G : Nat → Int → Int} (h : Inv F G) (p1 : Int) (q1 : -2147483648 ≤ p1 ∧ p1 < 2147483648) : oq_thread Inv F G p1 := by
  obtain ⟨hA, -, hL, hP, hQ, -⟩ := id h
  refine ⟨_, c_Dk_thread F G p1 q1 hP.1.1, fun z1 h1 => ⟨_, c_Mo_thread F G p1 q1 (iv_m h), fun z F2 G2 h2 => ?_⟩⟩
  obtain ⟨rfl, rfl, e⟩ := h2
  rw [hP.2.1] at e
  have e1 : z1 = z := by
    rw [e, show z1 = _ from h1]
    exact thN_cg _ (fun i a b => by
      have y := hP.2.2 i a (by omega)
      exact ⟨y.1.symm, y.2.1.symm, y.2.2.symm⟩)
  exact ⟨by rw [e1], iv_t h 0⟩
theorem o_hoop {F : Nat → Nat → Int} {G : Nat → Int → Int} (h : Inv F G) (p1 p2 : Int) (q1 : -2147483648 ≤ p1 ∧ p1 < 2147483648) (q2 : -2147483648 ≤ p2 ∧ p2 < 2147483648) : oq_hoop Inv F G p1 p2 := by
  obtain ⟨hA, -, hL, hP, hQ, -⟩ := id h
  refine ⟨_, c_Dk_hoop F G p1 p2 q1 q2 hP.1.1, fun z1 h1 => ⟨_, c_Mo_hoop F G p1 p2 q1 q2 (iv_m h), fun z F2 G2 h2 => ?_⟩⟩
  have ex : ∀ i : Int, 0 ≤ i → i < (F 236 1).toNat → G 258 i = cX G i := fun i a b => (hP.2.2 i a (by omega)).1
  have ey : ∀ i : Int, 0 ≤ i → i < (F 236 1).toNat → G 259 i = cY G i := fun i a b => (hP.2.2 i a (by omega)).2.1
  obtain ⟨rfl, rfl, e⟩ := h2
  rw [hP.2.1] at e
  rw [pmin_cg _ ex, pmax_cg _ ex, pmin_cg _ ey, pmax_cg _ ey] at e
  exact ⟨by rw [show z1 = z from h1.trans e.symm], iv_t h 0⟩
theorem stop_uniq {K K' : Int → Int} {n i z z' : Int} (hk : ∀ a : Int, 0 ≤ a → a < n → K' a = K a) (h : (z = -1 ∧ (i < 0 ∨ ∀ a : Int, i ≤ a → a < n → ¬ K a = 3)) ∨ ((0 ≤ i ∧ i ≤ z ∧ z < n) ∧ K z = 3 ∧ ∀ a : Int, i ≤ a → a < z → ¬ K a = 3)) (h' : (z' = -1 ∧ (i < 0 ∨ ∀ a : Int, i ≤ a → a < n → ¬ K' a = 3)) ∨ ((0 ≤ i ∧ i ≤ z' ∧ z' < n) ∧ K' z' = 3 ∧ ∀ a : Int, i ≤ a → a < z' → ¬ K' a = 3)) : z = z' := by
  rcases h with ⟨a1, a2⟩ | ⟨a1, a2, a3⟩ <;> rcases h' with ⟨b1, b2⟩ | ⟨b1, b2, b3⟩
  · omega
  · rw [hk z' (by omega) (by omega)] at b2
    rcases a2 with a2 | a2
    · omega
    · exact absurd b2 (a2 z' (by omega) (by omega))
  · rcases b2 with b2 | b2
    · omega
    · refine absurd ?_ (b2 z (by omega) (by omega))
      rw [hk z (by omega) (by omega)]
      exact a2
  · rcases Int.lt_trichotomy z z' with c | c | c
    · refine absurd ?_ (b3 z (by omega) c)
      rw [hk z (by omega) (by omega)]
      exact a2
    · exact c
    · rw [hk z' (by omega) (by omega)] at b2
      exact absurd b2 (a3 z' (by omega) c)
theorem o_stop {F : Nat → Nat → Int} {G : Nat → Int → Int} (h : Inv F G) (p1 : Int) (q1 : -2147483648 ≤ p1 ∧ p1 < 2147483648) : oq_stop Inv F G p1 := by
  obtain ⟨hA, -, hL, hP, hQ, -⟩ := id h
  have hm := iv_m h
  refine ⟨_, c_Dk_stop F G p1 q1 hP.1.1, fun z1 h1 => ⟨_, c_Mo_stop F G p1 q1 hm.1 (fun a a0 a1 => (hm.2 a a0 a1).2.2), fun z F2 G2 h2 => ?_⟩⟩
  obtain ⟨rfl, rfl, e⟩ := h2
  rw [hP.2.1] at e
  have e1 : z1 = z := stop_uniq (fun a a0 a1 => (hP.2.2 a a0 a1).2.2) h1 e
  exact ⟨by rw [e1], iv_t h 0⟩
-- the calls that only ask, and may throw
theorem o_record {F : Nat → Nat → Int} {G : Nat → Int → Int} (h : Inv F G) (p1 p2 : Int) (q1 : -2147483648 ≤ p1 ∧ p1 < 2147483648) (q2 : -2147483648 ≤ p2 ∧ p2 < 2147483648) : oq_record Inv F G p1 p2 := by
  obtain ⟨hA, -, hL, hP, hQ, -⟩ := id h
  have hm := iv_m h
  have hs := hP.1.1.1
  by_cases c1 : 0 ≤ p1 ∧ p1 < F 236 1
  · by_cases c2 : 0 ≤ p2 ∧ p2 ≤ 2
    · refine ⟨_, l_record_ok F G p1 p2 _ (c_Dk_record F G p1 p2 hP.1.1 c1 c2), fun k F1 G1 hk => ?_⟩
      obtain ⟨rfl, w, hw, rfl, rfl⟩ := hk
      refine ⟨_, c_Mo_record _ _ p1 p2 q1 q2 hm.1, fun z F2 G2 h2 => ?_⟩
      obtain ⟨rfl, h3⟩ := h2
      rw [hP.2.1] at h3
      rcases h3 with ⟨a, -⟩ | ⟨-, a, -⟩ | ⟨-, -, rfl, e⟩
      · exact absurd c1 a
      · exact absurd c2 a
      · rw [gU_a (by decide), gU_a (by decide), gU_a (by decide)] at e
        have y := hP.2.2 p1 c1.1 c1.2
        rw [y.1, y.2.1, y.2.2] at e
        refine ⟨by decide, fU_hit, fun _ => ?_, iv_t (iv_g h _) 0⟩
        rw [gU_hit, show w = z from hw.trans e.symm]
    · refine ⟨_, l_record_IAE F G p1 p2 (t_Dk_record_2 F G p1 p2 q1 q2 hs c1 c2), fun k F1 G1 hk => ?_⟩
      obtain ⟨rfl, rfl, rfl⟩ := hk
      refine ⟨_, c_Mo_record _ _ p1 p2 q1 q2 hm.1, fun z F2 G2 h2 => ?_⟩
      obtain ⟨rfl, h3⟩ := h2
      rw [hP.2.1] at h3
      rcases h3 with ⟨a, -⟩ | ⟨-, a, rfl⟩ | ⟨-, a, -⟩
      · exact absurd c1 a
      · exact ⟨by decide, fU_hit, fun x => absurd x (by decide), iv_t h 2⟩
      · exact absurd a c2
  · refine ⟨_, l_record_IOB F G p1 p2 (t_Dk_record_1 F G p1 p2 q1 q2 hs c1), fun k F1 G1 hk => ?_⟩
    obtain ⟨rfl, rfl, rfl⟩ := hk
    refine ⟨_, c_Mo_record _ _ p1 p2 q1 q2 hm.1, fun z F2 G2 h2 => ?_⟩
    obtain ⟨rfl, h3⟩ := h2
    rw [hP.2.1] at h3
    rcases h3 with ⟨a, rfl⟩ | ⟨a, -⟩ | ⟨a, -⟩
    · exact ⟨by decide, fU_hit, fun x => absurd x (by decide), iv_t h 1⟩
    · exact absurd a c1
    · exact absurd a c1
theorem o_needle {F : Nat → Nat → Int} {G : Nat → Int → Int} (h : Inv F G) (p1 p2 : Int) (q1 : -2147483648 ≤ p1 ∧ p1 < 2147483648) (q2 : -2147483648 ≤ p2 ∧ p2 < 2147483648) : oq_needle Inv F G p1 p2 := by
  obtain ⟨hA, -, hL, hP, hQ, -⟩ := id h
  have hm := iv_m h
  have hs := hP.1.1.1
  by_cases c1 : 0 ≤ p1 ∧ p1 ≤ F 236 1
  · by_cases c2 : 0 ≤ p2 ∧ p2 ≤ 1
    · refine ⟨_, l_needle_ok F G p1 p2 _ (c_Dk_needle F G p1 p2 hP.1.1 c1 c2), fun k F1 G1 hk => ?_⟩
      obtain ⟨rfl, w, hw, rfl, rfl⟩ := hk
      refine ⟨_, c_Mo_needle _ _ p1 p2 q1 q2 hm.1, fun z F2 G2 h2 => ?_⟩
      obtain ⟨rfl, h3⟩ := h2
      rw [hP.2.1] at h3
      rcases h3 with ⟨a, -⟩ | ⟨-, a, -⟩ | ⟨-, -, rfl, e⟩
      · exact absurd c1 a
      · exact absurd c2 a
      · have e1 : w = z := by
          rw [e, show w = _ from hw]
          by_cases d : p2 = 0
          · rw [if_pos d, if_pos d, gU_k _ _ _ (by decide)]
            exact sumN_cg _ (fun i a b => (hP.2.2 i a (by omega)).1.symm)
          · rw [if_neg d, if_neg d, gU_k _ _ _ (by decide)]
            exact sumN_cg _ (fun i a b => (hP.2.2 i a (by omega)).2.1.symm)
        refine ⟨by decide, fU_hit, fun _ => ?_, iv_t (iv_g h _) 0⟩
        rw [gU_hit, e1]
    · refine ⟨_, l_needle_IAE F G p1 p2 (t_Dk_needle_2 F G p1 p2 q1 q2 hs c1 c2), fun k F1 G1 hk => ?_⟩
      obtain ⟨rfl, rfl, rfl⟩ := hk
      refine ⟨_, c_Mo_needle _ _ p1 p2 q1 q2 hm.1, fun z F2 G2 h2 => ?_⟩
      obtain ⟨rfl, h3⟩ := h2
      rw [hP.2.1] at h3
      rcases h3 with ⟨a, -⟩ | ⟨-, a, rfl⟩ | ⟨-, a, -⟩
      · exact absurd c1 a
      · exact ⟨by decide, fU_hit, fun x => absurd x (by decide), iv_t h 2⟩
      · exact absurd a c2
  · refine ⟨_, l_needle_IOB F G p1 p2 (t_Dk_needle_1 F G p1 p2 q1 q2 hs c1), fun k F1 G1 hk => ?_⟩
    obtain ⟨rfl, rfl, rfl⟩ := hk
    refine ⟨_, c_Mo_needle _ _ p1 p2 q1 q2 hm.1, fun z F2 G2 h2 => ?_⟩
    obtain ⟨rfl, h3⟩ := h2
    rw [hP.2.1] at h3
    rcases h3 with ⟨a, rfl⟩ | ⟨a, -⟩ | ⟨a, -⟩
    · exact ⟨by decide, fU_hit, fun x => absurd x (by decide), iv_t h 1⟩
    · exact absurd a c1
    · exact absurd a c1
theorem pkCM {F : Nat → Nat → Int} {G : Nat → Int → Int} (h : Inv F G) {i : Int} (h0 : 0 ≤ i) (h1 : i < F 236 1) : mPk G i = cPk G i := by
  have y := h.2.2.2.1.2.2 i h0 h1
  unfold mPk cPk
  rw [y.1, y.2.1, y.2.2]
  omega
theorem o_byteAt {F : Nat → Nat → Int} {G : Nat → Int → Int} (h : Inv F G) (p1 : Int) (q1 : -2147483648 ≤ p1 ∧ p1 < 2147483648) : oq_byteAt Inv F G p1 := by
  obtain ⟨hA, -, hL, hP, hQ, -⟩ := id h
  have hm := iv_m h
  have hs := hP.1.1.1
  by_cases c1 : 0 ≤ p1 ∧ p1 < 3 * F 236 1
  · refine ⟨_, l_byteAt_ok F G p1 _ (c_Dk_byteAt F G p1 hP.1 c1), fun k F1 G1 hk => ?_⟩
    obtain ⟨rfl, w, hw, rfl, rfl⟩ := hk
    have hg := iv_g h (iI w).toInt
    refine ⟨_, c_Mo_byteAt _ _ p1 q1 (iv_m hg), fun z F2 G2 h2 => ?_⟩
    obtain ⟨rfl, h3⟩ := h2
    rw [hP.2.1] at h3
    rcases h3 with ⟨a, -⟩ | ⟨-, rfl, e⟩
    · exact absurd c1 a
    · have e1 : w = z := by
        have e2 : mPk (gU G 264 0 (iI w).toInt) (p1 / 3) = mPk G (p1 / 3) := by
          unfold mPk
          rw [gU_a (by decide), gU_a (by decide), gU_a (by decide)]
        rw [e, e2, pkCM h (by omega) (by omega)]
        exact hw
      refine ⟨by decide, fU_hit, fun _ => ?_, iv_t hg 0⟩
      rw [gU_hit, e1]
  · refine ⟨_, l_byteAt_IOB F G p1 (t_Dk_byteAt_1 F G p1 q1 hs c1), fun k F1 G1 hk => ?_⟩
    obtain ⟨rfl, rfl, rfl⟩ := hk
    refine ⟨_, c_Mo_byteAt _ _ p1 q1 hm, fun z F2 G2 h2 => ?_⟩
    obtain ⟨rfl, h3⟩ := h2
    rw [hP.2.1] at h3
    rcases h3 with ⟨a, rfl⟩ | ⟨a, -⟩
    · exact ⟨by decide, fU_hit, fun x => absurd x (by decide), iv_t h 1⟩
    · exact absurd a c1
