/-! MEMORY: where each cell of desk, reference and law lies (by places), and what it holds: F k j the number in field j of the object at place k, G k the ints of the array at place k -/
abbrev f_Dk (ad : Nat → Nat) (F : Nat → Nat → Int) (k : Nat) : List Value := [.ref (ad 1), .ref (ad 222), .ref (ad 223), .ref (ad 224), .ref (ad 230), .ref (ad 236), .ref (ad 235), .ref (ad 238), .int (iI (F k 8)), .int (iI (F k 9)), .int (iI (F k 10))]
abbrev f_Sh (ad : Nat → Nat) (F : Nat → Nat → Int) (k : Nat) : List Value := [.ref (ad (k + 1)), .ref (ad (k + 2)), .ref (ad (k + 21)), .int (iI (F k 3)), .int (iI (F k 4)), .int (iI (F k 5)), .int (iI (F k 6)), .int (iI (F k 7)), .int (iI (F k 8)), .int (iI (F k 9)), .int (iI (F k 10))]
abbrev f_Rg (ad : Nat → Nat) (F : Nat → Nat → Int) (k : Nat) : List Value := [.ref (ad (k + 1)), .ref (ad (k + 2)), .int (iI (F k 2))]
abbrev f_Ty (ad : Nat → Nat) (F : Nat → Nat → Int) (k : Nat) : List Value := [.int (iI (F k 0)), .int (iI (F k 1))]
abbrev f_In (ad : Nat → Nat) (F : Nat → Nat → Int) (k : Nat) : List Value := [.ref (ad 225), .ref (ad 226), .ref (ad 227), .ref (ad 228), .ref (ad 229), .int (iI (F k 5)), .int (iI (F k 6)), .int (iI (F k 7)), .int (iI (F k 8))]
abbrev f_Rt (ad : Nat → Nat) (F : Nat → Nat → Int) (k : Nat) : List Value := [.ref (ad 231)]
abbrev f_Hl (ad : Nat → Nat) (F : Nat → Nat → Int) (k : Nat) : List Value := [.ref (ad 232), .ref (ad 233), .ref (ad 234), .int (iI (F k 3)), .int (iI (F k 4)), .int (iI (F k 5)), .int (iI (F k 6)), .int (iI (F k 7)), .int (iI (F k 8)), .int (iI (F k 9)), .int (iI (F k 10)), .int (iI (F k 11)), .int (iI (F k 12))]
/-- the shape that the maker is at: none, or a number -/
def pmS (ad : Nat → Nat) (z : Int) : Value := if z < 0 then .null else .ref (ad (2 + 22 * z.toNat))
abbrev f_Pm (ad : Nat → Nat) (F : Nat → Nat → Int) (k : Nat) : List Value := [.ref (ad 236), pmS ad (F k 1), .int (iI (F k 2)), .int (iI (F k 3)), .int (iI (F k 4)), .int (iI (F k 5)), .int (iI (F k 6))]
abbrev f_Pa (ad : Nat → Nat) (F : Nat → Nat → Int) (k : Nat) : List Value := [.ref (ad 237), .int (iI (F k 1)), .int (iI (F k 2))]
abbrev f_Pl (ad : Nat → Nat) (F : Nat → Nat → Int) (k : Nat) : List Value := [.ref (ad 239), .ref (ad 240), .ref (ad 241), .ref (ad 242), .ref (ad 243), .int (iI (F k 5))]
abbrev f_Mo (ad : Nat → Nat) (F : Nat → Nat → Int) (k : Nat) : List Value := [.int (iI (F k 0)), .int (iI (F k 1)), .int (iI (F k 2)), .ref (ad 245), .ref (ad 246), .ref (ad 247), .ref (ad 248), .ref (ad 249), .ref (ad 250), .int (iI (F k 9)), .int (iI (F k 10)), .int (iI (F k 11)), .int (iI (F k 12)), .ref (ad 251), .ref (ad 252), .ref (ad 253), .ref (ad 254), .ref (ad 255), .ref (ad 256), .ref (ad 257), .int (iI (F k 20)), .ref (ad 258), .ref (ad 259), .ref (ad 260), .int (iI (F k 24)), .int (iI (F k 25)), .int (iI (F k 26)), .int (iI (F k 27)), .int (iI (F k 28)), .int (iI (F k 29)), .int (iI (F k 30)), .ref (ad 261), .ref (ad 262), .ref (ad 263)]
def rRoom (j : Nat) : Nat := if j < 6 then 32 else if j < 15 then 24 else 16
/-- a cell of the shape whose object lies at k - j -/
def shC (ad : Nat → Nat) (t : Nat → ClassId) (F : Nat → Nat → Int) (G : Nat → Int → Int) (k j : Nat) : va_E :=
  if j = 0 then .inr (1, f_Sh ad F k) else if j = 1 then .inl (t 2, 4, .inr (.inr (.inr (.inr (fun i => some (ad (k + 2 + 3 * i))))))) else if j = 2 then .inl (t 2, 2, .inr (.inr (.inr (.inr (fun i => some (ad (k + 13 + 3 * i))))))) else if j = 21 then .inr (3, f_Ty ad F k) else if j % 3 = 0 then .inr (2, f_Rg ad F k) else zC t (rRoom j) (G k)
def aN (k : Nat) : Nat := if k = 222 then 10 else if k = 223 then 1500 else if k = 225 then 96 else if k = 226 then 96 else if k = 227 then 96 else if k = 228 then 96 else if k = 229 then 96 else if k = 232 then 384 else if k = 233 then 192 else if k = 234 then 192 else if k = 237 then 4000 else if k = 239 then 1024 else if k = 240 then 1024 else if k = 241 then 10 else if k = 242 then 10 else if k = 243 then 10 else if k = 245 then 44 else if k = 246 then 44 else if k = 247 then 1056 else if k = 248 then 1056 else if k = 249 then 44 else if k = 250 then 10 else if k = 251 then 100 else if k = 252 then 100 else if k = 253 then 100 else if k = 254 then 100 else if k = 255 then 100 else if k = 256 then 100 else if k = 258 then 4000 else if k = 259 then 4000 else if k = 260 then 4000 else if k = 261 then 1500 else if k = 262 then 9216 else if k = 263 then 10 else 0
/-- a boolean array; a long array -/
def bC (t : Nat → ClassId) (N : Nat) (f : Int → Int) : va_E := .inl (t 4, N, .inl (zA f))
def jC (t : Nat → ClassId) (N : Nat) (f : Int → Int) : va_E := .inl (t 1, N, .inr (.inl (fun j => Int64.ofInt (f (j : Int)))))
def mem (ad : Nat → Nat) (t : Nat → ClassId) (F : Nat → Nat → Int) (G : Nat → Int → Int) (k : Nat) : va_E :=
  if k = 0 then .inr (0, f_Dk ad F k) else if k = 1 then .inl (t 3, 10, .inr (.inr (.inr (.inr (fun i => some (ad (2 + 22 * i))))))) else if k < 222 then shC ad t F G k ((k - 2) % 22) else if k = 224 then .inr (4, f_In ad F k) else if k = 230 then .inr (5, f_Rt ad F k) else if k = 231 then .inr (6, f_Hl ad F k) else if k = 235 then .inr (7, f_Pm ad F k) else if k = 236 then .inr (8, f_Pa ad F k) else if k = 238 then .inr (9, f_Pl ad F k) else if k = 244 then .inr (10, f_Mo ad F k) else if k = 257 then bC t 4 (G k) else if k = 264 then jC t 1 (G k) else zC t (aN k) (G k)
theorem mem_cong {ad : Nat → Nat} {t : Nat → ClassId} {F F' : Nat → Nat → Int} {G G' : Nat → Int → Int} {q : Nat} (hF : ∀ b, F q b = F' q b) (hG : G q = G' q) : mem ad t F G q = mem ad t F' G' q := by
  unfold mem shC
  simp only [f_Dk, f_Sh, f_Rg, f_Ty, f_In, f_Rt, f_Hl, f_Pm, f_Pa, f_Pl, f_Mo, hF, hG]
def fU (F : Nat → Nat → Int) (k j : Nat) (v : Int) : Nat → Nat → Int := fun a b => if a = k ∧ b = j then v else F a b
theorem fU_self (F : Nat → Nat → Int) (k j : Nat) (v : Int) : fU F k j v k j = v := by simp [fU]
theorem fU_k (F : Nat → Nat → Int) {k j a b : Nat} (v : Int) (h : a ≠ k) : fU F k j v a b = F a b := by simp [fU, h]
theorem fU_j (F : Nat → Nat → Int) {k j a b : Nat} (v : Int) (h : b ≠ j) : fU F k j v a b = F a b := by simp [fU, h]
def gU (G : Nat → Int → Int) (k : Nat) (z v : Int) : Nat → Int → Int := fun a => if a = k then zU (G k) z v else G a
theorem gU_self (G : Nat → Int → Int) (k : Nat) (z v : Int) : gU G k z v k = zU (G k) z v := by simp [gU]
theorem gU_k (G : Nat → Int → Int) {k a : Nat} (z v : Int) (h : a ≠ k) : gU G k z v a = G a := by simp [gU, h]
theorem mem_put {ad : Nat → Nat} {t : Nat → ClassId} {F : Nat → Nat → Int} {G : Nat → Int → Int} {k j : Nat} {v : Int} {x : va_E} (h : mem ad t (fU F k j v) G k = x) : va_up (mem ad t F G) k x = mem ad t (fU F k j v) G := by
  funext q
  by_cases hq : q = k
  · subst hq
    rw [va_up_self, h]
  · rw [va_up_ne _ _ hq]
    exact mem_cong (fun b => (fU_k F v hq).symm) rfl
theorem mem_set {ad : Nat → Nat} {t : Nat → ClassId} {F : Nat → Nat → Int} {G : Nat → Int → Int} {k : Nat} {z v : Int} {x : va_E} (h : mem ad t F (gU G k z v) k = x) : va_up (mem ad t F G) k x = mem ad t F (gU G k z v) := by
  funext q
  by_cases hq : q = k
  · subst hq
    rw [va_up_self, h]
  · rw [va_up_ne _ _ hq]
    exact mem_cong (fun _ => rfl) (gU_k G z v hq).symm
-- which place is what
def isSh (k : Nat) : Prop := 2 ≤ k ∧ k < 222 ∧ (k - 2) % 22 = 0
def isRg (k : Nat) : Prop := 2 ≤ k ∧ k < 222 ∧ (k - 2) % 22 % 3 = 0 ∧ 3 ≤ (k - 2) % 22 ∧ (k - 2) % 22 ≤ 18
def isTy (k : Nat) : Prop := 2 ≤ k ∧ k < 222 ∧ (k - 2) % 22 = 21
def isDk (k : Nat) : Prop := k = 0
def isIn (k : Nat) : Prop := k = 224
def isRt (k : Nat) : Prop := k = 230
def isHl (k : Nat) : Prop := k = 231
def isPm (k : Nat) : Prop := k = 235
def isPa (k : Nat) : Prop := k = 236
def isPl (k : Nat) : Prop := k = 238
def isMo (k : Nat) : Prop := k = 244
/-- an array of N ints lies at k -/
def isA (k N : Nat) : Prop := (k < 265 ∧ N < 2147483648) ∧ ∀ (ad : Nat → Nat) (t : Nat → ClassId) (F : Nat → Nat → Int) (G : Nat → Int → Int), mem ad t F G k = zC t N (G k)
theorem m_Dk {ad : Nat → Nat} {t : Nat → ClassId} {F : Nat → Nat → Int} {G : Nat → Int → Int} {k : Nat} (h : isDk k) : k < 265 ∧ mem ad t F G k = .inr (0, f_Dk ad F k) := by
  cases h
  exact ⟨by decide, rfl⟩
theorem m_Sh {ad : Nat → Nat} {t : Nat → ClassId} {F : Nat → Nat → Int} {G : Nat → Int → Int} {k : Nat} (h : isSh k) : k < 265 ∧ mem ad t F G k = .inr (1, f_Sh ad F k) := by
  unfold isSh at h
  refine ⟨by omega, ?_⟩
  unfold mem
  rw [if_neg (by omega), if_neg (by omega), if_pos (by omega)]
  unfold shC
  rw [if_pos (by omega)]
theorem m_Rg {ad : Nat → Nat} {t : Nat → ClassId} {F : Nat → Nat → Int} {G : Nat → Int → Int} {k : Nat} (h : isRg k) : k < 265 ∧ mem ad t F G k = .inr (2, f_Rg ad F k) := by
  unfold isRg at h
  refine ⟨by omega, ?_⟩
  unfold mem
  rw [if_neg (by omega), if_neg (by omega), if_pos (by omega)]
  unfold shC
  rw [if_neg (by omega), if_neg (by omega), if_neg (by omega), if_neg (by omega), if_pos (by omega)]
theorem m_Ty {ad : Nat → Nat} {t : Nat → ClassId} {F : Nat → Nat → Int} {G : Nat → Int → Int} {k : Nat} (h : isTy k) : k < 265 ∧ mem ad t F G k = .inr (3, f_Ty ad F k) := by
  unfold isTy at h
  refine ⟨by omega, ?_⟩
  unfold mem
  rw [if_neg (by omega), if_neg (by omega), if_pos (by omega)]
  unfold shC
  rw [if_neg (by omega), if_neg (by omega), if_neg (by omega), if_pos (by omega)]
theorem m_In {ad : Nat → Nat} {t : Nat → ClassId} {F : Nat → Nat → Int} {G : Nat → Int → Int} {k : Nat} (h : isIn k) : k < 265 ∧ mem ad t F G k = .inr (4, f_In ad F k) := by
  cases h
  exact ⟨by decide, rfl⟩
theorem m_Rt {ad : Nat → Nat} {t : Nat → ClassId} {F : Nat → Nat → Int} {G : Nat → Int → Int} {k : Nat} (h : isRt k) : k < 265 ∧ mem ad t F G k = .inr (5, f_Rt ad F k) := by
  cases h
  exact ⟨by decide, rfl⟩
theorem m_Hl {ad : Nat → Nat} {t : Nat → ClassId} {F : Nat → Nat → Int} {G : Nat → Int → Int} {k : Nat} (h : isHl k) : k < 265 ∧ mem ad t F G k = .inr (6, f_Hl ad F k) := by
  cases h
  exact ⟨by decide, rfl⟩
theorem m_Pm {ad : Nat → Nat} {t : Nat → ClassId} {F : Nat → Nat → Int} {G : Nat → Int → Int} {k : Nat} (h : isPm k) : k < 265 ∧ mem ad t F G k = .inr (7, f_Pm ad F k) := by
  cases h
  exact ⟨by decide, rfl⟩
theorem m_Pa {ad : Nat → Nat} {t : Nat → ClassId} {F : Nat → Nat → Int} {G : Nat → Int → Int} {k : Nat} (h : isPa k) : k < 265 ∧ mem ad t F G k = .inr (8, f_Pa ad F k) := by
  cases h
  exact ⟨by decide, rfl⟩
theorem m_Pl {ad : Nat → Nat} {t : Nat → ClassId} {F : Nat → Nat → Int} {G : Nat → Int → Int} {k : Nat} (h : isPl k) : k < 265 ∧ mem ad t F G k = .inr (9, f_Pl ad F k) := by
  cases h
  exact ⟨by decide, rfl⟩
theorem m_Mo {ad : Nat → Nat} {t : Nat → ClassId} {F : Nat → Nat → Int} {G : Nat → Int → Int} {k : Nat} (h : isMo k) : k < 265 ∧ mem ad t F G k = .inr (10, f_Mo ad F k) := by
  cases h
  exact ⟨by decide, rfl⟩
theorem a_222 : isA 222 10 := ⟨by decide, fun _ _ _ _ => rfl⟩
theorem a_223 : isA 223 1500 := ⟨by decide, fun _ _ _ _ => rfl⟩
theorem a_225 : isA 225 96 := ⟨by decide, fun _ _ _ _ => rfl⟩
theorem a_226 : isA 226 96 := ⟨by decide, fun _ _ _ _ => rfl⟩
theorem a_227 : isA 227 96 := ⟨by decide, fun _ _ _ _ => rfl⟩
theorem a_228 : isA 228 96 := ⟨by decide, fun _ _ _ _ => rfl⟩
theorem a_229 : isA 229 96 := ⟨by decide, fun _ _ _ _ => rfl⟩
theorem a_232 : isA 232 384 := ⟨by decide, fun _ _ _ _ => rfl⟩
theorem a_233 : isA 233 192 := ⟨by decide, fun _ _ _ _ => rfl⟩
theorem a_234 : isA 234 192 := ⟨by decide, fun _ _ _ _ => rfl⟩
theorem a_237 : isA 237 4000 := ⟨by decide, fun _ _ _ _ => rfl⟩
theorem a_239 : isA 239 1024 := ⟨by decide, fun _ _ _ _ => rfl⟩
theorem a_240 : isA 240 1024 := ⟨by decide, fun _ _ _ _ => rfl⟩
theorem a_241 : isA 241 10 := ⟨by decide, fun _ _ _ _ => rfl⟩
theorem a_242 : isA 242 10 := ⟨by decide, fun _ _ _ _ => rfl⟩
theorem a_243 : isA 243 10 := ⟨by decide, fun _ _ _ _ => rfl⟩
theorem a_245 : isA 245 44 := ⟨by decide, fun _ _ _ _ => rfl⟩
theorem a_246 : isA 246 44 := ⟨by decide, fun _ _ _ _ => rfl⟩
theorem a_247 : isA 247 1056 := ⟨by decide, fun _ _ _ _ => rfl⟩
theorem a_248 : isA 248 1056 := ⟨by decide, fun _ _ _ _ => rfl⟩
theorem a_249 : isA 249 44 := ⟨by decide, fun _ _ _ _ => rfl⟩
theorem a_250 : isA 250 10 := ⟨by decide, fun _ _ _ _ => rfl⟩
theorem a_251 : isA 251 100 := ⟨by decide, fun _ _ _ _ => rfl⟩
theorem a_252 : isA 252 100 := ⟨by decide, fun _ _ _ _ => rfl⟩
theorem a_253 : isA 253 100 := ⟨by decide, fun _ _ _ _ => rfl⟩
theorem a_254 : isA 254 100 := ⟨by decide, fun _ _ _ _ => rfl⟩
theorem a_255 : isA 255 100 := ⟨by decide, fun _ _ _ _ => rfl⟩
theorem a_256 : isA 256 100 := ⟨by decide, fun _ _ _ _ => rfl⟩
theorem a_258 : isA 258 4000 := ⟨by decide, fun _ _ _ _ => rfl⟩
theorem a_259 : isA 259 4000 := ⟨by decide, fun _ _ _ _ => rfl⟩
theorem a_260 : isA 260 4000 := ⟨by decide, fun _ _ _ _ => rfl⟩
theorem a_261 : isA 261 1500 := ⟨by decide, fun _ _ _ _ => rfl⟩
theorem a_262 : isA 262 9216 := ⟨by decide, fun _ _ _ _ => rfl⟩
theorem a_263 : isA 263 10 := ⟨by decide, fun _ _ _ _ => rfl⟩
theorem a_rg {k j N : Nat} (h : isRg k) (hj : j = 1 ∨ j = 2) (hN : N = rRoom ((k - 2) % 22)) : isA (k + j) N := by
  unfold isRg at h
  have h9 : (k - 2) / 22 < 10 := by omega
  have h8 : k + j < 222 := by omega
  refine ⟨⟨by omega, ?_⟩, fun ad t F G => ?_⟩
  · rw [hN]
    unfold rRoom
    split
    · decide
    · split <;> decide
  · unfold mem
    rw [if_neg (by omega), if_neg (by omega), if_pos (by omega)]
    have e : (k + j - 2) % 22 = (k - 2) % 22 + j := by omega
    rw [e]
    unfold shC
    rw [if_neg (by omega), if_neg (by omega), if_neg (by omega), if_neg (by omega), if_neg (by omega), hN]
    have : rRoom ((k - 2) % 22 + j) = rRoom ((k - 2) % 22) := by
      unfold rRoom
      by_cases a : (k - 2) % 22 < 6
      · rw [if_pos a, if_pos (by omega)]
      · rw [if_neg a, if_neg (by omega)]
        by_cases b : (k - 2) % 22 < 15
        · rw [if_pos b, if_pos (by omega)]
        · rw [if_neg b, if_neg (by omega)]
    rw [this]
