section GU
variable {s0 : State} {a0 : Array Value} {D : va_G} {t : Nat → ClassId} {p : Program} {l : Launch} {e : Env} {R : Room} {s : State} {m : MethodId} {args : Array Value} {below : List Frame} {meth : Method} {c : Code} {Q : State → Prop} {Z : Heap → List Loc → Prop} {A : Nat → Prop} {own : String} {cc : ByteArray} {nL : Nat} {ret : Option FieldType} {mn : String} {fr lo mc ms : Nat} {cells slots : Nat} {ad : Nat → Nat} {n : Nat} {ce : Nat → va_E} {pc : Nat} {lv lv' : List (Nat × Value)} {st : List Value}
theorem g_iushr (ok : gOk s0 a0 D t p R s m meth c A own cc nL ret mn fr lo mc ms) {x y z : Int} (hz : ((iI x).toUInt32 >>> ((iI y).toUInt32 &&& Int32.toUInt32 31)).toInt32 = iI z) (hd : decode cc pc = .ok (.iushr, 1)) (kk : gW p l e R s m args below meth c Q D A nL Z cells slots ad n ce (pc + 1) lv (.int (iI z) :: st)) : gW p l e R s m args below meth c Q D A nL Z cells slots ad n ce pc lv (.int (iI y) :: .int (iI x) :: st) :=
  fun H locs ls hZ hP hD hS hl => lv_iushr ok.x ok.b hd hz (kk H locs ls hZ hP hD hS hl)
end GU
def sgn (a : Int) : Int := if a < 0 then -1 else if a = 0 then 0 else 1
theorem iI_sar {c : Int} (k : Nat) (hk : k < 32) (h : -2147483648 ≤ c ∧ c < 2147483648) {y : Int} (hy : y = k) : iI c >>> (iI y &&& 31) = iI (c / 2 ^ k) := by
  apply Int32.toInt_inj.mp
  have hp : (1 : Int) ≤ 2 ^ k := by
    have := Nat.one_le_two_pow (n := k)
    have h2 : ((2 ^ k : Nat) : Int) = (2 : Int) ^ k := by simp
    omega
  have hr : -2147483648 ≤ c / 2 ^ k ∧ c / 2 ^ k < 2147483648 := by
    rcases Int.le_total 0 c with q | q
    · have h1 := Int.ediv_le_self (2 ^ k) q
      have h2 : 0 ≤ c / 2 ^ k := Int.ediv_nonneg q (by omega)
      omega
    · have h1 : c ≤ c / 2 ^ k := by
        rw [Int.le_ediv_iff_mul_le (by omega)]
        have : c * 2 ^ k ≤ c * 1 := Int.mul_le_mul_of_nonpos_left q hp
        omega
      have h2 : c / 2 ^ k ≤ 0 / 2 ^ k := Int.ediv_le_ediv (by omega) q
      rw [Int.zero_ediv] at h2
      omega
  rw [hy, iI_nI, pk_shr _ _ k (s_l k hk), iI_toInt h, iI_toInt hr, Int.shiftRight_eq_div_pow]
  simp
theorem iI_tn (z : Int) : (iI z).toBitVec.toNat = (z % 4294967296).toNat := by
  show (BitVec.ofInt 32 z).toNat = _
  rw [BitVec.toNat_ofInt]
  rfl
theorem iI_ushr31 {c : Int} (h : -2147483648 < c ∧ c < 2147483648) : ((iI c).toUInt32 >>> ((iI 31).toUInt32 &&& Int32.toUInt32 31)).toInt32 = iI (if c < 0 then 1 else 0) := by
  have h1 := pk_ushr (iI c) (iI 31) 31 (by decide +kernel)
  rw [iI_tn] at h1
  apply Int32.toBitVec_inj.mp
  apply BitVec.eq_of_toNat_eq
  rw [h1, iI_tn]
  split <;> omega
theorem sgn_or {a : Int} (h : -2147483648 < a ∧ a < 2147483648) : iI (a / 2147483648) ||| iI (if -a < 0 then 1 else 0) = iI (sgn a) := by
  unfold sgn
  by_cases h1 : a < 0
  · rw [show a / 2147483648 = -1 by omega, if_neg (by omega), if_pos h1]
    decide
  · rw [show a / 2147483648 = 0 by omega, if_neg h1]
    by_cases h2 : a = 0
    · rw [if_neg (by omega), if_pos h2]
      decide
    · rw [if_pos (by omega), if_neg h2]
      decide
theorem sgn_mul (a b : Int) : -1 ≤ sgn a * sgn b ∧ sgn a * sgn b ≤ 1 := by
  have h : ∀ a : Int, sgn a = -1 ∨ sgn a = 0 ∨ sgn a = 1 := fun a => by unfold sgn; split <;> (try split) <;> simp
  rcases h a with ha | ha | ha <;> rcases h b with hb | hb | hb <;> rw [ha, hb] <;> decide
theorem d_Ig_signum_0 : decode b_Ig_signum 0 = .ok (.iload_n 0, 1) := by decide +kernel
theorem d_Ig_signum_1 : decode b_Ig_signum 1 = .ok (.bipush 31, 2) := by decide +kernel
theorem d_Ig_signum_3 : decode b_Ig_signum 3 = .ok (.ishr, 1) := by decide +kernel
theorem d_Ig_signum_4 : decode b_Ig_signum 4 = .ok (.iload_n 0, 1) := by decide +kernel
theorem d_Ig_signum_5 : decode b_Ig_signum 5 = .ok (.ineg, 1) := by decide +kernel
theorem d_Ig_signum_6 : decode b_Ig_signum 6 = .ok (.bipush 31, 2) := by decide +kernel
theorem d_Ig_signum_8 : decode b_Ig_signum 8 = .ok (.iushr, 1) := by decide +kernel
theorem d_Ig_signum_9 : decode b_Ig_signum 9 = .ok (.ior, 1) := by decide +kernel
theorem d_Ig_signum_10 : decode b_Ig_signum 10 = .ok (.ireturn, 1) := by decide +kernel
set_option maxHeartbeats 4000000 in
set_option maxRecDepth 100000 in
theorem c_Ig_signum (F : Nat → Nat → Int) (G : Nat → Int → Int) (a : Int) (ha : -2147483648 < a ∧ a < 2147483648) : cP y_Ig_signum b_Ig_signum 1 (some .int) 0 0 F G (fun ad => [.int (iI a)]) (fun r => r = sgn a) := by
  intro s0 a0 D t ad
  refine g_startPF (by decide +kernel) (Nat.le_of_ble_eq_true rfl) (fun p l e R s m args below meth c A ok => ?_)
  show gW p l e R s m args below meth c _ D A 1 (gZ0 s) 0 0 ad 265 (mem ad t F G) 0 [(0, .int (iI a))] []
  refine g_iload_n ok d_Ig_signum_0 rfl 0 rfl ?_
  refine g_bipush ok (by decide) d_Ig_signum_1 ?_
  refine g_ishr (z := a / 2147483648) ok (iI_sar 31 (by decide) (by omega) rfl) d_Ig_signum_3 ?_
  refine g_iload_n ok d_Ig_signum_4 rfl 0 rfl ?_
  refine g_ineg ok d_Ig_signum_5 ?_
  refine g_bipush ok (by decide) d_Ig_signum_6 ?_
  refine g_iushr (z := (if -a < 0 then 1 else 0)) ok (iI_ushr31 (by omega)) d_Ig_signum_8 ?_
  refine g_ior (z := sgn a) ok (sgn_or ha) d_Ig_signum_9 ?_
  exact g_ipret ok d_Ig_signum_10 (rfl)
-- two edges
def eBack (a1 b1 a2 b2 c1 d1 c2 d2 : Int) : Prop := (a1 - a2) * (d2 - d1) = (b1 - b2) * (c2 - c1) ∧ 0 < (a1 - a2) * (c2 - c1) + (b1 - b2) * (d2 - d1)
def eApart (a1 a2 c1 c2 : Int) : Prop := max a1 a2 < min c1 c2 ∨ max c1 c2 < min a1 a2
def eShare (a1 b1 a2 b2 c1 d1 c2 d2 : Int) : Prop := ¬ eApart a1 a2 c1 c2 ∧ ¬ eApart b1 b2 d1 d2 ∧ sgn (eTurn a1 b1 a2 b2 c1 d1) * sgn (eTurn a1 b1 a2 b2 c2 d2) ≤ 0 ∧ sgn (eTurn c1 d1 c2 d2 a1 b1) * sgn (eTurn c1 d1 c2 d2 a2 b2) ≤ 0
-- edges i and j of the inspector
def iBack (G : Nat → Int → Int) (i j : Int) : Prop := eBack (G 225 i) (G 226 i) (G 227 i) (G 228 i) (G 225 j) (G 226 j) (G 227 j) (G 228 j)
def iShare (G : Nat → Int → Int) (i j : Int) : Prop := eShare (G 225 i) (G 226 i) (G 227 i) (G 228 i) (G 225 j) (G 226 j) (G 227 j) (G 228 j)
def iCross (G : Nat → Int → Int) (i j : Int) : Prop := if G 229 i = j then iBack G i j else if G 229 j = i then iBack G j i else iShare G i j
/-- the first n edges of the inspector are edges between places -/
def iE (G : Nat → Int → Int) (n : Int) : Prop := ∀ e : Int, 0 ≤ e → e < n → (0 ≤ G 225 e ∧ G 225 e ≤ 600) ∧ (0 ≤ G 226 e ∧ G 226 e ≤ 600) ∧ (0 ≤ G 227 e ∧ G 227 e ≤ 600) ∧ (0 ≤ G 228 e ∧ G 228 e ≤ 600) ∧ (0 ≤ G 229 e ∧ G 229 e ≤ 96)
theorem eTurn_rng {a1 b1 a2 b2 x y : Int} (h1 : 0 ≤ a1 ∧ a1 ≤ 600) (h2 : 0 ≤ b1 ∧ b1 ≤ 600) (h3 : 0 ≤ a2 ∧ a2 ≤ 600) (h4 : 0 ≤ b2 ∧ b2 ≤ 600) (h5 : 0 ≤ x ∧ x ≤ 600) (h6 : 0 ≤ y ∧ y ≤ 600) : -720000 ≤ eTurn a1 b1 a2 b2 x y ∧ eTurn a1 b1 a2 b2 x y ≤ 720000 := by
  have p1 := mul_rng (a := a2 - a1) (b := y - b1) (by omega) (by omega)
  have p2 := mul_rng (a := x - a1) (b := b2 - b1) (by omega) (by omega)
  unfold eTurn
  omega
theorem d_In_turn_0 : decode b_In_turn 0 = .ok (.aload_n 0, 1) := by decide +kernel
theorem d_In_turn_1 : decode b_In_turn 1 = .ok (.getfield 18, 3) := by decide +kernel
theorem d_In_turn_4 : decode b_In_turn 4 = .ok (.iload_n 1, 1) := by decide +kernel
theorem d_In_turn_5 : decode b_In_turn 5 = .ok (.iaload, 1) := by decide +kernel
theorem d_In_turn_6 : decode b_In_turn 6 = .ok (.aload_n 0, 1) := by decide +kernel
theorem d_In_turn_7 : decode b_In_turn 7 = .ok (.getfield 9, 3) := by decide +kernel
theorem d_In_turn_10 : decode b_In_turn 10 = .ok (.iload_n 1, 1) := by decide +kernel
theorem d_In_turn_11 : decode b_In_turn 11 = .ok (.iaload, 1) := by decide +kernel
theorem d_In_turn_12 : decode b_In_turn 12 = .ok (.isub, 1) := by decide +kernel
theorem d_In_turn_13 : decode b_In_turn 13 = .ok (.iload_n 3, 1) := by decide +kernel
theorem d_In_turn_14 : decode b_In_turn 14 = .ok (.aload_n 0, 1) := by decide +kernel
theorem d_In_turn_15 : decode b_In_turn 15 = .ok (.getfield 15, 3) := by decide +kernel
theorem d_In_turn_18 : decode b_In_turn 18 = .ok (.iload_n 1, 1) := by decide +kernel
theorem d_In_turn_19 : decode b_In_turn 19 = .ok (.iaload, 1) := by decide +kernel
theorem d_In_turn_20 : decode b_In_turn 20 = .ok (.isub, 1) := by decide +kernel
theorem d_In_turn_21 : decode b_In_turn 21 = .ok (.imul, 1) := by decide +kernel
theorem d_In_turn_22 : decode b_In_turn 22 = .ok (.iload_n 2, 1) := by decide +kernel
theorem d_In_turn_23 : decode b_In_turn 23 = .ok (.aload_n 0, 1) := by decide +kernel
theorem d_In_turn_24 : decode b_In_turn 24 = .ok (.getfield 9, 3) := by decide +kernel
theorem d_In_turn_27 : decode b_In_turn 27 = .ok (.iload_n 1, 1) := by decide +kernel
theorem d_In_turn_28 : decode b_In_turn 28 = .ok (.iaload, 1) := by decide +kernel
theorem d_In_turn_29 : decode b_In_turn 29 = .ok (.isub, 1) := by decide +kernel
theorem d_In_turn_30 : decode b_In_turn 30 = .ok (.aload_n 0, 1) := by decide +kernel
theorem d_In_turn_31 : decode b_In_turn 31 = .ok (.getfield 21, 3) := by decide +kernel
theorem d_In_turn_34 : decode b_In_turn 34 = .ok (.iload_n 1, 1) := by decide +kernel
theorem d_In_turn_35 : decode b_In_turn 35 = .ok (.iaload, 1) := by decide +kernel
theorem d_In_turn_36 : decode b_In_turn 36 = .ok (.aload_n 0, 1) := by decide +kernel
theorem d_In_turn_37 : decode b_In_turn 37 = .ok (.getfield 15, 3) := by decide +kernel
theorem d_In_turn_40 : decode b_In_turn 40 = .ok (.iload_n 1, 1) := by decide +kernel
theorem d_In_turn_41 : decode b_In_turn 41 = .ok (.iaload, 1) := by decide +kernel
theorem d_In_turn_42 : decode b_In_turn 42 = .ok (.isub, 1) := by decide +kernel
theorem d_In_turn_43 : decode b_In_turn 43 = .ok (.imul, 1) := by decide +kernel
theorem d_In_turn_44 : decode b_In_turn 44 = .ok (.isub, 1) := by decide +kernel
theorem d_In_turn_45 : decode b_In_turn 45 = .ok (.invokestatic 118, 3) := by decide +kernel
theorem d_In_turn_48 : decode b_In_turn 48 = .ok (.ireturn, 1) := by decide +kernel
set_option maxHeartbeats 4000000 in
set_option maxRecDepth 100000 in
theorem c_In_turn (F : Nat → Nat → Int) (G : Nat → Int → Int) (n : Int) (hn : 0 ≤ n ∧ n ≤ 96) (hE : iE G n) (i x y : Int) (hi : 0 ≤ i ∧ i < n) (hx : 0 ≤ x ∧ x ≤ 600) (hy : 0 ≤ y ∧ y ≤ 600) : cP y_In_turn b_In_turn 4 (some .int) 1 20 F G (fun ad => [.ref (ad 224), .int (iI i), .int (iI x), .int (iI y)]) (fun r => r = sgn (eTurn (G 225 i) (G 226 i) (G 227 i) (G 228 i) x y)) := by
  obtain ⟨e1, e2, e3, e4, e5⟩ := hE i hi.1 hi.2
  have tr := eTurn_rng e1 e2 e3 e4 hx hy
  intro s0 a0 D t ad
  refine g_startP (by decide +kernel) (Nat.le_of_ble_eq_true rfl) (fun p l e R s m args below meth c A ok => ?_)
  show gW p l e R s m args below meth c _ D A 4 (gZ0 s) 0 0 ad 265 (mem ad t F G) 0 [(0, .ref (ad 224)), (1, .int (iI i)), (2, .int (iI x)), (3, .int (iI y))] []
  refine g_aload_n ok d_In_turn_0 rfl 0 rfl ?_
  refine gI_In_x2 ok _ rfl k_156 d_In_turn_1 ?_
  refine g_iload_n ok d_In_turn_4 rfl 1 rfl ?_
  refine h_iald ok _ a_227 (by omega) d_In_turn_5 ?_
  refine g_aload_n ok d_In_turn_6 rfl 0 rfl ?_
  refine gI_In_x1 ok _ rfl k_154 d_In_turn_7 ?_
  refine g_iload_n ok d_In_turn_10 rfl 1 rfl ?_
  refine h_iald ok _ a_225 (by omega) d_In_turn_11 ?_
  refine g_isub ok d_In_turn_12 ?_
  refine g_iload_n ok d_In_turn_13 rfl 3 rfl ?_
  refine g_aload_n ok d_In_turn_14 rfl 0 rfl ?_
  refine gI_In_y1 ok _ rfl k_155 d_In_turn_15 ?_
  refine g_iload_n ok d_In_turn_18 rfl 1 rfl ?_
  refine h_iald ok _ a_226 (by omega) d_In_turn_19 ?_
  refine g_isub ok d_In_turn_20 ?_
  refine g_imul ok d_In_turn_21 ?_
  refine g_iload_n ok d_In_turn_22 rfl 2 rfl ?_
  refine g_aload_n ok d_In_turn_23 rfl 0 rfl ?_
  refine gI_In_x1 ok _ rfl k_154 d_In_turn_24 ?_
  refine g_iload_n ok d_In_turn_27 rfl 1 rfl ?_
  refine h_iald ok _ a_225 (by omega) d_In_turn_28 ?_
  refine g_isub ok d_In_turn_29 ?_
  refine g_aload_n ok d_In_turn_30 rfl 0 rfl ?_
  refine gI_In_y2 ok _ rfl k_157 d_In_turn_31 ?_
  refine g_iload_n ok d_In_turn_34 rfl 1 rfl ?_
  refine h_iald ok _ a_228 (by omega) d_In_turn_35 ?_
  refine g_aload_n ok d_In_turn_36 rfl 0 rfl ?_
  refine gI_In_y1 ok _ rfl k_155 d_In_turn_37 ?_
  refine g_iload_n ok d_In_turn_40 rfl 1 rfl ?_
  refine h_iald ok _ a_226 (by omega) d_In_turn_41 ?_
  refine g_isub ok d_In_turn_42 ?_
  refine g_imul ok d_In_turn_43 ?_
  refine g_isub ok d_In_turn_44 ?_
  refine g_callPS (As := [.int (iI ((((G 227 i) - (G 225 i)) * (y - (G 226 i))) - ((x - (G 225 i)) * ((G 228 i) - (G 226 i)))))]) (st := []) ok (c_Ig_signum F G _ (by unfold eTurn at tr; omega) s0 a0 D t ad) k_863 k_19 k_861 k_862 q_Ig_signum (by decide) (Nat.le_of_ble_eq_true rfl) (by decide) d_In_turn_45 (fun z1 hc1 => ?_)
  subst hc1
  exact g_ipret ok d_In_turn_48 (rfl)
theorem d_In_turnsBack_0 : decode b_In_turnsBack 0 = .ok (.aload_n 0, 1) := by decide +kernel
theorem d_In_turnsBack_1 : decode b_In_turnsBack 1 = .ok (.getfield 9, 3) := by decide +kernel
theorem d_In_turnsBack_4 : decode b_In_turnsBack 4 = .ok (.iload_n 1, 1) := by decide +kernel
theorem d_In_turnsBack_5 : decode b_In_turnsBack 5 = .ok (.iaload, 1) := by decide +kernel
theorem d_In_turnsBack_6 : decode b_In_turnsBack 6 = .ok (.aload_n 0, 1) := by decide +kernel
theorem d_In_turnsBack_7 : decode b_In_turnsBack 7 = .ok (.getfield 18, 3) := by decide +kernel
theorem d_In_turnsBack_10 : decode b_In_turnsBack 10 = .ok (.iload_n 1, 1) := by decide +kernel
theorem d_In_turnsBack_11 : decode b_In_turnsBack 11 = .ok (.iaload, 1) := by decide +kernel
theorem d_In_turnsBack_12 : decode b_In_turnsBack 12 = .ok (.isub, 1) := by decide +kernel
theorem d_In_turnsBack_13 : decode b_In_turnsBack 13 = .ok (.istore_n 3, 1) := by decide +kernel
theorem d_In_turnsBack_14 : decode b_In_turnsBack 14 = .ok (.aload_n 0, 1) := by decide +kernel
theorem d_In_turnsBack_15 : decode b_In_turnsBack 15 = .ok (.getfield 15, 3) := by decide +kernel
theorem d_In_turnsBack_18 : decode b_In_turnsBack 18 = .ok (.iload_n 1, 1) := by decide +kernel
theorem d_In_turnsBack_19 : decode b_In_turnsBack 19 = .ok (.iaload, 1) := by decide +kernel
theorem d_In_turnsBack_20 : decode b_In_turnsBack 20 = .ok (.aload_n 0, 1) := by decide +kernel
theorem d_In_turnsBack_21 : decode b_In_turnsBack 21 = .ok (.getfield 21, 3) := by decide +kernel
theorem d_In_turnsBack_24 : decode b_In_turnsBack 24 = .ok (.iload_n 1, 1) := by decide +kernel
theorem d_In_turnsBack_25 : decode b_In_turnsBack 25 = .ok (.iaload, 1) := by decide +kernel
theorem d_In_turnsBack_26 : decode b_In_turnsBack 26 = .ok (.isub, 1) := by decide +kernel
theorem d_In_turnsBack_27 : decode b_In_turnsBack 27 = .ok (.istore 4, 2) := by decide +kernel
theorem d_In_turnsBack_29 : decode b_In_turnsBack 29 = .ok (.aload_n 0, 1) := by decide +kernel
theorem d_In_turnsBack_30 : decode b_In_turnsBack 30 = .ok (.getfield 18, 3) := by decide +kernel
theorem d_In_turnsBack_33 : decode b_In_turnsBack 33 = .ok (.iload_n 2, 1) := by decide +kernel
theorem d_In_turnsBack_34 : decode b_In_turnsBack 34 = .ok (.iaload, 1) := by decide +kernel
theorem d_In_turnsBack_35 : decode b_In_turnsBack 35 = .ok (.aload_n 0, 1) := by decide +kernel
theorem d_In_turnsBack_36 : decode b_In_turnsBack 36 = .ok (.getfield 9, 3) := by decide +kernel
theorem d_In_turnsBack_39 : decode b_In_turnsBack 39 = .ok (.iload_n 2, 1) := by decide +kernel
theorem d_In_turnsBack_40 : decode b_In_turnsBack 40 = .ok (.iaload, 1) := by decide +kernel
theorem d_In_turnsBack_41 : decode b_In_turnsBack 41 = .ok (.isub, 1) := by decide +kernel
theorem d_In_turnsBack_42 : decode b_In_turnsBack 42 = .ok (.istore 5, 2) := by decide +kernel
theorem d_In_turnsBack_44 : decode b_In_turnsBack 44 = .ok (.aload_n 0, 1) := by decide +kernel
theorem d_In_turnsBack_45 : decode b_In_turnsBack 45 = .ok (.getfield 21, 3) := by decide +kernel
theorem d_In_turnsBack_48 : decode b_In_turnsBack 48 = .ok (.iload_n 2, 1) := by decide +kernel
theorem d_In_turnsBack_49 : decode b_In_turnsBack 49 = .ok (.iaload, 1) := by decide +kernel
theorem d_In_turnsBack_50 : decode b_In_turnsBack 50 = .ok (.aload_n 0, 1) := by decide +kernel
theorem d_In_turnsBack_51 : decode b_In_turnsBack 51 = .ok (.getfield 15, 3) := by decide +kernel
theorem d_In_turnsBack_54 : decode b_In_turnsBack 54 = .ok (.iload_n 2, 1) := by decide +kernel
theorem d_In_turnsBack_55 : decode b_In_turnsBack 55 = .ok (.iaload, 1) := by decide +kernel
theorem d_In_turnsBack_56 : decode b_In_turnsBack 56 = .ok (.isub, 1) := by decide +kernel
theorem d_In_turnsBack_57 : decode b_In_turnsBack 57 = .ok (.istore 6, 2) := by decide +kernel
theorem d_In_turnsBack_59 : decode b_In_turnsBack 59 = .ok (.iload_n 3, 1) := by decide +kernel
theorem d_In_turnsBack_60 : decode b_In_turnsBack 60 = .ok (.iload 6, 2) := by decide +kernel
theorem d_In_turnsBack_62 : decode b_In_turnsBack 62 = .ok (.imul, 1) := by decide +kernel
theorem d_In_turnsBack_63 : decode b_In_turnsBack 63 = .ok (.iload 4, 2) := by decide +kernel
theorem d_In_turnsBack_65 : decode b_In_turnsBack 65 = .ok (.iload 5, 2) := by decide +kernel
theorem d_In_turnsBack_67 : decode b_In_turnsBack 67 = .ok (.imul, 1) := by decide +kernel
theorem d_In_turnsBack_68 : decode b_In_turnsBack 68 = .ok (.if_icmp .ne 20, 3) := by decide +kernel
theorem d_In_turnsBack_71 : decode b_In_turnsBack 71 = .ok (.iload_n 3, 1) := by decide +kernel
theorem d_In_turnsBack_72 : decode b_In_turnsBack 72 = .ok (.iload 5, 2) := by decide +kernel
theorem d_In_turnsBack_74 : decode b_In_turnsBack 74 = .ok (.imul, 1) := by decide +kernel
theorem d_In_turnsBack_75 : decode b_In_turnsBack 75 = .ok (.iload 4, 2) := by decide +kernel
theorem d_In_turnsBack_77 : decode b_In_turnsBack 77 = .ok (.iload 6, 2) := by decide +kernel
theorem d_In_turnsBack_79 : decode b_In_turnsBack 79 = .ok (.imul, 1) := by decide +kernel
theorem d_In_turnsBack_80 : decode b_In_turnsBack 80 = .ok (.iadd, 1) := by decide +kernel
theorem d_In_turnsBack_81 : decode b_In_turnsBack 81 = .ok (.ifCond .le 7, 3) := by decide +kernel
theorem d_In_turnsBack_84 : decode b_In_turnsBack 84 = .ok (.iconst 1, 1) := by decide +kernel
theorem d_In_turnsBack_85 : decode b_In_turnsBack 85 = .ok (.goto 4, 3) := by decide +kernel
theorem d_In_turnsBack_88 : decode b_In_turnsBack 88 = .ok (.iconst 0, 1) := by decide +kernel
theorem d_In_turnsBack_89 : decode b_In_turnsBack 89 = .ok (.ireturn, 1) := by decide +kernel
set_option maxHeartbeats 4000000 in
set_option maxRecDepth 100000 in
theorem c_In_turnsBack (F : Nat → Nat → Int) (G : Nat → Int → Int) (n : Int) (hn : 0 ≤ n ∧ n ≤ 96) (hE : iE G n) (i j : Int) (hi : 0 ≤ i ∧ i < n) (hj : 0 ≤ j ∧ j < n) : cP y_In_turnsBack b_In_turnsBack 7 (some .boolean) 0 0 F G (fun ad => [.ref (ad 224), .int (iI i), .int (iI j)]) (fun r => (r = 0 ∨ r = 1) ∧ (r = 1 ↔ iBack G i j)) := by
  obtain ⟨e1, e2, e3, e4, e5⟩ := hE i hi.1 hi.2
  obtain ⟨f1, f2, f3, f4, f5⟩ := hE j hj.1 hj.2
  have p1 := mul_rng (a := G 225 i - G 227 i) (b := G 228 j - G 226 j) (by omega) (by omega)
  have p2 := mul_rng (a := G 226 i - G 228 i) (b := G 227 j - G 225 j) (by omega) (by omega)
  have p3 := mul_rng (a := G 225 i - G 227 i) (b := G 227 j - G 225 j) (by omega) (by omega)
  have p4 := mul_rng (a := G 226 i - G 228 i) (b := G 228 j - G 226 j) (by omega) (by omega)
  intro s0 a0 D t ad
  refine g_startP (by decide +kernel) (Nat.le_of_ble_eq_true rfl) (fun p l e R s m args below meth c A ok => ?_)
  show gW p l e R s m args below meth c _ D A 7 (gZ0 s) 0 0 ad 265 (mem ad t F G) 0 [(0, .ref (ad 224)), (1, .int (iI i)), (2, .int (iI j))] []
  refine g_aload_n ok d_In_turnsBack_0 rfl 0 rfl ?_
  refine gI_In_x1 ok _ rfl k_154 d_In_turnsBack_1 ?_
  refine g_iload_n ok d_In_turnsBack_4 rfl 1 rfl ?_
  refine h_iald ok _ a_225 (by omega) d_In_turnsBack_5 ?_
  refine g_aload_n ok d_In_turnsBack_6 rfl 0 rfl ?_
  refine gI_In_x2 ok _ rfl k_156 d_In_turnsBack_7 ?_
  refine g_iload_n ok d_In_turnsBack_10 rfl 1 rfl ?_
  refine h_iald ok _ a_227 (by omega) d_In_turnsBack_11 ?_
  refine g_isub ok d_In_turnsBack_12 ?_
  refine g_istore_n (lv' := [(3, .int (iI ((G 225 i) - (G 227 i)))), (0, .ref (ad 224)), (1, .int (iI i)), (2, .int (iI j))]) ok d_In_turnsBack_13 rfl (by decide) rfl ?_
  refine g_aload_n ok d_In_turnsBack_14 rfl 1 rfl ?_
  refine gI_In_y1 ok _ rfl k_155 d_In_turnsBack_15 ?_
  refine g_iload_n ok d_In_turnsBack_18 rfl 2 rfl ?_
  refine h_iald ok _ a_226 (by omega) d_In_turnsBack_19 ?_
  refine g_aload_n ok d_In_turnsBack_20 rfl 1 rfl ?_
  refine gI_In_y2 ok _ rfl k_157 d_In_turnsBack_21 ?_
  refine g_iload_n ok d_In_turnsBack_24 rfl 2 rfl ?_
  refine h_iald ok _ a_228 (by omega) d_In_turnsBack_25 ?_
  refine g_isub ok d_In_turnsBack_26 ?_
  refine g_istore (lv' := [(4, .int (iI ((G 226 i) - (G 228 i)))), (3, .int (iI ((G 225 i) - (G 227 i)))), (0, .ref (ad 224)), (1, .int (iI i)), (2, .int (iI j))]) ok d_In_turnsBack_27 (by decide) rfl ?_
  refine g_aload_n ok d_In_turnsBack_29 rfl 2 rfl ?_
  refine gI_In_x2 ok _ rfl k_156 d_In_turnsBack_30 ?_
  refine g_iload_n ok d_In_turnsBack_33 rfl 4 rfl ?_
  refine h_iald ok _ a_227 (by omega) d_In_turnsBack_34 ?_
  refine g_aload_n ok d_In_turnsBack_35 rfl 2 rfl ?_
  refine gI_In_x1 ok _ rfl k_154 d_In_turnsBack_36 ?_
  refine g_iload_n ok d_In_turnsBack_39 rfl 4 rfl ?_
  refine h_iald ok _ a_225 (by omega) d_In_turnsBack_40 ?_
  refine g_isub ok d_In_turnsBack_41 ?_
  refine g_istore (lv' := [(5, .int (iI ((G 227 j) - (G 225 j)))), (4, .int (iI ((G 226 i) - (G 228 i)))), (3, .int (iI ((G 225 i) - (G 227 i)))), (0, .ref (ad 224)), (1, .int (iI i)), (2, .int (iI j))]) ok d_In_turnsBack_42 (by decide) rfl ?_
  refine g_aload_n ok d_In_turnsBack_44 rfl 3 rfl ?_
  refine gI_In_y2 ok _ rfl k_157 d_In_turnsBack_45 ?_
  refine g_iload_n ok d_In_turnsBack_48 rfl 5 rfl ?_
  refine h_iald ok _ a_228 (by omega) d_In_turnsBack_49 ?_
  refine g_aload_n ok d_In_turnsBack_50 rfl 3 rfl ?_
  refine gI_In_y1 ok _ rfl k_155 d_In_turnsBack_51 ?_
  refine g_iload_n ok d_In_turnsBack_54 rfl 5 rfl ?_
  refine h_iald ok _ a_226 (by omega) d_In_turnsBack_55 ?_
  refine g_isub ok d_In_turnsBack_56 ?_
  refine g_istore (lv' := [(6, .int (iI ((G 228 j) - (G 226 j)))), (5, .int (iI ((G 227 j) - (G 225 j)))), (4, .int (iI ((G 226 i) - (G 228 i)))), (3, .int (iI ((G 225 i) - (G 227 i)))), (0, .ref (ad 224)), (1, .int (iI i)), (2, .int (iI j))]) ok d_In_turnsBack_57 (by decide) rfl ?_
  refine g_iload_n ok d_In_turnsBack_59 rfl 3 rfl ?_
  refine g_iload ok d_In_turnsBack_60 0 rfl ?_
  refine g_imul ok d_In_turnsBack_62 ?_
  refine g_iload ok d_In_turnsBack_63 2 rfl ?_
  refine g_iload ok d_In_turnsBack_65 1 rfl ?_
  refine g_imul ok d_In_turnsBack_67 ?_
  refine g_icmp_ne ok 88 d_In_turnsBack_68 (by decide) (by omega) (by omega) (fun h1 => ?_) (fun h1 => ?_)
  · refine g_iconst ok d_In_turnsBack_88 ?_
    exact g_zpret ok d_In_turnsBack_89 (by first | exact Or.inl rfl | exact Or.inr rfl | omega) (by unfold iBack eBack; omega)
  · refine g_iload_n ok d_In_turnsBack_71 rfl 3 rfl ?_
    refine g_iload ok d_In_turnsBack_72 1 rfl ?_
    refine g_imul ok d_In_turnsBack_74 ?_
    refine g_iload ok d_In_turnsBack_75 2 rfl ?_
    refine g_iload ok d_In_turnsBack_77 0 rfl ?_
    refine g_imul ok d_In_turnsBack_79 ?_
    refine g_iadd ok d_In_turnsBack_80 ?_
    refine g_if_le ok 88 d_In_turnsBack_81 (by decide) (by omega) (fun h2 => ?_) (fun h2 => ?_)
    · refine g_iconst ok d_In_turnsBack_88 ?_
      exact g_zpret ok d_In_turnsBack_89 (by first | exact Or.inl rfl | exact Or.inr rfl | omega) (by unfold iBack eBack; omega)
    · refine g_iconst ok d_In_turnsBack_84 ?_
      refine g_goto ok 89 d_In_turnsBack_85 (by decide) ?_
      exact g_zpret ok d_In_turnsBack_89 (by first | exact Or.inl rfl | exact Or.inr rfl | omega) (by unfold iBack eBack; omega)
theorem d_In_sharePoint_0 : decode b_In_sharePoint 0 = .ok (.aload_n 0, 1) := by decide +kernel
theorem d_In_sharePoint_1 : decode b_In_sharePoint 1 = .ok (.getfield 9, 3) := by decide +kernel
theorem d_In_sharePoint_4 : decode b_In_sharePoint 4 = .ok (.iload_n 1, 1) := by decide +kernel
theorem d_In_sharePoint_5 : decode b_In_sharePoint 5 = .ok (.iaload, 1) := by decide +kernel
theorem d_In_sharePoint_6 : decode b_In_sharePoint 6 = .ok (.aload_n 0, 1) := by decide +kernel
theorem d_In_sharePoint_7 : decode b_In_sharePoint 7 = .ok (.getfield 18, 3) := by decide +kernel
theorem d_In_sharePoint_10 : decode b_In_sharePoint 10 = .ok (.iload_n 1, 1) := by decide +kernel
theorem d_In_sharePoint_11 : decode b_In_sharePoint 11 = .ok (.iaload, 1) := by decide +kernel
theorem d_In_sharePoint_12 : decode b_In_sharePoint 12 = .ok (.invokestatic 105, 3) := by decide +kernel
theorem d_In_sharePoint_15 : decode b_In_sharePoint 15 = .ok (.aload_n 0, 1) := by decide +kernel
theorem d_In_sharePoint_16 : decode b_In_sharePoint 16 = .ok (.getfield 9, 3) := by decide +kernel
theorem d_In_sharePoint_19 : decode b_In_sharePoint 19 = .ok (.iload_n 2, 1) := by decide +kernel
theorem d_In_sharePoint_20 : decode b_In_sharePoint 20 = .ok (.iaload, 1) := by decide +kernel
theorem d_In_sharePoint_21 : decode b_In_sharePoint 21 = .ok (.aload_n 0, 1) := by decide +kernel
theorem d_In_sharePoint_22 : decode b_In_sharePoint 22 = .ok (.getfield 18, 3) := by decide +kernel
theorem d_In_sharePoint_25 : decode b_In_sharePoint 25 = .ok (.iload_n 2, 1) := by decide +kernel
theorem d_In_sharePoint_26 : decode b_In_sharePoint 26 = .ok (.iaload, 1) := by decide +kernel
theorem d_In_sharePoint_27 : decode b_In_sharePoint 27 = .ok (.invokestatic 111, 3) := by decide +kernel
theorem d_In_sharePoint_30 : decode b_In_sharePoint 30 = .ok (.if_icmp .lt 36, 3) := by decide +kernel
theorem d_In_sharePoint_33 : decode b_In_sharePoint 33 = .ok (.aload_n 0, 1) := by decide +kernel
theorem d_In_sharePoint_34 : decode b_In_sharePoint 34 = .ok (.getfield 9, 3) := by decide +kernel
theorem d_In_sharePoint_37 : decode b_In_sharePoint 37 = .ok (.iload_n 2, 1) := by decide +kernel
theorem d_In_sharePoint_38 : decode b_In_sharePoint 38 = .ok (.iaload, 1) := by decide +kernel
theorem d_In_sharePoint_39 : decode b_In_sharePoint 39 = .ok (.aload_n 0, 1) := by decide +kernel
theorem d_In_sharePoint_40 : decode b_In_sharePoint 40 = .ok (.getfield 18, 3) := by decide +kernel
theorem d_In_sharePoint_43 : decode b_In_sharePoint 43 = .ok (.iload_n 2, 1) := by decide +kernel
theorem d_In_sharePoint_44 : decode b_In_sharePoint 44 = .ok (.iaload, 1) := by decide +kernel
theorem d_In_sharePoint_45 : decode b_In_sharePoint 45 = .ok (.invokestatic 105, 3) := by decide +kernel
theorem d_In_sharePoint_48 : decode b_In_sharePoint 48 = .ok (.aload_n 0, 1) := by decide +kernel
theorem d_In_sharePoint_49 : decode b_In_sharePoint 49 = .ok (.getfield 9, 3) := by decide +kernel
theorem d_In_sharePoint_52 : decode b_In_sharePoint 52 = .ok (.iload_n 1, 1) := by decide +kernel
theorem d_In_sharePoint_53 : decode b_In_sharePoint 53 = .ok (.iaload, 1) := by decide +kernel
theorem d_In_sharePoint_54 : decode b_In_sharePoint 54 = .ok (.aload_n 0, 1) := by decide +kernel
theorem d_In_sharePoint_55 : decode b_In_sharePoint 55 = .ok (.getfield 18, 3) := by decide +kernel
theorem d_In_sharePoint_58 : decode b_In_sharePoint 58 = .ok (.iload_n 1, 1) := by decide +kernel
theorem d_In_sharePoint_59 : decode b_In_sharePoint 59 = .ok (.iaload, 1) := by decide +kernel
theorem d_In_sharePoint_60 : decode b_In_sharePoint 60 = .ok (.invokestatic 111, 3) := by decide +kernel
theorem d_In_sharePoint_63 : decode b_In_sharePoint 63 = .ok (.if_icmp .ge 7, 3) := by decide +kernel
theorem d_In_sharePoint_66 : decode b_In_sharePoint 66 = .ok (.iconst 1, 1) := by decide +kernel
theorem d_In_sharePoint_67 : decode b_In_sharePoint 67 = .ok (.goto 4, 3) := by decide +kernel
theorem d_In_sharePoint_70 : decode b_In_sharePoint 70 = .ok (.iconst 0, 1) := by decide +kernel
theorem d_In_sharePoint_71 : decode b_In_sharePoint 71 = .ok (.istore_n 3, 1) := by decide +kernel
theorem d_In_sharePoint_72 : decode b_In_sharePoint 72 = .ok (.aload_n 0, 1) := by decide +kernel
theorem d_In_sharePoint_73 : decode b_In_sharePoint 73 = .ok (.getfield 15, 3) := by decide +kernel
theorem d_In_sharePoint_76 : decode b_In_sharePoint 76 = .ok (.iload_n 1, 1) := by decide +kernel
theorem d_In_sharePoint_77 : decode b_In_sharePoint 77 = .ok (.iaload, 1) := by decide +kernel
theorem d_In_sharePoint_78 : decode b_In_sharePoint 78 = .ok (.aload_n 0, 1) := by decide +kernel
theorem d_In_sharePoint_79 : decode b_In_sharePoint 79 = .ok (.getfield 21, 3) := by decide +kernel
theorem d_In_sharePoint_82 : decode b_In_sharePoint 82 = .ok (.iload_n 1, 1) := by decide +kernel
theorem d_In_sharePoint_83 : decode b_In_sharePoint 83 = .ok (.iaload, 1) := by decide +kernel
theorem d_In_sharePoint_84 : decode b_In_sharePoint 84 = .ok (.invokestatic 105, 3) := by decide +kernel
theorem d_In_sharePoint_87 : decode b_In_sharePoint 87 = .ok (.aload_n 0, 1) := by decide +kernel
theorem d_In_sharePoint_88 : decode b_In_sharePoint 88 = .ok (.getfield 15, 3) := by decide +kernel
theorem d_In_sharePoint_91 : decode b_In_sharePoint 91 = .ok (.iload_n 2, 1) := by decide +kernel
theorem d_In_sharePoint_92 : decode b_In_sharePoint 92 = .ok (.iaload, 1) := by decide +kernel
theorem d_In_sharePoint_93 : decode b_In_sharePoint 93 = .ok (.aload_n 0, 1) := by decide +kernel
theorem d_In_sharePoint_94 : decode b_In_sharePoint 94 = .ok (.getfield 21, 3) := by decide +kernel
theorem d_In_sharePoint_97 : decode b_In_sharePoint 97 = .ok (.iload_n 2, 1) := by decide +kernel
theorem d_In_sharePoint_98 : decode b_In_sharePoint 98 = .ok (.iaload, 1) := by decide +kernel
theorem d_In_sharePoint_99 : decode b_In_sharePoint 99 = .ok (.invokestatic 111, 3) := by decide +kernel
theorem d_In_sharePoint_102 : decode b_In_sharePoint 102 = .ok (.if_icmp .lt 36, 3) := by decide +kernel
theorem d_In_sharePoint_105 : decode b_In_sharePoint 105 = .ok (.aload_n 0, 1) := by decide +kernel
theorem d_In_sharePoint_106 : decode b_In_sharePoint 106 = .ok (.getfield 15, 3) := by decide +kernel
theorem d_In_sharePoint_109 : decode b_In_sharePoint 109 = .ok (.iload_n 2, 1) := by decide +kernel
theorem d_In_sharePoint_110 : decode b_In_sharePoint 110 = .ok (.iaload, 1) := by decide +kernel
theorem d_In_sharePoint_111 : decode b_In_sharePoint 111 = .ok (.aload_n 0, 1) := by decide +kernel
theorem d_In_sharePoint_112 : decode b_In_sharePoint 112 = .ok (.getfield 21, 3) := by decide +kernel
theorem d_In_sharePoint_115 : decode b_In_sharePoint 115 = .ok (.iload_n 2, 1) := by decide +kernel
theorem d_In_sharePoint_116 : decode b_In_sharePoint 116 = .ok (.iaload, 1) := by decide +kernel
theorem d_In_sharePoint_117 : decode b_In_sharePoint 117 = .ok (.invokestatic 105, 3) := by decide +kernel
theorem d_In_sharePoint_120 : decode b_In_sharePoint 120 = .ok (.aload_n 0, 1) := by decide +kernel
theorem d_In_sharePoint_121 : decode b_In_sharePoint 121 = .ok (.getfield 15, 3) := by decide +kernel
theorem d_In_sharePoint_124 : decode b_In_sharePoint 124 = .ok (.iload_n 1, 1) := by decide +kernel
theorem d_In_sharePoint_125 : decode b_In_sharePoint 125 = .ok (.iaload, 1) := by decide +kernel
theorem d_In_sharePoint_126 : decode b_In_sharePoint 126 = .ok (.aload_n 0, 1) := by decide +kernel
theorem d_In_sharePoint_127 : decode b_In_sharePoint 127 = .ok (.getfield 21, 3) := by decide +kernel
theorem d_In_sharePoint_130 : decode b_In_sharePoint 130 = .ok (.iload_n 1, 1) := by decide +kernel
theorem d_In_sharePoint_131 : decode b_In_sharePoint 131 = .ok (.iaload, 1) := by decide +kernel
theorem d_In_sharePoint_132 : decode b_In_sharePoint 132 = .ok (.invokestatic 111, 3) := by decide +kernel
theorem d_In_sharePoint_135 : decode b_In_sharePoint 135 = .ok (.if_icmp .ge 7, 3) := by decide +kernel
theorem d_In_sharePoint_138 : decode b_In_sharePoint 138 = .ok (.iconst 1, 1) := by decide +kernel
theorem d_In_sharePoint_139 : decode b_In_sharePoint 139 = .ok (.goto 4, 3) := by decide +kernel
theorem d_In_sharePoint_142 : decode b_In_sharePoint 142 = .ok (.iconst 0, 1) := by decide +kernel
theorem d_In_sharePoint_143 : decode b_In_sharePoint 143 = .ok (.istore 4, 2) := by decide +kernel
theorem d_In_sharePoint_145 : decode b_In_sharePoint 145 = .ok (.iload_n 3, 1) := by decide +kernel
theorem d_In_sharePoint_146 : decode b_In_sharePoint 146 = .ok (.ifCond .ne 8, 3) := by decide +kernel
theorem d_In_sharePoint_149 : decode b_In_sharePoint 149 = .ok (.iload 4, 2) := by decide +kernel
theorem d_In_sharePoint_151 : decode b_In_sharePoint 151 = .ok (.ifCond .eq 5, 3) := by decide +kernel
theorem d_In_sharePoint_154 : decode b_In_sharePoint 154 = .ok (.iconst 0, 1) := by decide +kernel
theorem d_In_sharePoint_155 : decode b_In_sharePoint 155 = .ok (.ireturn, 1) := by decide +kernel
theorem d_In_sharePoint_156 : decode b_In_sharePoint 156 = .ok (.aload_n 0, 1) := by decide +kernel
theorem d_In_sharePoint_157 : decode b_In_sharePoint 157 = .ok (.iload_n 1, 1) := by decide +kernel
theorem d_In_sharePoint_158 : decode b_In_sharePoint 158 = .ok (.aload_n 0, 1) := by decide +kernel
theorem d_In_sharePoint_159 : decode b_In_sharePoint 159 = .ok (.getfield 9, 3) := by decide +kernel
theorem d_In_sharePoint_162 : decode b_In_sharePoint 162 = .ok (.iload_n 2, 1) := by decide +kernel
theorem d_In_sharePoint_163 : decode b_In_sharePoint 163 = .ok (.iaload, 1) := by decide +kernel
theorem d_In_sharePoint_164 : decode b_In_sharePoint 164 = .ok (.aload_n 0, 1) := by decide +kernel
theorem d_In_sharePoint_165 : decode b_In_sharePoint 165 = .ok (.getfield 15, 3) := by decide +kernel
theorem d_In_sharePoint_168 : decode b_In_sharePoint 168 = .ok (.iload_n 2, 1) := by decide +kernel
theorem d_In_sharePoint_169 : decode b_In_sharePoint 169 = .ok (.iaload, 1) := by decide +kernel
theorem d_In_sharePoint_170 : decode b_In_sharePoint 170 = .ok (.invokevirtual 114, 3) := by decide +kernel
theorem d_In_sharePoint_173 : decode b_In_sharePoint 173 = .ok (.aload_n 0, 1) := by decide +kernel
theorem d_In_sharePoint_174 : decode b_In_sharePoint 174 = .ok (.iload_n 1, 1) := by decide +kernel
theorem d_In_sharePoint_175 : decode b_In_sharePoint 175 = .ok (.aload_n 0, 1) := by decide +kernel
theorem d_In_sharePoint_176 : decode b_In_sharePoint 176 = .ok (.getfield 18, 3) := by decide +kernel
theorem d_In_sharePoint_179 : decode b_In_sharePoint 179 = .ok (.iload_n 2, 1) := by decide +kernel
theorem d_In_sharePoint_180 : decode b_In_sharePoint 180 = .ok (.iaload, 1) := by decide +kernel
theorem d_In_sharePoint_181 : decode b_In_sharePoint 181 = .ok (.aload_n 0, 1) := by decide +kernel
theorem d_In_sharePoint_182 : decode b_In_sharePoint 182 = .ok (.getfield 21, 3) := by decide +kernel
theorem d_In_sharePoint_185 : decode b_In_sharePoint 185 = .ok (.iload_n 2, 1) := by decide +kernel
theorem d_In_sharePoint_186 : decode b_In_sharePoint 186 = .ok (.iaload, 1) := by decide +kernel
theorem d_In_sharePoint_187 : decode b_In_sharePoint 187 = .ok (.invokevirtual 114, 3) := by decide +kernel
theorem d_In_sharePoint_190 : decode b_In_sharePoint 190 = .ok (.imul, 1) := by decide +kernel
theorem d_In_sharePoint_191 : decode b_In_sharePoint 191 = .ok (.ifCond .gt 45, 3) := by decide +kernel
theorem d_In_sharePoint_194 : decode b_In_sharePoint 194 = .ok (.aload_n 0, 1) := by decide +kernel
theorem d_In_sharePoint_195 : decode b_In_sharePoint 195 = .ok (.iload_n 2, 1) := by decide +kernel
theorem d_In_sharePoint_196 : decode b_In_sharePoint 196 = .ok (.aload_n 0, 1) := by decide +kernel
theorem d_In_sharePoint_197 : decode b_In_sharePoint 197 = .ok (.getfield 9, 3) := by decide +kernel
theorem d_In_sharePoint_200 : decode b_In_sharePoint 200 = .ok (.iload_n 1, 1) := by decide +kernel
theorem d_In_sharePoint_201 : decode b_In_sharePoint 201 = .ok (.iaload, 1) := by decide +kernel
theorem d_In_sharePoint_202 : decode b_In_sharePoint 202 = .ok (.aload_n 0, 1) := by decide +kernel
theorem d_In_sharePoint_203 : decode b_In_sharePoint 203 = .ok (.getfield 15, 3) := by decide +kernel
theorem d_In_sharePoint_206 : decode b_In_sharePoint 206 = .ok (.iload_n 1, 1) := by decide +kernel
theorem d_In_sharePoint_207 : decode b_In_sharePoint 207 = .ok (.iaload, 1) := by decide +kernel
theorem d_In_sharePoint_208 : decode b_In_sharePoint 208 = .ok (.invokevirtual 114, 3) := by decide +kernel
theorem d_In_sharePoint_211 : decode b_In_sharePoint 211 = .ok (.aload_n 0, 1) := by decide +kernel
theorem d_In_sharePoint_212 : decode b_In_sharePoint 212 = .ok (.iload_n 2, 1) := by decide +kernel
theorem d_In_sharePoint_213 : decode b_In_sharePoint 213 = .ok (.aload_n 0, 1) := by decide +kernel
theorem d_In_sharePoint_214 : decode b_In_sharePoint 214 = .ok (.getfield 18, 3) := by decide +kernel
theorem d_In_sharePoint_217 : decode b_In_sharePoint 217 = .ok (.iload_n 1, 1) := by decide +kernel
theorem d_In_sharePoint_218 : decode b_In_sharePoint 218 = .ok (.iaload, 1) := by decide +kernel
theorem d_In_sharePoint_219 : decode b_In_sharePoint 219 = .ok (.aload_n 0, 1) := by decide +kernel
theorem d_In_sharePoint_220 : decode b_In_sharePoint 220 = .ok (.getfield 21, 3) := by decide +kernel
theorem d_In_sharePoint_223 : decode b_In_sharePoint 223 = .ok (.iload_n 1, 1) := by decide +kernel
theorem d_In_sharePoint_224 : decode b_In_sharePoint 224 = .ok (.iaload, 1) := by decide +kernel
theorem d_In_sharePoint_225 : decode b_In_sharePoint 225 = .ok (.invokevirtual 114, 3) := by decide +kernel
theorem d_In_sharePoint_228 : decode b_In_sharePoint 228 = .ok (.imul, 1) := by decide +kernel
theorem d_In_sharePoint_229 : decode b_In_sharePoint 229 = .ok (.ifCond .gt 7, 3) := by decide +kernel
theorem d_In_sharePoint_232 : decode b_In_sharePoint 232 = .ok (.iconst 1, 1) := by decide +kernel
theorem d_In_sharePoint_233 : decode b_In_sharePoint 233 = .ok (.goto 4, 3) := by decide +kernel
theorem d_In_sharePoint_236 : decode b_In_sharePoint 236 = .ok (.iconst 0, 1) := by decide +kernel
theorem d_In_sharePoint_237 : decode b_In_sharePoint 237 = .ok (.ireturn, 1) := by decide +kernel
set_option maxHeartbeats 4000000 in
set_option maxRecDepth 100000 in
theorem c_In_sharePoint (F : Nat → Nat → Int) (G : Nat → Int → Int) (n : Int) (hn : 0 ≤ n ∧ n ≤ 96) (hE : iE G n) (i j : Int) (hi : 0 ≤ i ∧ i < n) (hj : 0 ≤ j ∧ j < n) : cP y_In_sharePoint b_In_sharePoint 5 (some .boolean) 2 43 F G (fun ad => [.ref (ad 224), .int (iI i), .int (iI j)]) (fun r => (r = 0 ∨ r = 1) ∧ (r = 1 ↔ iShare G i j)) := by
  obtain ⟨e1, e2, e3, e4, e5⟩ := hE i hi.1 hi.2
  obtain ⟨f1, f2, f3, f4, f5⟩ := hE j hj.1 hj.2
  have q1 := sgn_mul (eTurn (G 225 i) (G 226 i) (G 227 i) (G 228 i) (G 225 j) (G 226 j)) (eTurn (G 225 i) (G 226 i) (G 227 i) (G 228 i) (G 227 j) (G 228 j))
  have q2 := sgn_mul (eTurn (G 225 j) (G 226 j) (G 227 j) (G 228 j) (G 225 i) (G 226 i)) (eTurn (G 225 j) (G 226 j) (G 227 j) (G 228 j) (G 227 i) (G 228 i))
  intro s0 a0 D t ad
  refine g_startP (by decide +kernel) (Nat.le_of_ble_eq_true rfl) (fun p l e R s m args below meth c A ok => ?_)
  show gW p l e R s m args below meth c _ D A 5 (gZ0 s) 0 0 ad 265 (mem ad t F G) 0 [(0, .ref (ad 224)), (1, .int (iI i)), (2, .int (iI j))] []
  have J_71 : ∀ (b : Int), ((b = 0 ∨ b = 1) ∧ (b = 1 ↔ eApart (G 225 i) (G 227 i) (G 225 j) (G 227 j))) → gW p l e R s m args below meth c (MQ below (gQp (fun r => (r = 0 ∨ r = 1) ∧ (r = 1 ↔ iShare G i j))) args s 0 0 (fun _ => False)) D A 5 (gZ0 s) 0 0 ad 265 (mem ad t F G) 71 [(0, .ref (ad 224)), (1, .int (iI i)), (2, .int (iI j))] [.int (iI b)] := by
    intro b hb
    refine g_istore_n (lv' := [(3, .int (iI b)), (0, .ref (ad 224)), (1, .int (iI i)), (2, .int (iI j))]) ok d_In_sharePoint_71 rfl (by decide) rfl ?_
    have J_143 : ∀ (b2 : Int), ((b2 = 0 ∨ b2 = 1) ∧ (b2 = 1 ↔ eApart (G 226 i) (G 228 i) (G 226 j) (G 228 j))) → gW p l e R s m args below meth c (MQ below (gQp (fun r => (r = 0 ∨ r = 1) ∧ (r = 1 ↔ iShare G i j))) args s 0 0 (fun _ => False)) D A 5 (gZ0 s) 0 0 ad 265 (mem ad t F G) 143 [(0, .ref (ad 224)), (1, .int (iI i)), (2, .int (iI j)), (3, .int (iI b))] [.int (iI b2)] := by
      intro b2 hb2
      refine g_istore (lv' := [(4, .int (iI b2)), (0, .ref (ad 224)), (1, .int (iI i)), (2, .int (iI j)), (3, .int (iI b))]) ok d_In_sharePoint_143 (by decide) rfl ?_
      refine g_iload_n ok d_In_sharePoint_145 rfl 4 rfl ?_
      refine g_if_ne ok 154 d_In_sharePoint_146 (by decide) (by omega) (fun h1 => ?_) (fun h1 => ?_)
      · refine g_iconst ok d_In_sharePoint_154 ?_
        exact g_zpret ok d_In_sharePoint_155 (Or.inl rfl) (by unfold iShare eShare; unfold eApart at hb hb2 ⊢; omega)
      · refine g_iload ok d_In_sharePoint_149 0 rfl ?_
        refine g_if_eq ok 156 d_In_sharePoint_151 (by decide) (by omega) (fun h2 => ?_) (fun h2 => ?_)
        · refine g_aload_n ok d_In_sharePoint_156 rfl 1 rfl ?_
          refine g_iload_n ok d_In_sharePoint_157 rfl 2 rfl ?_
          refine g_aload_n ok d_In_sharePoint_158 rfl 1 rfl ?_
          refine gI_In_x1 ok _ rfl k_154 d_In_sharePoint_159 ?_
          refine g_iload_n ok d_In_sharePoint_162 rfl 3 rfl ?_
          refine h_iald ok _ a_225 (by omega) d_In_sharePoint_163 ?_
          refine g_aload_n ok d_In_sharePoint_164 rfl 1 rfl ?_
          refine gI_In_y1 ok _ rfl k_155 d_In_sharePoint_165 ?_
          refine g_iload_n ok d_In_sharePoint_168 rfl 3 rfl ?_
          refine h_iald ok _ a_226 (by omega) d_In_sharePoint_169 ?_
          refine g_callPV (As := [.int (iI i), .int (iI (G 225 j)), .int (iI (G 226 j))]) (st := []) ok _ (c_In_turn F G n hn hE _ _ _ (by omega) (by omega) (by omega) s0 a0 D t ad) k_860 k_5 k_857 cl_In (m_In (ad := ad) (t := t) (F := F) (G := G) rfl).1 (m_In rfl).2 k_859 s_In_turn q_In_turn (by decide) (Nat.le_of_ble_eq_true rfl) (by decide) d_In_sharePoint_170 (fun z3 hc3 => ?_)
          subst hc3
          refine g_aload_n ok d_In_sharePoint_173 rfl 1 rfl ?_
          refine g_iload_n ok d_In_sharePoint_174 rfl 2 rfl ?_
          refine g_aload_n ok d_In_sharePoint_175 rfl 1 rfl ?_
          refine gI_In_x2 ok _ rfl k_156 d_In_sharePoint_176 ?_
          refine g_iload_n ok d_In_sharePoint_179 rfl 3 rfl ?_
          refine h_iald ok _ a_227 (by omega) d_In_sharePoint_180 ?_
          refine g_aload_n ok d_In_sharePoint_181 rfl 1 rfl ?_
          refine gI_In_y2 ok _ rfl k_157 d_In_sharePoint_182 ?_
          refine g_iload_n ok d_In_sharePoint_185 rfl 3 rfl ?_
          refine h_iald ok _ a_228 (by omega) d_In_sharePoint_186 ?_
          refine g_callPV (As := [.int (iI i), .int (iI (G 227 j)), .int (iI (G 228 j))]) (st := [.int (iI (sgn (eTurn (G 225 i) (G 226 i) (G 227 i) (G 228 i) (G 225 j) (G 226 j))))]) ok _ (c_In_turn F G n hn hE _ _ _ (by omega) (by omega) (by omega) s0 a0 D t ad) k_860 k_5 k_857 cl_In (m_In (ad := ad) (t := t) (F := F) (G := G) rfl).1 (m_In rfl).2 k_859 s_In_turn q_In_turn (by decide) (Nat.le_of_ble_eq_true rfl) (by decide) d_In_sharePoint_187 (fun z4 hc4 => ?_)
          subst hc4
          refine g_imul ok d_In_sharePoint_190 ?_
          refine g_if_gt ok 236 d_In_sharePoint_191 (by decide) (by omega) (fun h5 => ?_) (fun h5 => ?_)
          · refine g_iconst ok d_In_sharePoint_236 ?_
            exact g_zpret ok d_In_sharePoint_237 (Or.inl rfl) (by unfold iShare eShare; unfold eApart at hb hb2 ⊢; omega)
          · refine g_aload_n ok d_In_sharePoint_194 rfl 1 rfl ?_
            refine g_iload_n ok d_In_sharePoint_195 rfl 3 rfl ?_
            refine g_aload_n ok d_In_sharePoint_196 rfl 1 rfl ?_
            refine gI_In_x1 ok _ rfl k_154 d_In_sharePoint_197 ?_
            refine g_iload_n ok d_In_sharePoint_200 rfl 2 rfl ?_
            refine h_iald ok _ a_225 (by omega) d_In_sharePoint_201 ?_
            refine g_aload_n ok d_In_sharePoint_202 rfl 1 rfl ?_
            refine gI_In_y1 ok _ rfl k_155 d_In_sharePoint_203 ?_
            refine g_iload_n ok d_In_sharePoint_206 rfl 2 rfl ?_
            refine h_iald ok _ a_226 (by omega) d_In_sharePoint_207 ?_
            refine g_callPV (As := [.int (iI j), .int (iI (G 225 i)), .int (iI (G 226 i))]) (st := []) ok _ (c_In_turn F G n hn hE _ _ _ (by omega) (by omega) (by omega) s0 a0 D t ad) k_860 k_5 k_857 cl_In (m_In (ad := ad) (t := t) (F := F) (G := G) rfl).1 (m_In rfl).2 k_859 s_In_turn q_In_turn (by decide) (Nat.le_of_ble_eq_true rfl) (by decide) d_In_sharePoint_208 (fun z6 hc6 => ?_)
            subst hc6
            refine g_aload_n ok d_In_sharePoint_211 rfl 1 rfl ?_
            refine g_iload_n ok d_In_sharePoint_212 rfl 3 rfl ?_
            refine g_aload_n ok d_In_sharePoint_213 rfl 1 rfl ?_
            refine gI_In_x2 ok _ rfl k_156 d_In_sharePoint_214 ?_
            refine g_iload_n ok d_In_sharePoint_217 rfl 2 rfl ?_
            refine h_iald ok _ a_227 (by omega) d_In_sharePoint_218 ?_
            refine g_aload_n ok d_In_sharePoint_219 rfl 1 rfl ?_
            refine gI_In_y2 ok _ rfl k_157 d_In_sharePoint_220 ?_
            refine g_iload_n ok d_In_sharePoint_223 rfl 2 rfl ?_
            refine h_iald ok _ a_228 (by omega) d_In_sharePoint_224 ?_
            refine g_callPV (As := [.int (iI j), .int (iI (G 227 i)), .int (iI (G 228 i))]) (st := [.int (iI (sgn (eTurn (G 225 j) (G 226 j) (G 227 j) (G 228 j) (G 225 i) (G 226 i))))]) ok _ (c_In_turn F G n hn hE _ _ _ (by omega) (by omega) (by omega) s0 a0 D t ad) k_860 k_5 k_857 cl_In (m_In (ad := ad) (t := t) (F := F) (G := G) rfl).1 (m_In rfl).2 k_859 s_In_turn q_In_turn (by decide) (Nat.le_of_ble_eq_true rfl) (by decide) d_In_sharePoint_225 (fun z7 hc7 => ?_)
            subst hc7
            refine g_imul ok d_In_sharePoint_228 ?_
            refine g_if_gt ok 236 d_In_sharePoint_229 (by decide) (by omega) (fun h8 => ?_) (fun h8 => ?_)
            · refine g_iconst ok d_In_sharePoint_236 ?_
              exact g_zpret ok d_In_sharePoint_237 (Or.inl rfl) (by unfold iShare eShare; unfold eApart at hb hb2 ⊢; omega)
            · refine g_iconst ok d_In_sharePoint_232 ?_
              refine g_goto ok 237 d_In_sharePoint_233 (by decide) ?_
              exact g_zpret ok d_In_sharePoint_237 (Or.inr rfl) (by unfold iShare eShare; unfold eApart at hb hb2 ⊢; omega)
        · refine g_iconst ok d_In_sharePoint_154 ?_
          exact g_zpret ok d_In_sharePoint_155 (Or.inl rfl) (by unfold iShare eShare; unfold eApart at hb hb2 ⊢; omega)
    refine g_aload_n ok d_In_sharePoint_72 rfl 1 rfl ?_
    refine gI_In_y1 ok _ rfl k_155 d_In_sharePoint_73 ?_
    refine g_iload_n ok d_In_sharePoint_76 rfl 2 rfl ?_
    refine h_iald ok _ a_226 (by omega) d_In_sharePoint_77 ?_
    refine g_aload_n ok d_In_sharePoint_78 rfl 1 rfl ?_
    refine gI_In_y2 ok _ rfl k_157 d_In_sharePoint_79 ?_
    refine g_iload_n ok d_In_sharePoint_82 rfl 2 rfl ?_
    refine h_iald ok _ a_228 (by omega) d_In_sharePoint_83 ?_
    refine g_callPS (As := [.int (iI (G 226 i)), .int (iI (G 228 i))]) (st := []) ok (c_Ma_max F G _ _ (by omega) (by omega) s0 a0 D t ad) k_414 k_18 k_855 k_413 q_Ma_max (by decide) (Nat.le_of_ble_eq_true rfl) (by decide) d_In_sharePoint_84 (fun z9 hc9 => ?_)
    subst hc9
    refine g_aload_n ok d_In_sharePoint_87 rfl 1 rfl ?_
    refine gI_In_y1 ok _ rfl k_155 d_In_sharePoint_88 ?_
    refine g_iload_n ok d_In_sharePoint_91 rfl 3 rfl ?_
    refine h_iald ok _ a_226 (by omega) d_In_sharePoint_92 ?_
    refine g_aload_n ok d_In_sharePoint_93 rfl 1 rfl ?_
    refine gI_In_y2 ok _ rfl k_157 d_In_sharePoint_94 ?_
    refine g_iload_n ok d_In_sharePoint_97 rfl 3 rfl ?_
    refine h_iald ok _ a_228 (by omega) d_In_sharePoint_98 ?_
    refine g_callPS (As := [.int (iI (G 226 j)), .int (iI (G 228 j))]) (st := [.int (iI (max (G 226 i) (G 228 i)))]) ok (c_Ma_min F G _ _ (by omega) (by omega) s0 a0 D t ad) k_417 k_18 k_856 k_416 q_Ma_min (by decide) (Nat.le_of_ble_eq_true rfl) (by decide) d_In_sharePoint_99 (fun z10 hc10 => ?_)
    subst hc10
    refine g_icmp_lt ok 138 d_In_sharePoint_102 (by decide) (by omega) (by omega) (fun h11 => ?_) (fun h11 => ?_)
    · refine g_iconst ok d_In_sharePoint_138 ?_
      refine g_goto ok 143 d_In_sharePoint_139 (by decide) ?_
      refine g_lv [1, 2, 3, 0] rfl ?_
      exact J_143 1 (by unfold eApart; omega)
    · refine g_aload_n ok d_In_sharePoint_105 rfl 1 rfl ?_
      refine gI_In_y1 ok _ rfl k_155 d_In_sharePoint_106 ?_
      refine g_iload_n ok d_In_sharePoint_109 rfl 3 rfl ?_
      refine h_iald ok _ a_226 (by omega) d_In_sharePoint_110 ?_
      refine g_aload_n ok d_In_sharePoint_111 rfl 1 rfl ?_
      refine gI_In_y2 ok _ rfl k_157 d_In_sharePoint_112 ?_
      refine g_iload_n ok d_In_sharePoint_115 rfl 3 rfl ?_
      refine h_iald ok _ a_228 (by omega) d_In_sharePoint_116 ?_
      refine g_callPS (As := [.int (iI (G 226 j)), .int (iI (G 228 j))]) (st := []) ok (c_Ma_max F G _ _ (by omega) (by omega) s0 a0 D t ad) k_414 k_18 k_855 k_413 q_Ma_max (by decide) (Nat.le_of_ble_eq_true rfl) (by decide) d_In_sharePoint_117 (fun z12 hc12 => ?_)
      subst hc12
      refine g_aload_n ok d_In_sharePoint_120 rfl 1 rfl ?_
      refine gI_In_y1 ok _ rfl k_155 d_In_sharePoint_121 ?_
      refine g_iload_n ok d_In_sharePoint_124 rfl 2 rfl ?_
      refine h_iald ok _ a_226 (by omega) d_In_sharePoint_125 ?_
      refine g_aload_n ok d_In_sharePoint_126 rfl 1 rfl ?_
      refine gI_In_y2 ok _ rfl k_157 d_In_sharePoint_127 ?_
      refine g_iload_n ok d_In_sharePoint_130 rfl 2 rfl ?_
      refine h_iald ok _ a_228 (by omega) d_In_sharePoint_131 ?_
      refine g_callPS (As := [.int (iI (G 226 i)), .int (iI (G 228 i))]) (st := [.int (iI (max (G 226 j) (G 228 j)))]) ok (c_Ma_min F G _ _ (by omega) (by omega) s0 a0 D t ad) k_417 k_18 k_856 k_416 q_Ma_min (by decide) (Nat.le_of_ble_eq_true rfl) (by decide) d_In_sharePoint_132 (fun z13 hc13 => ?_)
      subst hc13
      refine g_icmp_ge ok 142 d_In_sharePoint_135 (by decide) (by omega) (by omega) (fun h14 => ?_) (fun h14 => ?_)
      · refine g_iconst ok d_In_sharePoint_142 ?_
        refine g_lv [1, 2, 3, 0] rfl ?_
        exact J_143 0 (by unfold eApart; omega)
      · refine g_iconst ok d_In_sharePoint_138 ?_
        refine g_goto ok 143 d_In_sharePoint_139 (by decide) ?_
        refine g_lv [1, 2, 3, 0] rfl ?_
        exact J_143 1 (by unfold eApart; omega)
  refine g_aload_n ok d_In_sharePoint_0 rfl 0 rfl ?_
  refine gI_In_x1 ok _ rfl k_154 d_In_sharePoint_1 ?_
  refine g_iload_n ok d_In_sharePoint_4 rfl 1 rfl ?_
  refine h_iald ok _ a_225 (by omega) d_In_sharePoint_5 ?_
  refine g_aload_n ok d_In_sharePoint_6 rfl 0 rfl ?_
  refine gI_In_x2 ok _ rfl k_156 d_In_sharePoint_7 ?_
  refine g_iload_n ok d_In_sharePoint_10 rfl 1 rfl ?_
  refine h_iald ok _ a_227 (by omega) d_In_sharePoint_11 ?_
  refine g_callPS (As := [.int (iI (G 225 i)), .int (iI (G 227 i))]) (st := []) ok (c_Ma_max F G _ _ (by omega) (by omega) s0 a0 D t ad) k_414 k_18 k_855 k_413 q_Ma_max (by decide) (Nat.le_of_ble_eq_true rfl) (by decide) d_In_sharePoint_12 (fun z15 hc15 => ?_)
  subst hc15
  refine g_aload_n ok d_In_sharePoint_15 rfl 0 rfl ?_
  refine gI_In_x1 ok _ rfl k_154 d_In_sharePoint_16 ?_
  refine g_iload_n ok d_In_sharePoint_19 rfl 2 rfl ?_
  refine h_iald ok _ a_225 (by omega) d_In_sharePoint_20 ?_
  refine g_aload_n ok d_In_sharePoint_21 rfl 0 rfl ?_
  refine gI_In_x2 ok _ rfl k_156 d_In_sharePoint_22 ?_
  refine g_iload_n ok d_In_sharePoint_25 rfl 2 rfl ?_
  refine h_iald ok _ a_227 (by omega) d_In_sharePoint_26 ?_
  refine g_callPS (As := [.int (iI (G 225 j)), .int (iI (G 227 j))]) (st := [.int (iI (max (G 225 i) (G 227 i)))]) ok (c_Ma_min F G _ _ (by omega) (by omega) s0 a0 D t ad) k_417 k_18 k_856 k_416 q_Ma_min (by decide) (Nat.le_of_ble_eq_true rfl) (by decide) d_In_sharePoint_27 (fun z16 hc16 => ?_)
  subst hc16
  refine g_icmp_lt ok 66 d_In_sharePoint_30 (by decide) (by omega) (by omega) (fun h17 => ?_) (fun h17 => ?_)
  · refine g_iconst ok d_In_sharePoint_66 ?_
    refine g_goto ok 71 d_In_sharePoint_67 (by decide) ?_
    exact J_71 1 (by unfold eApart; omega)
  · refine g_aload_n ok d_In_sharePoint_33 rfl 0 rfl ?_
    refine gI_In_x1 ok _ rfl k_154 d_In_sharePoint_34 ?_
    refine g_iload_n ok d_In_sharePoint_37 rfl 2 rfl ?_
    refine h_iald ok _ a_225 (by omega) d_In_sharePoint_38 ?_
    refine g_aload_n ok d_In_sharePoint_39 rfl 0 rfl ?_
    refine gI_In_x2 ok _ rfl k_156 d_In_sharePoint_40 ?_
    refine g_iload_n ok d_In_sharePoint_43 rfl 2 rfl ?_
    refine h_iald ok _ a_227 (by omega) d_In_sharePoint_44 ?_
    refine g_callPS (As := [.int (iI (G 225 j)), .int (iI (G 227 j))]) (st := []) ok (c_Ma_max F G _ _ (by omega) (by omega) s0 a0 D t ad) k_414 k_18 k_855 k_413 q_Ma_max (by decide) (Nat.le_of_ble_eq_true rfl) (by decide) d_In_sharePoint_45 (fun z18 hc18 => ?_)
    subst hc18
    refine g_aload_n ok d_In_sharePoint_48 rfl 0 rfl ?_
    refine gI_In_x1 ok _ rfl k_154 d_In_sharePoint_49 ?_
    refine g_iload_n ok d_In_sharePoint_52 rfl 1 rfl ?_
    refine h_iald ok _ a_225 (by omega) d_In_sharePoint_53 ?_
    refine g_aload_n ok d_In_sharePoint_54 rfl 0 rfl ?_
    refine gI_In_x2 ok _ rfl k_156 d_In_sharePoint_55 ?_
    refine g_iload_n ok d_In_sharePoint_58 rfl 1 rfl ?_
    refine h_iald ok _ a_227 (by omega) d_In_sharePoint_59 ?_
    refine g_callPS (As := [.int (iI (G 225 i)), .int (iI (G 227 i))]) (st := [.int (iI (max (G 225 j) (G 227 j)))]) ok (c_Ma_min F G _ _ (by omega) (by omega) s0 a0 D t ad) k_417 k_18 k_856 k_416 q_Ma_min (by decide) (Nat.le_of_ble_eq_true rfl) (by decide) d_In_sharePoint_60 (fun z19 hc19 => ?_)
    subst hc19
    refine g_icmp_ge ok 70 d_In_sharePoint_63 (by decide) (by omega) (by omega) (fun h20 => ?_) (fun h20 => ?_)
    · refine g_iconst ok d_In_sharePoint_70 ?_
      exact J_71 0 (by unfold eApart; omega)
    · refine g_iconst ok d_In_sharePoint_66 ?_
      refine g_goto ok 71 d_In_sharePoint_67 (by decide) ?_
      exact J_71 1 (by unfold eApart; omega)
theorem d_In_areCrossed_0 : decode b_In_areCrossed 0 = .ok (.aload_n 0, 1) := by decide +kernel
theorem d_In_areCrossed_1 : decode b_In_areCrossed 1 = .ok (.getfield 24, 3) := by decide +kernel
theorem d_In_areCrossed_4 : decode b_In_areCrossed 4 = .ok (.iload_n 1, 1) := by decide +kernel
theorem d_In_areCrossed_5 : decode b_In_areCrossed 5 = .ok (.iaload, 1) := by decide +kernel
theorem d_In_areCrossed_6 : decode b_In_areCrossed 6 = .ok (.iload_n 2, 1) := by decide +kernel
theorem d_In_areCrossed_7 : decode b_In_areCrossed 7 = .ok (.if_icmp .ne 10, 3) := by decide +kernel
theorem d_In_areCrossed_10 : decode b_In_areCrossed 10 = .ok (.aload_n 0, 1) := by decide +kernel
theorem d_In_areCrossed_11 : decode b_In_areCrossed 11 = .ok (.iload_n 1, 1) := by decide +kernel
theorem d_In_areCrossed_12 : decode b_In_areCrossed 12 = .ok (.iload_n 2, 1) := by decide +kernel
theorem d_In_areCrossed_13 : decode b_In_areCrossed 13 = .ok (.invokevirtual 99, 3) := by decide +kernel
theorem d_In_areCrossed_16 : decode b_In_areCrossed 16 = .ok (.ireturn, 1) := by decide +kernel
theorem d_In_areCrossed_17 : decode b_In_areCrossed 17 = .ok (.aload_n 0, 1) := by decide +kernel
theorem d_In_areCrossed_18 : decode b_In_areCrossed 18 = .ok (.getfield 24, 3) := by decide +kernel
theorem d_In_areCrossed_21 : decode b_In_areCrossed 21 = .ok (.iload_n 2, 1) := by decide +kernel
theorem d_In_areCrossed_22 : decode b_In_areCrossed 22 = .ok (.iaload, 1) := by decide +kernel
theorem d_In_areCrossed_23 : decode b_In_areCrossed 23 = .ok (.iload_n 1, 1) := by decide +kernel
theorem d_In_areCrossed_24 : decode b_In_areCrossed 24 = .ok (.if_icmp .ne 10, 3) := by decide +kernel
theorem d_In_areCrossed_27 : decode b_In_areCrossed 27 = .ok (.aload_n 0, 1) := by decide +kernel
theorem d_In_areCrossed_28 : decode b_In_areCrossed 28 = .ok (.iload_n 2, 1) := by decide +kernel
theorem d_In_areCrossed_29 : decode b_In_areCrossed 29 = .ok (.iload_n 1, 1) := by decide +kernel
theorem d_In_areCrossed_30 : decode b_In_areCrossed 30 = .ok (.invokevirtual 99, 3) := by decide +kernel
theorem d_In_areCrossed_33 : decode b_In_areCrossed 33 = .ok (.ireturn, 1) := by decide +kernel
theorem d_In_areCrossed_34 : decode b_In_areCrossed 34 = .ok (.aload_n 0, 1) := by decide +kernel
theorem d_In_areCrossed_35 : decode b_In_areCrossed 35 = .ok (.iload_n 1, 1) := by decide +kernel
theorem d_In_areCrossed_36 : decode b_In_areCrossed 36 = .ok (.iload_n 2, 1) := by decide +kernel
theorem d_In_areCrossed_37 : decode b_In_areCrossed 37 = .ok (.invokevirtual 102, 3) := by decide +kernel
theorem d_In_areCrossed_40 : decode b_In_areCrossed 40 = .ok (.ireturn, 1) := by decide +kernel
set_option maxHeartbeats 4000000 in
set_option maxRecDepth 100000 in
theorem c_In_areCrossed (F : Nat → Nat → Int) (G : Nat → Int → Int) (n : Int) (hn : 0 ≤ n ∧ n ≤ 96) (hE : iE G n) (i j : Int) (hi : 0 ≤ i ∧ i < n) (hj : 0 ≤ j ∧ j < n) : cP y_In_areCrossed b_In_areCrossed 3 (some .boolean) 3 67 F G (fun ad => [.ref (ad 224), .int (iI i), .int (iI j)]) (fun r => (r = 0 ∨ r = 1) ∧ (r = 1 ↔ iCross G i j)) := by
  obtain ⟨e1, e2, e3, e4, e5⟩ := hE i hi.1 hi.2
  obtain ⟨f1, f2, f3, f4, f5⟩ := hE j hj.1 hj.2
  intro s0 a0 D t ad
  refine g_startP (by decide +kernel) (Nat.le_of_ble_eq_true rfl) (fun p l e R s m args below meth c A ok => ?_)
  show gW p l e R s m args below meth c _ D A 3 (gZ0 s) 0 0 ad 265 (mem ad t F G) 0 [(0, .ref (ad 224)), (1, .int (iI i)), (2, .int (iI j))] []
  refine g_aload_n ok d_In_areCrossed_0 rfl 0 rfl ?_
  refine gI_In_follower ok _ rfl k_158 d_In_areCrossed_1 ?_
  refine g_iload_n ok d_In_areCrossed_4 rfl 1 rfl ?_
  refine h_iald ok _ a_229 (by omega) d_In_areCrossed_5 ?_
  refine g_iload_n ok d_In_areCrossed_6 rfl 2 rfl ?_
  refine g_icmp_ne ok 17 d_In_areCrossed_7 (by decide) (by omega) (by omega) (fun h1 => ?_) (fun h1 => ?_)
  · refine g_aload_n ok d_In_areCrossed_17 rfl 0 rfl ?_
    refine gI_In_follower ok _ rfl k_158 d_In_areCrossed_18 ?_
    refine g_iload_n ok d_In_areCrossed_21 rfl 2 rfl ?_
    refine h_iald ok _ a_229 (by omega) d_In_areCrossed_22 ?_
    refine g_iload_n ok d_In_areCrossed_23 rfl 1 rfl ?_
    refine g_icmp_ne ok 34 d_In_areCrossed_24 (by decide) (by omega) (by omega) (fun h2 => ?_) (fun h2 => ?_)
    · refine g_aload_n ok d_In_areCrossed_34 rfl 0 rfl ?_
      refine g_iload_n ok d_In_areCrossed_35 rfl 1 rfl ?_
      refine g_iload_n ok d_In_areCrossed_36 rfl 2 rfl ?_
      refine g_callPV (As := [.int (iI i), .int (iI j)]) (st := []) ok _ (c_In_sharePoint F G n hn hE _ _ (by omega) (by omega) s0 a0 D t ad) k_854 k_5 k_851 cl_In (m_In (ad := ad) (t := t) (F := F) (G := G) rfl).1 (m_In rfl).2 k_853 s_In_sharePoint q_In_sharePoint (by decide) (Nat.le_of_ble_eq_true rfl) (by decide) d_In_areCrossed_37 (fun z3 hc3 => ?_)
      exact g_zpret ok d_In_areCrossed_40 (hc3.1) (by unfold iCross; rw [if_neg (by omega), if_neg (by omega)]; exact hc3)
    · refine g_aload_n ok d_In_areCrossed_27 rfl 0 rfl ?_
      refine g_iload_n ok d_In_areCrossed_28 rfl 2 rfl ?_
      refine g_iload_n ok d_In_areCrossed_29 rfl 1 rfl ?_
      refine g_callPV (As := [.int (iI j), .int (iI i)]) (st := []) ok _ (c_In_turnsBack F G n hn hE _ _ (by omega) (by omega) s0 a0 D t ad) k_850 k_5 k_847 cl_In (m_In (ad := ad) (t := t) (F := F) (G := G) rfl).1 (m_In rfl).2 k_849 s_In_turnsBack q_In_turnsBack (by decide) (Nat.le_of_ble_eq_true rfl) (by decide) d_In_areCrossed_30 (fun z4 hc4 => ?_)
      exact g_zpret ok d_In_areCrossed_33 (hc4.1) (by unfold iCross; rw [if_neg (by omega), if_pos (by omega)]; exact hc4)
  · refine g_aload_n ok d_In_areCrossed_10 rfl 0 rfl ?_
    refine g_iload_n ok d_In_areCrossed_11 rfl 1 rfl ?_
    refine g_iload_n ok d_In_areCrossed_12 rfl 2 rfl ?_
    refine g_callPV (As := [.int (iI i), .int (iI j)]) (st := []) ok _ (c_In_turnsBack F G n hn hE _ _ (by omega) (by omega) s0 a0 D t ad) k_850 k_5 k_847 cl_In (m_In (ad := ad) (t := t) (F := F) (G := G) rfl).1 (m_In rfl).2 k_849 s_In_turnsBack q_In_turnsBack (by decide) (Nat.le_of_ble_eq_true rfl) (by decide) d_In_areCrossed_13 (fun z5 hc5 => ?_)
    exact g_zpret ok d_In_areCrossed_16 (hc5.1) (by unfold iCross; rw [if_pos (by omega)]; exact hc5)
