/-! a hatch's runs -/
noncomputable def hRow (has : Int → Int → Prop) (d sp row : Int) : List Ev := hEv (lX d (row * sp)) (lY d (row * sp)) (hL (decide (row % 2 = 0)) (fun p => has (lX d (row * sp) p) (lY d (row * sp) p)))
noncomputable def hAll (has : Int → Int → Prop) (d sp first : Int) : Nat → List Ev
  | 0 => []
  | j + 1 => hAll has d sp first j ++ hRow has d sp (first + (j : Int))
theorem hAll_step {has : Int → Int → Prop} {d sp first row : Int} (h : first ≤ row) : hAll has d sp first (row + 1 - first).toNat = hAll has d sp first (row - first).toNat ++ hRow has d sp row := by
  have e : (row + 1 - first).toNat = (row - first).toNat + 1 := by omega
  have e2 : first + (((row - first).toNat : Nat) : Int) = row := by omega
  rw [e]
  show hAll has d sp first (row - first).toNat ++ hRow has d sp (first + (((row - first).toNat : Nat) : Int)) = _
  rw [e2]
noncomputable def hatE (has : Int → Int → Prop) (d sp low high : Int) : List Ev := hAll has d sp (-((-low) / sp)) (high / sp + 1 - -((-low) / sp)).toNat
theorem hRow_up {has : Int → Int → Prop} {d sp row : Int} {L : List (Int × Int)} (h : isRn (fun p => has (lX d (row * sp) p) (lY d (row * sp) p)) L) (he : row % 2 = 0) : hRow has d sp row = hEv (lX d (row * sp)) (lY d (row * sp)) L := by
  unfold hRow hL
  rw [if_pos (decide_eq_true he), pts_eq h]
theorem hRow_dn {has : Int → Int → Prop} {d sp row : Int} {L : List (Int × Int)} (h : isRn (fun p => has (lX d (row * sp) p) (lY d (row * sp) p)) L) (he : ¬ row % 2 = 0) : hRow has d sp row = hEv (lX d (row * sp)) (lY d (row * sp)) (L.reverse.map (fun p => (p.2, p.1))) := by
  unfold hRow hL
  rw [if_neg (by rw [decide_eq_false he]; decide), pts_eq h]
theorem iI_and1 (c : Int) : iI c &&& iI 1 = iI (c % 2) := by
  have e : iI c = iI (c % 4294967296) := by
    apply Int32.toInt_inj.mp
    unfold iI
    rw [Int32.toInt_ofInt, Int32.toInt_ofInt]
    exact (Int.emod_bmod c 4294967296).symm
  rw [e, iI_andN (by omega) (by decide)]
  have h1 : (1 : Int).toNat = 1 := rfl
  rw [h1, Nat.and_one_is_mod]
  congr 1
  omega
theorem row_rng {low high sp row : Int} (hs : 4 ≤ sp ∧ sp ≤ 20) (hl : -600 ≤ low ∧ low ≤ 1200) (hh : -600 ≤ high ∧ high ≤ 1200) (h1 : -((-low) / sp) ≤ row) (h2 : row ≤ high / sp) : -600 ≤ row * sp ∧ row * sp ≤ 1200 := by
  have a : high / sp * sp ≤ high := Int.ediv_mul_le _ (by omega)
  have b : (-low) / sp * sp ≤ -low := Int.ediv_mul_le _ (by omega)
  have c : row * sp ≤ high / sp * sp := Int.mul_le_mul_of_nonneg_right h2 (by omega)
  have d : -((-low) / sp) * sp ≤ row * sp := Int.mul_le_mul_of_nonneg_right h1 (by omega)
  rw [Int.neg_mul] at d
  omega
theorem q_rng {a sp : Int} (hs : 4 ≤ sp ∧ sp ≤ 20) (ha : -1200 ≤ a ∧ a ≤ 1200) : -1200 ≤ a / sp ∧ a / sp ≤ 1200 :=
  ⟨Int.le_ediv_of_mul_le (by omega) (by omega), Int.ediv_le_of_le_mul (by omega) (by omega)⟩
theorem take_s {L : List (Int × Int)} {i : Int} {r : Int × Int} (h0 : 0 ≤ i) (h : L[i.toNat]? = some r) : L.take (i + 1).toNat = L.take i.toNat ++ [r] := by
  rw [show (i + 1).toNat = i.toNat + 1 by omega, List.take_succ, h]
  rfl
theorem get_ex {L : List (Int × Int)} {i : Int} (h0 : 0 ≤ i) (h : i < (L.length : Int)) : ∃ r, L[i.toNat]? = some r := ⟨_, List.getElem?_eq_getElem (by omega)⟩
theorem rv_get {L : List (Int × Int)} {i : Int} {r : Int × Int} (h0 : 0 ≤ i) (h : i < (L.length : Int)) (hr : L[((L.length : Int) - 1 - i).toNat]? = some r) : (L.reverse.map (fun p => (p.2, p.1)))[i.toNat]? = some (r.2, r.1) := by
  rw [List.getElem?_map, List.getElem?_reverse (by omega), show L.length - 1 - i.toNat = ((L.length : Int) - 1 - i).toNat by omega, hr]
  rfl
def lwF (F : Nat → Nat → Int) (k : Nat) : Int := if F k 6 = 0 then F k 8 else if F k 6 = 1 then F k 7 else if F k 6 = 2 then F k 7 + F k 8 else F k 8 - F k 9
def hgF (F : Nat → Nat → Int) (k : Nat) : Int := if F k 6 = 0 then F k 10 else if F k 6 = 1 then F k 9 else if F k 6 = 2 then F k 9 + F k 10 else F k 10 - F k 7
theorem lwF_rng {F : Nat → Nat → Int} {k : Nat} (hb : (0 ≤ F k 7 ∧ F k 7 ≤ 600) ∧ (0 ≤ F k 8 ∧ F k 8 ≤ 600) ∧ (0 ≤ F k 9 ∧ F k 9 ≤ 600) ∧ (0 ≤ F k 10 ∧ F k 10 ≤ 600)) : (-600 ≤ lwF F k ∧ lwF F k ≤ 1200) ∧ (-600 ≤ hgF F k ∧ hgF F k ≤ 1200) := by
  unfold lwF hgF
  refine ⟨?_, ?_⟩
  · split
    · omega
    · split
      · omega
      · split <;> omega
  · split
    · omega
    · split
      · omega
      · split <;> omega
theorem hat_end {q k : Nat} {F F1 : Nat → Nat → Int} {G G1 : Nat → Int → Int} {S : PS} {pd : Bool} {has : Int → Int → Prop} {d sp low high row : Int} (hr : -((-low) / sp) ≤ row ∧ (row ≤ high / sp + 1 ∨ row = -((-low) / sp))) (he : high / sp < row) (h : tkR q k F G S F1 G1 (hAll has d sp (-((-low) / sp)) (row - -((-low) / sp)).toNat) pd) : tkR q k F G S F1 G1 (hatE has d sp low high) pd := by
  unfold hatE
  rw [show (high / sp + 1 - -((-low) / sp)).toNat = (row - -((-low) / sp)).toNat by omega]
  exact h
theorem d_Rt_tellHatch_0 : decode b_Rt_tellHatch 0 = .ok (.aload_n 1, 1) := by decide +kernel
theorem d_Rt_tellHatch_1 : decode b_Rt_tellHatch 1 = .ok (.invokestatic 90, 3) := by decide +kernel
theorem d_Rt_tellHatch_4 : decode b_Rt_tellHatch 4 = .ok (.ineg, 1) := by decide +kernel
theorem d_Rt_tellHatch_5 : decode b_Rt_tellHatch 5 = .ok (.aload_n 1, 1) := by decide +kernel
theorem d_Rt_tellHatch_6 : decode b_Rt_tellHatch 6 = .ok (.getfield 75, 3) := by decide +kernel
theorem d_Rt_tellHatch_9 : decode b_Rt_tellHatch 9 = .ok (.invokestatic 94, 3) := by decide +kernel
theorem d_Rt_tellHatch_12 : decode b_Rt_tellHatch 12 = .ok (.ineg, 1) := by decide +kernel
theorem d_Rt_tellHatch_13 : decode b_Rt_tellHatch 13 = .ok (.istore_n 3, 1) := by decide +kernel
theorem d_Rt_tellHatch_14 : decode b_Rt_tellHatch 14 = .ok (.aload_n 1, 1) := by decide +kernel
theorem d_Rt_tellHatch_15 : decode b_Rt_tellHatch 15 = .ok (.invokestatic 97, 3) := by decide +kernel
theorem d_Rt_tellHatch_18 : decode b_Rt_tellHatch 18 = .ok (.aload_n 1, 1) := by decide +kernel
theorem d_Rt_tellHatch_19 : decode b_Rt_tellHatch 19 = .ok (.getfield 75, 3) := by decide +kernel
theorem d_Rt_tellHatch_22 : decode b_Rt_tellHatch 22 = .ok (.invokestatic 94, 3) := by decide +kernel
theorem d_Rt_tellHatch_25 : decode b_Rt_tellHatch 25 = .ok (.istore 4, 2) := by decide +kernel
theorem d_Rt_tellHatch_27 : decode b_Rt_tellHatch 27 = .ok (.iload_n 3, 1) := by decide +kernel
theorem d_Rt_tellHatch_28 : decode b_Rt_tellHatch 28 = .ok (.istore 5, 2) := by decide +kernel
theorem d_Rt_tellHatch_30 : decode b_Rt_tellHatch 30 = .ok (.iload 5, 2) := by decide +kernel
theorem d_Rt_tellHatch_32 : decode b_Rt_tellHatch 32 = .ok (.iload 4, 2) := by decide +kernel
theorem d_Rt_tellHatch_34 : decode b_Rt_tellHatch 34 = .ok (.if_icmp .gt 197, 3) := by decide +kernel
theorem d_Rt_tellHatch_37 : decode b_Rt_tellHatch 37 = .ok (.aload_n 0, 1) := by decide +kernel
theorem d_Rt_tellHatch_38 : decode b_Rt_tellHatch 38 = .ok (.getfield 12, 3) := by decide +kernel
theorem d_Rt_tellHatch_41 : decode b_Rt_tellHatch 41 = .ok (.aload_n 1, 1) := by decide +kernel
theorem d_Rt_tellHatch_42 : decode b_Rt_tellHatch 42 = .ok (.iload 5, 2) := by decide +kernel
theorem d_Rt_tellHatch_44 : decode b_Rt_tellHatch 44 = .ok (.aload_n 1, 1) := by decide +kernel
theorem d_Rt_tellHatch_45 : decode b_Rt_tellHatch 45 = .ok (.getfield 75, 3) := by decide +kernel
theorem d_Rt_tellHatch_48 : decode b_Rt_tellHatch 48 = .ok (.imul, 1) := by decide +kernel
theorem d_Rt_tellHatch_49 : decode b_Rt_tellHatch 49 = .ok (.invokevirtual 100, 3) := by decide +kernel
theorem d_Rt_tellHatch_52 : decode b_Rt_tellHatch 52 = .ok (.iload 5, 2) := by decide +kernel
theorem d_Rt_tellHatch_54 : decode b_Rt_tellHatch 54 = .ok (.iconst 1, 1) := by decide +kernel
theorem d_Rt_tellHatch_55 : decode b_Rt_tellHatch 55 = .ok (.iand, 1) := by decide +kernel
theorem d_Rt_tellHatch_56 : decode b_Rt_tellHatch 56 = .ok (.ifCond .ne 7, 3) := by decide +kernel
theorem d_Rt_tellHatch_59 : decode b_Rt_tellHatch 59 = .ok (.iconst 1, 1) := by decide +kernel
theorem d_Rt_tellHatch_60 : decode b_Rt_tellHatch 60 = .ok (.goto 4, 3) := by decide +kernel
theorem d_Rt_tellHatch_63 : decode b_Rt_tellHatch 63 = .ok (.iconst 0, 1) := by decide +kernel
theorem d_Rt_tellHatch_64 : decode b_Rt_tellHatch 64 = .ok (.istore 6, 2) := by decide +kernel
theorem d_Rt_tellHatch_66 : decode b_Rt_tellHatch 66 = .ok (.iconst 0, 1) := by decide +kernel
theorem d_Rt_tellHatch_67 : decode b_Rt_tellHatch 67 = .ok (.istore 7, 2) := by decide +kernel
theorem d_Rt_tellHatch_69 : decode b_Rt_tellHatch 69 = .ok (.iload 7, 2) := by decide +kernel
theorem d_Rt_tellHatch_71 : decode b_Rt_tellHatch 71 = .ok (.aload_n 0, 1) := by decide +kernel
theorem d_Rt_tellHatch_72 : decode b_Rt_tellHatch 72 = .ok (.getfield 12, 3) := by decide +kernel
theorem d_Rt_tellHatch_75 : decode b_Rt_tellHatch 75 = .ok (.getfield 104, 3) := by decide +kernel
theorem d_Rt_tellHatch_78 : decode b_Rt_tellHatch 78 = .ok (.if_icmp .ge 147, 3) := by decide +kernel
theorem d_Rt_tellHatch_81 : decode b_Rt_tellHatch 81 = .ok (.iload 6, 2) := by decide +kernel
theorem d_Rt_tellHatch_83 : decode b_Rt_tellHatch 83 = .ok (.ifCond .eq 8, 3) := by decide +kernel
theorem d_Rt_tellHatch_86 : decode b_Rt_tellHatch 86 = .ok (.iload 7, 2) := by decide +kernel
theorem d_Rt_tellHatch_88 : decode b_Rt_tellHatch 88 = .ok (.goto 15, 3) := by decide +kernel
theorem d_Rt_tellHatch_91 : decode b_Rt_tellHatch 91 = .ok (.aload_n 0, 1) := by decide +kernel
theorem d_Rt_tellHatch_92 : decode b_Rt_tellHatch 92 = .ok (.getfield 12, 3) := by decide +kernel
theorem d_Rt_tellHatch_95 : decode b_Rt_tellHatch 95 = .ok (.getfield 104, 3) := by decide +kernel
theorem d_Rt_tellHatch_98 : decode b_Rt_tellHatch 98 = .ok (.iconst 1, 1) := by decide +kernel
theorem d_Rt_tellHatch_99 : decode b_Rt_tellHatch 99 = .ok (.isub, 1) := by decide +kernel
theorem d_Rt_tellHatch_100 : decode b_Rt_tellHatch 100 = .ok (.iload 7, 2) := by decide +kernel
theorem d_Rt_tellHatch_102 : decode b_Rt_tellHatch 102 = .ok (.isub, 1) := by decide +kernel
theorem d_Rt_tellHatch_103 : decode b_Rt_tellHatch 103 = .ok (.istore 8, 2) := by decide +kernel
theorem d_Rt_tellHatch_105 : decode b_Rt_tellHatch 105 = .ok (.iload 6, 2) := by decide +kernel
theorem d_Rt_tellHatch_107 : decode b_Rt_tellHatch 107 = .ok (.ifCond .eq 16, 3) := by decide +kernel
theorem d_Rt_tellHatch_110 : decode b_Rt_tellHatch 110 = .ok (.aload_n 0, 1) := by decide +kernel
theorem d_Rt_tellHatch_111 : decode b_Rt_tellHatch 111 = .ok (.getfield 12, 3) := by decide +kernel
theorem d_Rt_tellHatch_114 : decode b_Rt_tellHatch 114 = .ok (.getfield 107, 3) := by decide +kernel
theorem d_Rt_tellHatch_117 : decode b_Rt_tellHatch 117 = .ok (.iload 8, 2) := by decide +kernel
theorem d_Rt_tellHatch_119 : decode b_Rt_tellHatch 119 = .ok (.iaload, 1) := by decide +kernel
theorem d_Rt_tellHatch_120 : decode b_Rt_tellHatch 120 = .ok (.goto 13, 3) := by decide +kernel
theorem d_Rt_tellHatch_123 : decode b_Rt_tellHatch 123 = .ok (.aload_n 0, 1) := by decide +kernel
theorem d_Rt_tellHatch_124 : decode b_Rt_tellHatch 124 = .ok (.getfield 12, 3) := by decide +kernel
theorem d_Rt_tellHatch_127 : decode b_Rt_tellHatch 127 = .ok (.getfield 110, 3) := by decide +kernel
theorem d_Rt_tellHatch_130 : decode b_Rt_tellHatch 130 = .ok (.iload 8, 2) := by decide +kernel
theorem d_Rt_tellHatch_132 : decode b_Rt_tellHatch 132 = .ok (.iaload, 1) := by decide +kernel
theorem d_Rt_tellHatch_133 : decode b_Rt_tellHatch 133 = .ok (.istore 9, 2) := by decide +kernel
theorem d_Rt_tellHatch_135 : decode b_Rt_tellHatch 135 = .ok (.iload 6, 2) := by decide +kernel
theorem d_Rt_tellHatch_137 : decode b_Rt_tellHatch 137 = .ok (.ifCond .eq 16, 3) := by decide +kernel
theorem d_Rt_tellHatch_140 : decode b_Rt_tellHatch 140 = .ok (.aload_n 0, 1) := by decide +kernel
theorem d_Rt_tellHatch_141 : decode b_Rt_tellHatch 141 = .ok (.getfield 12, 3) := by decide +kernel
theorem d_Rt_tellHatch_144 : decode b_Rt_tellHatch 144 = .ok (.getfield 110, 3) := by decide +kernel
theorem d_Rt_tellHatch_147 : decode b_Rt_tellHatch 147 = .ok (.iload 8, 2) := by decide +kernel
theorem d_Rt_tellHatch_149 : decode b_Rt_tellHatch 149 = .ok (.iaload, 1) := by decide +kernel
theorem d_Rt_tellHatch_150 : decode b_Rt_tellHatch 150 = .ok (.goto 13, 3) := by decide +kernel
theorem d_Rt_tellHatch_153 : decode b_Rt_tellHatch 153 = .ok (.aload_n 0, 1) := by decide +kernel
theorem d_Rt_tellHatch_154 : decode b_Rt_tellHatch 154 = .ok (.getfield 12, 3) := by decide +kernel
theorem d_Rt_tellHatch_157 : decode b_Rt_tellHatch 157 = .ok (.getfield 107, 3) := by decide +kernel
theorem d_Rt_tellHatch_160 : decode b_Rt_tellHatch 160 = .ok (.iload 8, 2) := by decide +kernel
theorem d_Rt_tellHatch_162 : decode b_Rt_tellHatch 162 = .ok (.iaload, 1) := by decide +kernel
theorem d_Rt_tellHatch_163 : decode b_Rt_tellHatch 163 = .ok (.istore 10, 2) := by decide +kernel
theorem d_Rt_tellHatch_165 : decode b_Rt_tellHatch 165 = .ok (.aload_n 2, 1) := by decide +kernel
theorem d_Rt_tellHatch_166 : decode b_Rt_tellHatch 166 = .ok (.invokeinterface 43 1, 5) := by decide +kernel
theorem d_Rt_tellHatch_171 : decode b_Rt_tellHatch 171 = .ok (.aload_n 2, 1) := by decide +kernel
theorem d_Rt_tellHatch_172 : decode b_Rt_tellHatch 172 = .ok (.aload_n 0, 1) := by decide +kernel
theorem d_Rt_tellHatch_173 : decode b_Rt_tellHatch 173 = .ok (.getfield 12, 3) := by decide +kernel
theorem d_Rt_tellHatch_176 : decode b_Rt_tellHatch 176 = .ok (.iload 9, 2) := by decide +kernel
theorem d_Rt_tellHatch_178 : decode b_Rt_tellHatch 178 = .ok (.invokevirtual 113, 3) := by decide +kernel
theorem d_Rt_tellHatch_181 : decode b_Rt_tellHatch 181 = .ok (.aload_n 0, 1) := by decide +kernel
theorem d_Rt_tellHatch_182 : decode b_Rt_tellHatch 182 = .ok (.getfield 12, 3) := by decide +kernel
theorem d_Rt_tellHatch_185 : decode b_Rt_tellHatch 185 = .ok (.iload 9, 2) := by decide +kernel
theorem d_Rt_tellHatch_187 : decode b_Rt_tellHatch 187 = .ok (.invokevirtual 116, 3) := by decide +kernel
theorem d_Rt_tellHatch_190 : decode b_Rt_tellHatch 190 = .ok (.invokeinterface 55 3, 5) := by decide +kernel
theorem d_Rt_tellHatch_195 : decode b_Rt_tellHatch 195 = .ok (.aload_n 2, 1) := by decide +kernel
theorem d_Rt_tellHatch_196 : decode b_Rt_tellHatch 196 = .ok (.aload_n 0, 1) := by decide +kernel
theorem d_Rt_tellHatch_197 : decode b_Rt_tellHatch 197 = .ok (.getfield 12, 3) := by decide +kernel
theorem d_Rt_tellHatch_200 : decode b_Rt_tellHatch 200 = .ok (.iload 10, 2) := by decide +kernel
theorem d_Rt_tellHatch_202 : decode b_Rt_tellHatch 202 = .ok (.invokevirtual 113, 3) := by decide +kernel
theorem d_Rt_tellHatch_205 : decode b_Rt_tellHatch 205 = .ok (.aload_n 0, 1) := by decide +kernel
theorem d_Rt_tellHatch_206 : decode b_Rt_tellHatch 206 = .ok (.getfield 12, 3) := by decide +kernel
theorem d_Rt_tellHatch_209 : decode b_Rt_tellHatch 209 = .ok (.iload 10, 2) := by decide +kernel
theorem d_Rt_tellHatch_211 : decode b_Rt_tellHatch 211 = .ok (.invokevirtual 116, 3) := by decide +kernel
theorem d_Rt_tellHatch_214 : decode b_Rt_tellHatch 214 = .ok (.invokeinterface 55 3, 5) := by decide +kernel
theorem d_Rt_tellHatch_219 : decode b_Rt_tellHatch 219 = .ok (.iinc 7 1, 3) := by decide +kernel
theorem d_Rt_tellHatch_222 : decode b_Rt_tellHatch 222 = .ok (.goto (-153), 3) := by decide +kernel
theorem d_Rt_tellHatch_225 : decode b_Rt_tellHatch 225 = .ok (.iinc 5 1, 3) := by decide +kernel
theorem d_Rt_tellHatch_228 : decode b_Rt_tellHatch 228 = .ok (.goto (-198), 3) := by decide +kernel
theorem d_Rt_tellHatch_231 : decode b_Rt_tellHatch 231 = .ok (.return_, 1) := by decide +kernel
set_option maxHeartbeats 1000000 in
set_option maxRecDepth 100000 in
theorem c_Rt_tellHatch (F : Nat → Nat → Int) (G : Nat → Int → Int) (q k : Nat) (S : PS) (p0 : Bool) (hA : tkAt q k F G) (h0 : tkR q k F G S F G [] p0) (hp0 : q ≠ 235 → p0 = false) (h24 : ∀ q : Nat, q < 4 → F (k + 3 + 3 * q) 2 ≤ 24) : cV y_Rt_tellHatch b_Rt_tellHatch 11 none 5 118 F G (fun ad => [.ref (ad 230), .ref (ad k), .ref (ad q)]) (fun F' G' => ∃ p1 : Bool, (q ≠ 235 → p1 = false) ∧ tkR q k F G S F' G' (hatE (hasC F G k) (F k 6) (F k 5) (lwF F k) (hgF F k)) p1) := by
  have hK := hA.1.1
  have hkk := hK
  unfold isSh at hkk
  have hsp := hA.1.2.2.2.1.2.2.1
  have hd6 := hA.1.2.2.2.1.2.2.2
  have hlh := lwF_rng hA.1.2.2.1
  intro s0 a0 D t ad
  refine g_startV (by decide +kernel) (Nat.le_of_ble_eq_true rfl) (fun p l e R s m args below meth c A ok => ?_)
  show gW p l e R s m args below meth c _ D A 11 (gZ0 s) 0 0 ad 265 (mem ad t F G) 0 [(0, .ref (ad 230)), (1, .ref (ad k)), (2, .ref (ad q))] []
  refine g_aload_n ok d_Rt_tellHatch_0 rfl 1 rfl ?_
  refine g_callPS (As := [.ref (ad k)]) (st := []) ok (c_Rt_leastF F G _ hK hd6 s0 a0 D t ad) k_385 k_6 k_383 k_384 q_Rt_leastF (by decide) (Nat.le_of_ble_eq_true rfl) (by decide) d_Rt_tellHatch_1 (fun z1 hc1 => ?_)
  have hx1 : z1 = lwF F k := hc1
  subst hx1
  refine g_ineg ok d_Rt_tellHatch_4 ?_
  refine g_aload_n ok d_Rt_tellHatch_5 rfl 1 rfl ?_
  refine gN_Sh_spacing ok _ hK k_103 d_Rt_tellHatch_6 ?_
  have hqr1 := q_rng (a := -(lwF F k)) (sp := F k 5) hsp (by omega)
  refine g_callPS (As := [.int (iI (-(lwF F k))), .int (iI (F k 5))]) (st := []) ok (c_Ma_floorDiv F G _ _ (by omega) (by omega) s0 a0 D t ad) k_388 k_18 k_386 k_387 q_Ma_floorDiv (by decide) (Nat.le_of_ble_eq_true rfl) (by decide) d_Rt_tellHatch_9 (fun z2 hc2 => ?_)
  subst hc2
  refine g_ineg ok d_Rt_tellHatch_12 ?_
  refine g_istore_n (lv' := [(3, .int (iI (-((-(lwF F k)) / (F k 5))))), (0, .ref (ad 230)), (1, .ref (ad k)), (2, .ref (ad q))]) ok d_Rt_tellHatch_13 rfl (by decide) rfl ?_
  refine g_aload_n ok d_Rt_tellHatch_14 rfl 2 rfl ?_
  refine g_callPS (As := [.ref (ad k)]) (st := []) ok (c_Rt_greatestF F G _ hK hd6 s0 a0 D t ad) k_391 k_6 k_389 k_390 q_Rt_greatestF (by decide) (Nat.le_of_ble_eq_true rfl) (by decide) d_Rt_tellHatch_15 (fun z3 hc3 => ?_)
  have hx3 : z3 = hgF F k := hc3
  subst hx3
  refine g_aload_n ok d_Rt_tellHatch_18 rfl 2 rfl ?_
  refine gN_Sh_spacing ok _ hK k_103 d_Rt_tellHatch_19 ?_
  have hqr3 := q_rng (a := hgF F k) (sp := F k 5) hsp (by omega)
  refine g_callPS (As := [.int (iI (hgF F k)), .int (iI (F k 5))]) (st := []) ok (c_Ma_floorDiv F G _ _ (by omega) (by omega) s0 a0 D t ad) k_388 k_18 k_386 k_387 q_Ma_floorDiv (by decide) (Nat.le_of_ble_eq_true rfl) (by decide) d_Rt_tellHatch_22 (fun z4 hc4 => ?_)
  subst hc4
  refine g_istore (lv' := [(4, .int (iI ((hgF F k) / (F k 5)))), (3, .int (iI (-((-(lwF F k)) / (F k 5))))), (0, .ref (ad 230)), (1, .ref (ad k)), (2, .ref (ad q))]) ok d_Rt_tellHatch_25 (by decide) rfl ?_
  refine g_iload_n ok d_Rt_tellHatch_27 rfl 1 rfl ?_
  refine g_istore (lv' := [(5, .int (iI (-((-(lwF F k)) / (F k 5))))), (4, .int (iI ((hgF F k) / (F k 5)))), (3, .int (iI (-((-(lwF F k)) / (F k 5))))), (0, .ref (ad 230)), (1, .ref (ad k)), (2, .ref (ad q))]) ok d_Rt_tellHatch_28 (by decide) rfl ?_
  have L_r : ∀ (n_r : Nat) (row : Int) (F1 : Nat → Nat → Int) (G1 : Nat → Int → Int) (pd1 : Bool), (-((-lwF F k) / F k 5) ≤ row ∧ (row ≤ hgF F k / F k 5 + 1 ∨ row = -((-lwF F k) / F k 5))) → (q ≠ 235 → pd1 = false) → (tkR q k F G S F1 G1 (hAll (hasC F G k) (F k 6) (F k 5) (-((-lwF F k) / F k 5)) (row - -((-lwF F k) / F k 5)).toNat) pd1) → (hgF F k / F k 5 + 2 + 4000 - row) < (n_r : Int) → gW p l e R s m args below meth c (MQ below (gQv D A ad 265 (fun ce' => ∃ F' G', ce' = mem ad t F' G' ∧ (fun F' G' => ∃ p1 : Bool, (q ≠ 235 → p1 = false) ∧ tkR q k F G S F' G' (hatE (hasC F G k) (F k 6) (F k 5) (lwF F k) (hgF F k)) p1) F' G')) args s 0 0 A) D A 11 (gZ) 0 0 ad 265 (mem ad t F1 G1) 30 [(0, .ref (ad 230)), (1, .ref (ad k)), (2, .ref (ad q)), (3, .int (iI (-((-lwF F k) / F k 5)))), (4, .int (iI (hgF F k / F k 5))), (5, .int (iI row))] [] := by
    intro n_r
    induction n_r with
    | zero =>
      intro row F1 G1 pd1 hr hp1 hR1 hm_r
      exact absurd hm_r (by omega)
    | succ n_r ih_r =>
      intro row F1 G1 pd1 hr hp1 hR1 hm_r
      refine g_iload ok d_Rt_tellHatch_30 5 rfl ?_
      refine g_iload ok d_Rt_tellHatch_32 4 rfl ?_
      refine g_icmp_gt ok 231 d_Rt_tellHatch_34 (by decide) (by omega) (by omega) (fun h5 => ?_) (fun h5 => ?_)
      · exact g_vret ok d_Rt_tellHatch_231 ⟨_, _, rfl, pd1, hp1, hat_end hr (by omega) hR1⟩
      · refine g_aload_n ok d_Rt_tellHatch_37 rfl 0 rfl ?_
        refine gI_Rt_line ok _ rfl k_240 d_Rt_tellHatch_38 ?_
        refine g_aload_n ok d_Rt_tellHatch_41 rfl 1 rfl ?_
        refine g_iload ok d_Rt_tellHatch_42 5 rfl ?_
        refine g_aload_n ok d_Rt_tellHatch_44 rfl 1 rfl ?_
        refine gN_Sh_spacing ok _ hK k_103 d_Rt_tellHatch_45 ?_
        refine g_top (y := F k 5) (by show F1 k 5 = _; rw [tkAt_F hA hR1.2.2.1 k 5 (by omega) (by omega)]) ?_
        refine g_imul ok d_Rt_tellHatch_48 ?_
        have hA1 := tkAt_1 hA hR1.2.2.1 hR1.2.2.2
        have e6 : F1 k 6 = F k 6 := tkAt_F hA hR1.2.2.1 k 6 (by omega) (by omega)
        have ehs : hasC F1 G1 k = hasC F G k := hasC_cong hK (tkAt_F hA hR1.2.2.1) (tkAt_G hA hR1.2.2.2)
        have hrr := row_rng hsp hlh.1 hlh.2 hr.1 (by omega)
        refine g_callVVN (As := [.ref (ad k), .int (iI (row * (F k 5)))]) (st := []) ok _ (c_Hl_lay F1 G1 _ _ hA1.1 (fun q hq => by rw [tkAt_F hA hR1.2.2.1 _ _ (by omega) (by omega)]; exact h24 q hq) (by omega) s0 a0 D t ad) k_395 k_7 k_392 cl_Hl (m_Hl (ad := ad) (t := t) (F := F1) (G := G1) rfl).1 (m_Hl rfl).2 k_394 s_Hl_lay q_Hl_lay (by decide) (Nat.le_of_ble_eq_true rfl) (by decide) d_Rt_tellHatch_49 (fun ce1 hc6 => ?_)
        obtain ⟨F3, G3, rfl, L, hL, hPT, hpt, hRn, hxy, hf3, hg3⟩ := hc6
        rw [e6] at hRn hxy
        rw [ehs] at hRn
        have hR3 := tkR_hl hA hR1 hf3 hg3
        have hl3 : tkL F3 G3 F3 G3 := ⟨fun _ => rfl, fun _ _ _ => rfl⟩
        refine g_iload ok d_Rt_tellHatch_52 5 rfl ?_
        refine g_iconst ok d_Rt_tellHatch_54 ?_
        refine g_iand (z := row % 2) ok (iI_and1 _) d_Rt_tellHatch_55 ?_
        refine g_if_ne ok 63 d_Rt_tellHatch_56 (by decide) (by omega) (fun h7 => ?_) (fun h7 => ?_)
        · have hev : ¬ row % 2 = 0 := by omega
          refine g_iconst ok d_Rt_tellHatch_63 ?_
          refine g_istore (lv' := [(6, .int (iI 0)), (0, .ref (ad 230)), (1, .ref (ad k)), (2, .ref (ad q)), (3, .int (iI (-((-lwF F k) / F k 5)))), (4, .int (iI (hgF F k / F k 5))), (5, .int (iI row))]) ok d_Rt_tellHatch_64 (by decide) rfl ?_
          refine g_iconst ok d_Rt_tellHatch_66 ?_
          refine g_istore (lv' := [(7, .int (iI 0)), (6, .int (iI 0)), (0, .ref (ad 230)), (1, .ref (ad k)), (2, .ref (ad q)), (3, .int (iI (-((-lwF F k) / F k 5)))), (4, .int (iI (hgF F k / F k 5))), (5, .int (iI row))]) ok d_Rt_tellHatch_67 (by decide) rfl ?_
          have L_k : ∀ (n_k : Nat) (kk : Int) (F2 : Nat → Nat → Int) (G2 : Nat → Int → Int) (pd2 : Bool), (0 ≤ kk ∧ kk ≤ (L.length : Int)) → (q ≠ 235 → pd2 = false) → (tkL F3 G3 F2 G2) → (tkR q k F G S F2 G2 (hAll (hasC F G k) (F k 6) (F k 5) (-((-lwF F k) / F k 5)) (row - -((-lwF F k) / F k 5)).toNat ++ hEv (lX (F k 6) (row * F k 5)) (lY (F k 6) (row * F k 5)) ((L.reverse.map (fun p => (p.2, p.1))).take kk.toNat)) pd2) → ((L.length : Int) + 1 - kk) < (n_k : Int) → gW p l e R s m args below meth c (MQ below (gQv D A ad 265 (fun ce' => ∃ F' G', ce' = mem ad t F' G' ∧ (fun F' G' => ∃ p1 : Bool, (q ≠ 235 → p1 = false) ∧ tkR q k F G S F' G' (hatE (hasC F G k) (F k 6) (F k 5) (lwF F k) (hgF F k)) p1) F' G')) args s 0 0 A) D A 11 (gZ) 0 0 ad 265 (mem ad t F2 G2) 69 [(0, .ref (ad 230)), (1, .ref (ad k)), (2, .ref (ad q)), (3, .int (iI (-((-lwF F k) / F k 5)))), (4, .int (iI (hgF F k / F k 5))), (5, .int (iI row)), (6, .int (iI 0)), (7, .int (iI kk))] [] := by
            intro n_k
            induction n_k with
            | zero =>
              intro kk F2 G2 pd2 hk hp2 hl2 hR2 hm_k
              exact absurd hm_k (by omega)
            | succ n_k ih_k =>
              intro kk F2 G2 pd2 hk hp2 hl2 hR2 hm_k
              refine g_iload ok d_Rt_tellHatch_69 7 rfl ?_
              refine g_aload_n ok d_Rt_tellHatch_71 rfl 0 rfl ?_
              refine gI_Rt_line ok _ rfl k_240 d_Rt_tellHatch_72 ?_
              refine gN_Hl_partTotal ok _ rfl k_203 d_Rt_tellHatch_75 ?_
              refine g_top (y := (L.length : Int)) (by show F2 231 4 = _; rw [hl2.1, hPT]) ?_
              refine g_icmp_ge ok 225 d_Rt_tellHatch_78 (by decide) (by omega) (by omega) (fun h8 => ?_) (fun h8 => ?_)
              · refine g_iinc (lv' := [(5, .int (iI (row + 1))), (0, .ref (ad 230)), (1, .ref (ad k)), (2, .ref (ad q)), (3, .int (iI (-((-lwF F k) / F k 5)))), (4, .int (iI (hgF F k / F k 5))), (6, .int (iI 0)), (7, .int (iI kk))]) ok d_Rt_tellHatch_225 5 rfl (by decide) rfl ?_
                refine g_goto ok 30 d_Rt_tellHatch_228 (by decide) ?_
                refine g_lv [1, 2, 3, 4, 5, 0] rfl ?_
                exact ih_r (row + 1) F2 G2 pd2 (by omega) (hp2) (by rw [hAll_step hr.1, hRow_dn hRn hev]; rw [show kk.toNat = (L.reverse.map (fun p => (p.2, p.1))).length by rw [List.length_map, List.length_reverse]; omega, List.take_length] at hR2; exact hR2) (by omega)
              · obtain ⟨r, hget⟩ := get_ex (L := L) (i := (L.length : Int) - 1 - kk) (by omega) (by omega)
                have hgr := hpt _ r hget
                rw [show ((((L.length : Int) - 1 - kk).toNat : Nat) : Int) = (L.length : Int) - 1 - kk by omega] at hgr
                have hmm := (hRn.2 r.1 r.2).mp (List.mem_of_getElem? hget)
                have hm1 := hmm.1
                have hin2 : inR (lX (F k 6) (row * F k 5) r.1) (lY (F k 6) (row * F k 5) r.1) := (hmm.2.1 r.1 (by omega) (by omega)).1
                have hin1 : inR (lX (F k 6) (row * F k 5) r.2) (lY (F k 6) (row * F k 5) r.2) := (hmm.2.1 r.2 (by omega) (by omega)).1
                have hget2 := rv_get hk.1 (by omega) hget
                refine g_iload ok d_Rt_tellHatch_81 6 rfl ?_
                refine g_if_eq ok 91 d_Rt_tellHatch_83 (by decide) (by omega) (fun h9 => ?_) (fun h9 => ?_)
                · refine g_aload_n ok d_Rt_tellHatch_91 rfl 0 rfl ?_
                  refine gI_Rt_line ok _ rfl k_240 d_Rt_tellHatch_92 ?_
                  refine gN_Hl_partTotal ok _ rfl k_203 d_Rt_tellHatch_95 ?_
                  refine g_top (y := (L.length : Int)) (by show F2 231 4 = _; rw [hl2.1, hPT]) ?_
                  refine g_iconst ok d_Rt_tellHatch_98 ?_
                  refine g_isub ok d_Rt_tellHatch_99 ?_
                  refine g_iload ok d_Rt_tellHatch_100 7 rfl ?_
                  refine g_isub ok d_Rt_tellHatch_102 ?_
                  refine g_istore (lv' := [(8, .int (iI (((L.length : Int) - 1) - kk))), (0, .ref (ad 230)), (1, .ref (ad k)), (2, .ref (ad q)), (3, .int (iI (-((-lwF F k) / F k 5)))), (4, .int (iI (hgF F k / F k 5))), (5, .int (iI row)), (6, .int (iI 0)), (7, .int (iI kk))]) ok d_Rt_tellHatch_103 (by decide) rfl ?_
                  refine g_iload ok d_Rt_tellHatch_105 7 rfl ?_
                  refine g_if_eq ok 123 d_Rt_tellHatch_107 (by decide) (by omega) (fun h10 => ?_) (fun h10 => ?_)
                  · refine g_aload_n ok d_Rt_tellHatch_123 rfl 1 rfl ?_
                    refine gI_Rt_line ok _ rfl k_240 d_Rt_tellHatch_124 ?_
                    refine gN_Hl_ends ok _ rfl k_201 d_Rt_tellHatch_127 ?_
                    refine g_iload ok d_Rt_tellHatch_130 0 rfl ?_
                    refine h_iald ok _ a_234 (by omega) d_Rt_tellHatch_132 ?_
                    refine g_top (y := r.2) (by show G2 234 (((L.length : Int) - 1) - kk) = _; rw [hl2.2 234 (by decide) (by decide)]; exact hgr.2) ?_
                    refine g_istore (lv' := [(9, .int (iI r.2)), (8, .int (iI (((L.length : Int) - 1) - kk))), (0, .ref (ad 230)), (1, .ref (ad k)), (2, .ref (ad q)), (3, .int (iI (-((-lwF F k) / F k 5)))), (4, .int (iI (hgF F k / F k 5))), (5, .int (iI row)), (6, .int (iI 0)), (7, .int (iI kk))]) ok d_Rt_tellHatch_133 (by decide) rfl ?_
                    refine g_iload ok d_Rt_tellHatch_135 8 rfl ?_
                    refine g_if_eq ok 153 d_Rt_tellHatch_137 (by decide) (by omega) (fun h11 => ?_) (fun h11 => ?_)
                    · refine g_aload_n ok d_Rt_tellHatch_153 rfl 2 rfl ?_
                      refine gI_Rt_line ok _ rfl k_240 d_Rt_tellHatch_154 ?_
                      refine gN_Hl_starts ok _ rfl k_199 d_Rt_tellHatch_157 ?_
                      refine g_iload ok d_Rt_tellHatch_160 1 rfl ?_
                      refine h_iald ok _ a_233 (by omega) d_Rt_tellHatch_162 ?_
                      refine g_top (y := r.1) (by show G2 233 (((L.length : Int) - 1) - kk) = _; rw [hl2.2 233 (by decide) (by decide)]; exact hgr.1) ?_
                      refine g_istore (lv' := [(10, .int (iI r.1)), (9, .int (iI r.2)), (8, .int (iI (((L.length : Int) - 1) - kk))), (0, .ref (ad 230)), (1, .ref (ad k)), (2, .ref (ad q)), (3, .int (iI (-((-lwF F k) / F k 5)))), (4, .int (iI (hgF F k / F k 5))), (5, .int (iI row)), (6, .int (iI 0)), (7, .int (iI kk))]) ok d_Rt_tellHatch_163 (by decide) rfl ?_
                      refine g_aload_n ok d_Rt_tellHatch_165 rfl 5 rfl ?_
                      refine g_tkB (st := []) ok hA hR2 (hp2) (by decide) (Nat.le_of_ble_eq_true rfl) d_Rt_tellHatch_166 (fun F101 G101 hR101 hL101 => ?_)
                      refine g_aload_n ok d_Rt_tellHatch_171 rfl 5 rfl ?_
                      refine g_aload_n ok d_Rt_tellHatch_172 rfl 3 rfl ?_
                      refine gI_Rt_line ok _ rfl k_240 d_Rt_tellHatch_173 ?_
                      refine g_iload ok d_Rt_tellHatch_176 1 rfl ?_
                      refine g_callPVN (As := [.int (iI r.2)]) (st := [.ref (ad q)]) ok _ (c_Hl_xAt F101 G101 _ s0 a0 D t ad) k_470 k_7 k_467 cl_Hl (m_Hl (ad := ad) (t := t) (F := F101) (G := G101) rfl).1 (m_Hl rfl).2 k_469 s_Hl_xAt q_Hl_xAt (by decide) (Nat.le_of_ble_eq_true rfl) (by decide) d_Rt_tellHatch_178 (fun z12 hc12 => ?_)
                      subst hc12
                      refine g_top (y := lX (F k 6) (row * F k 5) r.2) (by rw [(tkL_tr hl2 hL101).1, (tkL_tr hl2 hL101).1]; exact hxy.1 _) ?_
                      refine g_aload_n ok d_Rt_tellHatch_181 rfl 3 rfl ?_
                      refine gI_Rt_line ok _ rfl k_240 d_Rt_tellHatch_182 ?_
                      refine g_iload ok d_Rt_tellHatch_185 1 rfl ?_
                      refine g_callPVN (As := [.int (iI r.2)]) (st := [.int (iI (lX (F k 6) (row * F k 5) r.2)), .ref (ad q)]) ok _ (c_Hl_yAt F101 G101 _ s0 a0 D t ad) k_474 k_7 k_471 cl_Hl (m_Hl (ad := ad) (t := t) (F := F101) (G := G101) rfl).1 (m_Hl rfl).2 k_473 s_Hl_yAt q_Hl_yAt (by decide) (Nat.le_of_ble_eq_true rfl) (by decide) d_Rt_tellHatch_187 (fun z13 hc13 => ?_)
                      subst hc13
                      refine g_top (y := lY (F k 6) (row * F k 5) r.2) (by rw [(tkL_tr hl2 hL101).1, (tkL_tr hl2 hL101).1]; exact hxy.2 _) ?_
                      refine g_tkT (x := lX (F k 6) (row * F k 5) r.2) (y := lY (F k 6) (row * F k 5) r.2) (st := []) ok hA hR101 (hin1) (by decide) (Nat.le_of_ble_eq_true rfl) d_Rt_tellHatch_190 (fun F102 G102 hR102 hL102 => ?_)
                      refine g_aload_n ok d_Rt_tellHatch_195 rfl 5 rfl ?_
                      refine g_aload_n ok d_Rt_tellHatch_196 rfl 3 rfl ?_
                      refine gI_Rt_line ok _ rfl k_240 d_Rt_tellHatch_197 ?_
                      refine g_iload ok d_Rt_tellHatch_200 0 rfl ?_
                      refine g_callPVN (As := [.int (iI r.1)]) (st := [.ref (ad q)]) ok _ (c_Hl_xAt F102 G102 _ s0 a0 D t ad) k_470 k_7 k_467 cl_Hl (m_Hl (ad := ad) (t := t) (F := F102) (G := G102) rfl).1 (m_Hl rfl).2 k_469 s_Hl_xAt q_Hl_xAt (by decide) (Nat.le_of_ble_eq_true rfl) (by decide) d_Rt_tellHatch_202 (fun z14 hc14 => ?_)
                      subst hc14
                      refine g_top (y := lX (F k 6) (row * F k 5) r.1) (by rw [(tkL_tr (tkL_tr hl2 hL101) hL102).1, (tkL_tr (tkL_tr hl2 hL101) hL102).1]; exact hxy.1 _) ?_
                      refine g_aload_n ok d_Rt_tellHatch_205 rfl 3 rfl ?_
                      refine gI_Rt_line ok _ rfl k_240 d_Rt_tellHatch_206 ?_
                      refine g_iload ok d_Rt_tellHatch_209 0 rfl ?_
                      refine g_callPVN (As := [.int (iI r.1)]) (st := [.int (iI (lX (F k 6) (row * F k 5) r.1)), .ref (ad q)]) ok _ (c_Hl_yAt F102 G102 _ s0 a0 D t ad) k_474 k_7 k_471 cl_Hl (m_Hl (ad := ad) (t := t) (F := F102) (G := G102) rfl).1 (m_Hl rfl).2 k_473 s_Hl_yAt q_Hl_yAt (by decide) (Nat.le_of_ble_eq_true rfl) (by decide) d_Rt_tellHatch_211 (fun z15 hc15 => ?_)
                      subst hc15
                      refine g_top (y := lY (F k 6) (row * F k 5) r.1) (by rw [(tkL_tr (tkL_tr hl2 hL101) hL102).1, (tkL_tr (tkL_tr hl2 hL101) hL102).1]; exact hxy.2 _) ?_
                      refine g_tkT (x := lX (F k 6) (row * F k 5) r.1) (y := lY (F k 6) (row * F k 5) r.1) (st := []) ok hA hR102 (hin2) (by decide) (Nat.le_of_ble_eq_true rfl) d_Rt_tellHatch_214 (fun F103 G103 hR103 hL103 => ?_)
                      refine g_iinc (lv' := [(7, .int (iI (kk + 1))), (10, .int (iI r.1)), (9, .int (iI r.2)), (8, .int (iI (((L.length : Int) - 1) - kk))), (0, .ref (ad 230)), (1, .ref (ad k)), (2, .ref (ad q)), (3, .int (iI (-((-lwF F k) / F k 5)))), (4, .int (iI (hgF F k / F k 5))), (5, .int (iI row)), (6, .int (iI 0))]) ok d_Rt_tellHatch_219 10 rfl (by decide) rfl ?_
                      refine g_goto ok 69 d_Rt_tellHatch_222 (by decide) ?_
                      refine g_lv [4, 5, 6, 7, 8, 9, 10, 0] rfl ?_
                      exact ih_k (kk + 1) F103 G103 false (by omega) (fun _ => rfl) ((tkL_tr (tkL_tr (tkL_tr hl2 hL101) hL102) hL103)) (by rw [take_s hk.1 hget2, hEv_snoc, ← List.append_assoc, ← List.append_assoc]; exact hR103) (by omega)
                    · exact absurd h11 (by decide)
                  · exact absurd h10 (by decide)
                · exact absurd h9 (by decide)
          refine g_z ?_
          refine g_lv [2, 3, 4, 5, 6, 7, 1, 0] rfl ?_
          exact L_k (((L.length : Int) + 1 - 0 : Int).toNat + 1) 0 F3 G3 pd1 (by omega) (hp1) (hl3) (by show tkR q k F G S _ _ (_ ++ []) _; rw [List.append_nil]; exact hR3) (by omega)
        · have hev : row % 2 = 0 := by omega
          refine g_iconst ok d_Rt_tellHatch_59 ?_
          refine g_goto ok 64 d_Rt_tellHatch_60 (by decide) ?_
          refine g_istore (lv' := [(6, .int (iI 1)), (0, .ref (ad 230)), (1, .ref (ad k)), (2, .ref (ad q)), (3, .int (iI (-((-lwF F k) / F k 5)))), (4, .int (iI (hgF F k / F k 5))), (5, .int (iI row))]) ok d_Rt_tellHatch_64 (by decide) rfl ?_
          refine g_iconst ok d_Rt_tellHatch_66 ?_
          refine g_istore (lv' := [(7, .int (iI 0)), (6, .int (iI 1)), (0, .ref (ad 230)), (1, .ref (ad k)), (2, .ref (ad q)), (3, .int (iI (-((-lwF F k) / F k 5)))), (4, .int (iI (hgF F k / F k 5))), (5, .int (iI row))]) ok d_Rt_tellHatch_67 (by decide) rfl ?_
          have L_k : ∀ (n_k : Nat) (kk : Int) (F2 : Nat → Nat → Int) (G2 : Nat → Int → Int) (pd2 : Bool), (0 ≤ kk ∧ kk ≤ (L.length : Int)) → (q ≠ 235 → pd2 = false) → (tkL F3 G3 F2 G2) → (tkR q k F G S F2 G2 (hAll (hasC F G k) (F k 6) (F k 5) (-((-lwF F k) / F k 5)) (row - -((-lwF F k) / F k 5)).toNat ++ hEv (lX (F k 6) (row * F k 5)) (lY (F k 6) (row * F k 5)) (L.take kk.toNat)) pd2) → ((L.length : Int) + 1 - kk) < (n_k : Int) → gW p l e R s m args below meth c (MQ below (gQv D A ad 265 (fun ce' => ∃ F' G', ce' = mem ad t F' G' ∧ (fun F' G' => ∃ p1 : Bool, (q ≠ 235 → p1 = false) ∧ tkR q k F G S F' G' (hatE (hasC F G k) (F k 6) (F k 5) (lwF F k) (hgF F k)) p1) F' G')) args s 0 0 A) D A 11 (gZ) 0 0 ad 265 (mem ad t F2 G2) 69 [(0, .ref (ad 230)), (1, .ref (ad k)), (2, .ref (ad q)), (3, .int (iI (-((-lwF F k) / F k 5)))), (4, .int (iI (hgF F k / F k 5))), (5, .int (iI row)), (6, .int (iI 1)), (7, .int (iI kk))] [] := by
            intro n_k
            induction n_k with
            | zero =>
              intro kk F2 G2 pd2 hk hp2 hl2 hR2 hm_k
              exact absurd hm_k (by omega)
            | succ n_k ih_k =>
              intro kk F2 G2 pd2 hk hp2 hl2 hR2 hm_k
              refine g_iload ok d_Rt_tellHatch_69 7 rfl ?_
              refine g_aload_n ok d_Rt_tellHatch_71 rfl 0 rfl ?_
              refine gI_Rt_line ok _ rfl k_240 d_Rt_tellHatch_72 ?_
              refine gN_Hl_partTotal ok _ rfl k_203 d_Rt_tellHatch_75 ?_
              refine g_top (y := (L.length : Int)) (by show F2 231 4 = _; rw [hl2.1, hPT]) ?_
              refine g_icmp_ge ok 225 d_Rt_tellHatch_78 (by decide) (by omega) (by omega) (fun h16 => ?_) (fun h16 => ?_)
              · refine g_iinc (lv' := [(5, .int (iI (row + 1))), (0, .ref (ad 230)), (1, .ref (ad k)), (2, .ref (ad q)), (3, .int (iI (-((-lwF F k) / F k 5)))), (4, .int (iI (hgF F k / F k 5))), (6, .int (iI 1)), (7, .int (iI kk))]) ok d_Rt_tellHatch_225 5 rfl (by decide) rfl ?_
                refine g_goto ok 30 d_Rt_tellHatch_228 (by decide) ?_
                refine g_lv [1, 2, 3, 4, 5, 0] rfl ?_
                exact ih_r (row + 1) F2 G2 pd2 (by omega) (hp2) (by rw [hAll_step hr.1, hRow_up hRn hev]; rw [show kk.toNat = L.length by omega, List.take_length] at hR2; exact hR2) (by omega)
              · obtain ⟨r, hget⟩ := get_ex (L := L) hk.1 (by omega)
                have hgr := hpt _ r hget
                rw [show ((kk.toNat : Nat) : Int) = kk by omega] at hgr
                have hmm := (hRn.2 r.1 r.2).mp (List.mem_of_getElem? hget)
                have hm1 := hmm.1
                have hin1 : inR (lX (F k 6) (row * F k 5) r.1) (lY (F k 6) (row * F k 5) r.1) := (hmm.2.1 r.1 (by omega) (by omega)).1
                have hin2 : inR (lX (F k 6) (row * F k 5) r.2) (lY (F k 6) (row * F k 5) r.2) := (hmm.2.1 r.2 (by omega) (by omega)).1
                refine g_iload ok d_Rt_tellHatch_81 6 rfl ?_
                refine g_if_eq ok 91 d_Rt_tellHatch_83 (by decide) (by omega) (fun h17 => ?_) (fun h17 => ?_)
                · exact absurd h17 (by decide)
                · refine g_iload ok d_Rt_tellHatch_86 7 rfl ?_
                  refine g_goto ok 103 d_Rt_tellHatch_88 (by decide) ?_
                  refine g_istore (lv' := [(8, .int (iI kk)), (0, .ref (ad 230)), (1, .ref (ad k)), (2, .ref (ad q)), (3, .int (iI (-((-lwF F k) / F k 5)))), (4, .int (iI (hgF F k / F k 5))), (5, .int (iI row)), (6, .int (iI 1)), (7, .int (iI kk))]) ok d_Rt_tellHatch_103 (by decide) rfl ?_
                  refine g_iload ok d_Rt_tellHatch_105 7 rfl ?_
                  refine g_if_eq ok 123 d_Rt_tellHatch_107 (by decide) (by omega) (fun h18 => ?_) (fun h18 => ?_)
                  · exact absurd h18 (by decide)
                  · refine g_aload_n ok d_Rt_tellHatch_110 rfl 1 rfl ?_
                    refine gI_Rt_line ok _ rfl k_240 d_Rt_tellHatch_111 ?_
                    refine gN_Hl_starts ok _ rfl k_199 d_Rt_tellHatch_114 ?_
                    refine g_iload ok d_Rt_tellHatch_117 0 rfl ?_
                    refine h_iald ok _ a_233 (by omega) d_Rt_tellHatch_119 ?_
                    refine g_top (y := r.1) (by show G2 233 kk = _; rw [hl2.2 233 (by decide) (by decide)]; exact hgr.1) ?_
                    refine g_goto ok 133 d_Rt_tellHatch_120 (by decide) ?_
                    refine g_istore (lv' := [(9, .int (iI r.1)), (8, .int (iI kk)), (0, .ref (ad 230)), (1, .ref (ad k)), (2, .ref (ad q)), (3, .int (iI (-((-lwF F k) / F k 5)))), (4, .int (iI (hgF F k / F k 5))), (5, .int (iI row)), (6, .int (iI 1)), (7, .int (iI kk))]) ok d_Rt_tellHatch_133 (by decide) rfl ?_
                    refine g_iload ok d_Rt_tellHatch_135 8 rfl ?_
                    refine g_if_eq ok 153 d_Rt_tellHatch_137 (by decide) (by omega) (fun h19 => ?_) (fun h19 => ?_)
                    · exact absurd h19 (by decide)
                    · refine g_aload_n ok d_Rt_tellHatch_140 rfl 2 rfl ?_
                      refine gI_Rt_line ok _ rfl k_240 d_Rt_tellHatch_141 ?_
                      refine gN_Hl_ends ok _ rfl k_201 d_Rt_tellHatch_144 ?_
                      refine g_iload ok d_Rt_tellHatch_147 1 rfl ?_
                      refine h_iald ok _ a_234 (by omega) d_Rt_tellHatch_149 ?_
                      refine g_top (y := r.2) (by show G2 234 kk = _; rw [hl2.2 234 (by decide) (by decide)]; exact hgr.2) ?_
                      refine g_goto ok 163 d_Rt_tellHatch_150 (by decide) ?_
                      refine g_istore (lv' := [(10, .int (iI r.2)), (9, .int (iI r.1)), (8, .int (iI kk)), (0, .ref (ad 230)), (1, .ref (ad k)), (2, .ref (ad q)), (3, .int (iI (-((-lwF F k) / F k 5)))), (4, .int (iI (hgF F k / F k 5))), (5, .int (iI row)), (6, .int (iI 1)), (7, .int (iI kk))]) ok d_Rt_tellHatch_163 (by decide) rfl ?_
                      refine g_aload_n ok d_Rt_tellHatch_165 rfl 5 rfl ?_
                      refine g_tkB (st := []) ok hA hR2 (hp2) (by decide) (Nat.le_of_ble_eq_true rfl) d_Rt_tellHatch_166 (fun F104 G104 hR104 hL104 => ?_)
                      refine g_aload_n ok d_Rt_tellHatch_171 rfl 5 rfl ?_
                      refine g_aload_n ok d_Rt_tellHatch_172 rfl 3 rfl ?_
                      refine gI_Rt_line ok _ rfl k_240 d_Rt_tellHatch_173 ?_
                      refine g_iload ok d_Rt_tellHatch_176 1 rfl ?_
                      refine g_callPVN (As := [.int (iI r.1)]) (st := [.ref (ad q)]) ok _ (c_Hl_xAt F104 G104 _ s0 a0 D t ad) k_470 k_7 k_467 cl_Hl (m_Hl (ad := ad) (t := t) (F := F104) (G := G104) rfl).1 (m_Hl rfl).2 k_469 s_Hl_xAt q_Hl_xAt (by decide) (Nat.le_of_ble_eq_true rfl) (by decide) d_Rt_tellHatch_178 (fun z20 hc20 => ?_)
                      subst hc20
                      refine g_top (y := lX (F k 6) (row * F k 5) r.1) (by rw [(tkL_tr hl2 hL104).1, (tkL_tr hl2 hL104).1]; exact hxy.1 _) ?_
                      refine g_aload_n ok d_Rt_tellHatch_181 rfl 3 rfl ?_
                      refine gI_Rt_line ok _ rfl k_240 d_Rt_tellHatch_182 ?_
                      refine g_iload ok d_Rt_tellHatch_185 1 rfl ?_
                      refine g_callPVN (As := [.int (iI r.1)]) (st := [.int (iI (lX (F k 6) (row * F k 5) r.1)), .ref (ad q)]) ok _ (c_Hl_yAt F104 G104 _ s0 a0 D t ad) k_474 k_7 k_471 cl_Hl (m_Hl (ad := ad) (t := t) (F := F104) (G := G104) rfl).1 (m_Hl rfl).2 k_473 s_Hl_yAt q_Hl_yAt (by decide) (Nat.le_of_ble_eq_true rfl) (by decide) d_Rt_tellHatch_187 (fun z21 hc21 => ?_)
                      subst hc21
                      refine g_top (y := lY (F k 6) (row * F k 5) r.1) (by rw [(tkL_tr hl2 hL104).1, (tkL_tr hl2 hL104).1]; exact hxy.2 _) ?_
                      refine g_tkT (x := lX (F k 6) (row * F k 5) r.1) (y := lY (F k 6) (row * F k 5) r.1) (st := []) ok hA hR104 (hin1) (by decide) (Nat.le_of_ble_eq_true rfl) d_Rt_tellHatch_190 (fun F105 G105 hR105 hL105 => ?_)
                      refine g_aload_n ok d_Rt_tellHatch_195 rfl 5 rfl ?_
                      refine g_aload_n ok d_Rt_tellHatch_196 rfl 3 rfl ?_
                      refine gI_Rt_line ok _ rfl k_240 d_Rt_tellHatch_197 ?_
                      refine g_iload ok d_Rt_tellHatch_200 0 rfl ?_
                      refine g_callPVN (As := [.int (iI r.2)]) (st := [.ref (ad q)]) ok _ (c_Hl_xAt F105 G105 _ s0 a0 D t ad) k_470 k_7 k_467 cl_Hl (m_Hl (ad := ad) (t := t) (F := F105) (G := G105) rfl).1 (m_Hl rfl).2 k_469 s_Hl_xAt q_Hl_xAt (by decide) (Nat.le_of_ble_eq_true rfl) (by decide) d_Rt_tellHatch_202 (fun z22 hc22 => ?_)
                      subst hc22
                      refine g_top (y := lX (F k 6) (row * F k 5) r.2) (by rw [(tkL_tr (tkL_tr hl2 hL104) hL105).1, (tkL_tr (tkL_tr hl2 hL104) hL105).1]; exact hxy.1 _) ?_
                      refine g_aload_n ok d_Rt_tellHatch_205 rfl 3 rfl ?_
                      refine gI_Rt_line ok _ rfl k_240 d_Rt_tellHatch_206 ?_
                      refine g_iload ok d_Rt_tellHatch_209 0 rfl ?_
                      refine g_callPVN (As := [.int (iI r.2)]) (st := [.int (iI (lX (F k 6) (row * F k 5) r.2)), .ref (ad q)]) ok _ (c_Hl_yAt F105 G105 _ s0 a0 D t ad) k_474 k_7 k_471 cl_Hl (m_Hl (ad := ad) (t := t) (F := F105) (G := G105) rfl).1 (m_Hl rfl).2 k_473 s_Hl_yAt q_Hl_yAt (by decide) (Nat.le_of_ble_eq_true rfl) (by decide) d_Rt_tellHatch_211 (fun z23 hc23 => ?_)
                      subst hc23
                      refine g_top (y := lY (F k 6) (row * F k 5) r.2) (by rw [(tkL_tr (tkL_tr hl2 hL104) hL105).1, (tkL_tr (tkL_tr hl2 hL104) hL105).1]; exact hxy.2 _) ?_
                      refine g_tkT (x := lX (F k 6) (row * F k 5) r.2) (y := lY (F k 6) (row * F k 5) r.2) (st := []) ok hA hR105 (hin2) (by decide) (Nat.le_of_ble_eq_true rfl) d_Rt_tellHatch_214 (fun F106 G106 hR106 hL106 => ?_)
                      refine g_iinc (lv' := [(7, .int (iI (kk + 1))), (10, .int (iI r.2)), (9, .int (iI r.1)), (8, .int (iI kk)), (0, .ref (ad 230)), (1, .ref (ad k)), (2, .ref (ad q)), (3, .int (iI (-((-lwF F k) / F k 5)))), (4, .int (iI (hgF F k / F k 5))), (5, .int (iI row)), (6, .int (iI 1))]) ok d_Rt_tellHatch_219 10 rfl (by decide) rfl ?_
                      refine g_goto ok 69 d_Rt_tellHatch_222 (by decide) ?_
                      refine g_lv [4, 5, 6, 7, 8, 9, 10, 0] rfl ?_
                      exact ih_k (kk + 1) F106 G106 false (by omega) (fun _ => rfl) ((tkL_tr (tkL_tr (tkL_tr hl2 hL104) hL105) hL106)) (by rw [take_s hk.1 hget, hEv_snoc, ← List.append_assoc, ← List.append_assoc]; exact hR106) (by omega)
          refine g_z ?_
          refine g_lv [2, 3, 4, 5, 6, 7, 1, 0] rfl ?_
          exact L_k (((L.length : Int) + 1 - 0 : Int).toNat + 1) 0 F3 G3 pd1 (by omega) (hp1) (hl3) (by show tkR q k F G S _ _ (_ ++ []) _; rw [List.append_nil]; exact hR3) (by omega)
  refine g_z ?_
  refine g_lv [3, 4, 5, 2, 1, 0] rfl ?_
  exact L_r ((hgF F k / F k 5 + 2 + 4000 - (-((-(lwF F k)) / (F k 5))) : Int).toNat + 1) (-((-(lwF F k)) / (F k 5))) F G p0 (by omega) (hp0) (by show tkR q k F G S F G (hAll _ _ _ _ (-((-lwF F k) / F k 5) - -((-lwF F k) / F k 5)).toNat) p0; rw [Int.sub_self]; exact h0) (by omega)
