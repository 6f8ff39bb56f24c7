/-- the turn of (x, y) at the edge from (x1, y1) to (x2, y2); on it; it passes to the right -/
def eTurn (x1 y1 x2 y2 x y : Int) : Int := (x2 - x1) * (y - y1) - (x - x1) * (y2 - y1)
def eOn (x1 y1 x2 y2 x y : Int) : Prop := eTurn x1 y1 x2 y2 x y = 0 ∧ (x - x1) * (x - x2) ≤ 0 ∧ (y - y1) * (y - y2) ≤ 0
def eCr (x1 y1 x2 y2 x y : Int) : Prop := ((y < y1 ∧ ¬ y < y2) ∨ (¬ y < y1 ∧ y < y2)) ∧ ((y1 < y2 ∧ 0 < eTurn x1 y1 x2 y2 x y) ∨ (¬ y1 < y2 ∧ eTurn x1 y1 x2 y2 x y < 0))
/-- an odd number of the first n have P -/
def oddN (P : Int → Prop) : Nat → Prop
  | 0 => False
  | n + 1 => (oddN P n ∧ ¬ P (n : Int)) ∨ (¬ oddN P n ∧ P (n : Int))
theorem oddN_step {P : Int → Prop} {i : Int} (h : 0 ≤ i) : oddN P (i + 1).toNat ↔ ((oddN P i.toNat ∧ ¬ P i) ∨ (¬ oddN P i.toNat ∧ P i)) := by
  have e : (i + 1).toNat = i.toNat + 1 := by omega
  have e2 : ((i.toNat : Nat) : Int) = i := Int.toNat_of_nonneg h
  rw [e]
  show ((oddN P i.toNat ∧ ¬ P ((i.toNat : Nat) : Int)) ∨ (¬ oddN P i.toNat ∧ P ((i.toNat : Nat) : Int))) ↔ _
  rw [e2]
theorem odd_no {O C : Prop} {d : Int} (h : (d = 0 ∨ d = 1) ∧ (d = 1 ↔ O)) (hC : ¬ C) : (d = 0 ∨ d = 1) ∧ (d = 1 ↔ ((O ∧ ¬ C) ∨ (¬ O ∧ C))) :=
  ⟨h.1, fun q => Or.inl ⟨h.2.mp q, hC⟩, fun q => q.elim (fun q => h.2.mpr q.1) (fun q => absurd q.2 hC)⟩
theorem odd_y1 {O C : Prop} {d : Int} (h : (d = 0 ∨ d = 1) ∧ (d = 1 ↔ O)) (hC : C) (hd : d = 0) : ((1 : Int) = 0 ∨ (1 : Int) = 1) ∧ ((1 : Int) = 1 ↔ ((O ∧ ¬ C) ∨ (¬ O ∧ C))) :=
  ⟨Or.inr rfl, fun _ => Or.inr ⟨fun q => absurd (h.2.mpr q) (by omega), hC⟩, fun _ => rfl⟩
theorem odd_y0 {O C : Prop} {d : Int} (h : (d = 0 ∨ d = 1) ∧ (d = 1 ↔ O)) (hC : C) (hd : ¬ d = 0) : ((0 : Int) = 0 ∨ (0 : Int) = 1) ∧ ((0 : Int) = 1 ↔ ((O ∧ ¬ C) ∨ (¬ O ∧ C))) :=
  ⟨Or.inl rfl, fun q => absurd q (by decide), fun q => q.elim (fun q => absurd hC q.2) (fun q => absurd (h.2.mp (by omega)) q.1)⟩
def rJ (sz i : Int) : Int := if i + 1 < sz then i + 1 else 0
def rOn (xs ys : Int → Int) (sz x y i : Int) : Prop := eOn (xs i) (ys i) (xs (rJ sz i)) (ys (rJ sz i)) x y
def rCr (xs ys : Int → Int) (sz x y i : Int) : Prop := eCr (xs i) (ys i) (xs (rJ sz i)) (ys (rJ sz i)) x y
/-- where a place lies to a ring: 2 on an edge, 1 inside, 0 away -/
def rSide (xs ys : Int → Int) (sz x y r : Int) : Prop := (r = 2 ∧ ∃ i : Int, 0 ≤ i ∧ i < sz ∧ rOn xs ys sz x y i) ∨ ((∀ i : Int, 0 ≤ i → i < sz → ¬ rOn xs ys sz x y i) ∧ ((r = 1 ∧ oddN (rCr xs ys sz x y) sz.toNat) ∨ (r = 0 ∧ ¬ oddN (rCr xs ys sz x y) sz.toNat)))
theorem d_Rg_sideOf_0 : decode b_Rg_sideOf 0 = .ok (.iconst 0, 1) := by decide +kernel
theorem d_Rg_sideOf_1 : decode b_Rg_sideOf 1 = .ok (.istore_n 3, 1) := by decide +kernel
theorem d_Rg_sideOf_2 : decode b_Rg_sideOf 2 = .ok (.iconst 0, 1) := by decide +kernel
theorem d_Rg_sideOf_3 : decode b_Rg_sideOf 3 = .ok (.istore 4, 2) := by decide +kernel
theorem d_Rg_sideOf_5 : decode b_Rg_sideOf 5 = .ok (.iload 4, 2) := by decide +kernel
theorem d_Rg_sideOf_7 : decode b_Rg_sideOf 7 = .ok (.aload_n 0, 1) := by decide +kernel
theorem d_Rg_sideOf_8 : decode b_Rg_sideOf 8 = .ok (.getfield 16, 3) := by decide +kernel
theorem d_Rg_sideOf_11 : decode b_Rg_sideOf 11 = .ok (.if_icmp .ge 192, 3) := by decide +kernel
theorem d_Rg_sideOf_14 : decode b_Rg_sideOf 14 = .ok (.iload 4, 2) := by decide +kernel
theorem d_Rg_sideOf_16 : decode b_Rg_sideOf 16 = .ok (.iconst 1, 1) := by decide +kernel
theorem d_Rg_sideOf_17 : decode b_Rg_sideOf 17 = .ok (.iadd, 1) := by decide +kernel
theorem d_Rg_sideOf_18 : decode b_Rg_sideOf 18 = .ok (.aload_n 0, 1) := by decide +kernel
theorem d_Rg_sideOf_19 : decode b_Rg_sideOf 19 = .ok (.getfield 16, 3) := by decide +kernel
theorem d_Rg_sideOf_22 : decode b_Rg_sideOf 22 = .ok (.if_icmp .ge 10, 3) := by decide +kernel
theorem d_Rg_sideOf_25 : decode b_Rg_sideOf 25 = .ok (.iload 4, 2) := by decide +kernel
theorem d_Rg_sideOf_27 : decode b_Rg_sideOf 27 = .ok (.iconst 1, 1) := by decide +kernel
theorem d_Rg_sideOf_28 : decode b_Rg_sideOf 28 = .ok (.iadd, 1) := by decide +kernel
theorem d_Rg_sideOf_29 : decode b_Rg_sideOf 29 = .ok (.goto 4, 3) := by decide +kernel
theorem d_Rg_sideOf_32 : decode b_Rg_sideOf 32 = .ok (.iconst 0, 1) := by decide +kernel
theorem d_Rg_sideOf_33 : decode b_Rg_sideOf 33 = .ok (.istore 5, 2) := by decide +kernel
theorem d_Rg_sideOf_35 : decode b_Rg_sideOf 35 = .ok (.aload_n 0, 1) := by decide +kernel
theorem d_Rg_sideOf_36 : decode b_Rg_sideOf 36 = .ok (.getfield 7, 3) := by decide +kernel
theorem d_Rg_sideOf_39 : decode b_Rg_sideOf 39 = .ok (.iload 4, 2) := by decide +kernel
theorem d_Rg_sideOf_41 : decode b_Rg_sideOf 41 = .ok (.iaload, 1) := by decide +kernel
theorem d_Rg_sideOf_42 : decode b_Rg_sideOf 42 = .ok (.istore 6, 2) := by decide +kernel
theorem d_Rg_sideOf_44 : decode b_Rg_sideOf 44 = .ok (.aload_n 0, 1) := by decide +kernel
theorem d_Rg_sideOf_45 : decode b_Rg_sideOf 45 = .ok (.getfield 13, 3) := by decide +kernel
theorem d_Rg_sideOf_48 : decode b_Rg_sideOf 48 = .ok (.iload 4, 2) := by decide +kernel
theorem d_Rg_sideOf_50 : decode b_Rg_sideOf 50 = .ok (.iaload, 1) := by decide +kernel
theorem d_Rg_sideOf_51 : decode b_Rg_sideOf 51 = .ok (.istore 7, 2) := by decide +kernel
theorem d_Rg_sideOf_53 : decode b_Rg_sideOf 53 = .ok (.aload_n 0, 1) := by decide +kernel
theorem d_Rg_sideOf_54 : decode b_Rg_sideOf 54 = .ok (.getfield 7, 3) := by decide +kernel
theorem d_Rg_sideOf_57 : decode b_Rg_sideOf 57 = .ok (.iload 5, 2) := by decide +kernel
theorem d_Rg_sideOf_59 : decode b_Rg_sideOf 59 = .ok (.iaload, 1) := by decide +kernel
theorem d_Rg_sideOf_60 : decode b_Rg_sideOf 60 = .ok (.istore 8, 2) := by decide +kernel
theorem d_Rg_sideOf_62 : decode b_Rg_sideOf 62 = .ok (.aload_n 0, 1) := by decide +kernel
theorem d_Rg_sideOf_63 : decode b_Rg_sideOf 63 = .ok (.getfield 13, 3) := by decide +kernel
theorem d_Rg_sideOf_66 : decode b_Rg_sideOf 66 = .ok (.iload 5, 2) := by decide +kernel
theorem d_Rg_sideOf_68 : decode b_Rg_sideOf 68 = .ok (.iaload, 1) := by decide +kernel
theorem d_Rg_sideOf_69 : decode b_Rg_sideOf 69 = .ok (.istore 9, 2) := by decide +kernel
theorem d_Rg_sideOf_71 : decode b_Rg_sideOf 71 = .ok (.iload 8, 2) := by decide +kernel
theorem d_Rg_sideOf_73 : decode b_Rg_sideOf 73 = .ok (.iload 6, 2) := by decide +kernel
theorem d_Rg_sideOf_75 : decode b_Rg_sideOf 75 = .ok (.isub, 1) := by decide +kernel
theorem d_Rg_sideOf_76 : decode b_Rg_sideOf 76 = .ok (.iload_n 2, 1) := by decide +kernel
theorem d_Rg_sideOf_77 : decode b_Rg_sideOf 77 = .ok (.iload 7, 2) := by decide +kernel
theorem d_Rg_sideOf_79 : decode b_Rg_sideOf 79 = .ok (.isub, 1) := by decide +kernel
theorem d_Rg_sideOf_80 : decode b_Rg_sideOf 80 = .ok (.imul, 1) := by decide +kernel
theorem d_Rg_sideOf_81 : decode b_Rg_sideOf 81 = .ok (.iload_n 1, 1) := by decide +kernel
theorem d_Rg_sideOf_82 : decode b_Rg_sideOf 82 = .ok (.iload 6, 2) := by decide +kernel
theorem d_Rg_sideOf_84 : decode b_Rg_sideOf 84 = .ok (.isub, 1) := by decide +kernel
theorem d_Rg_sideOf_85 : decode b_Rg_sideOf 85 = .ok (.iload 9, 2) := by decide +kernel
theorem d_Rg_sideOf_87 : decode b_Rg_sideOf 87 = .ok (.iload 7, 2) := by decide +kernel
theorem d_Rg_sideOf_89 : decode b_Rg_sideOf 89 = .ok (.isub, 1) := by decide +kernel
theorem d_Rg_sideOf_90 : decode b_Rg_sideOf 90 = .ok (.imul, 1) := by decide +kernel
theorem d_Rg_sideOf_91 : decode b_Rg_sideOf 91 = .ok (.isub, 1) := by decide +kernel
theorem d_Rg_sideOf_92 : decode b_Rg_sideOf 92 = .ok (.istore 10, 2) := by decide +kernel
theorem d_Rg_sideOf_94 : decode b_Rg_sideOf 94 = .ok (.iload 10, 2) := by decide +kernel
theorem d_Rg_sideOf_96 : decode b_Rg_sideOf 96 = .ok (.ifCond .ne 29, 3) := by decide +kernel
theorem d_Rg_sideOf_99 : decode b_Rg_sideOf 99 = .ok (.iload_n 1, 1) := by decide +kernel
theorem d_Rg_sideOf_100 : decode b_Rg_sideOf 100 = .ok (.iload 6, 2) := by decide +kernel
theorem d_Rg_sideOf_102 : decode b_Rg_sideOf 102 = .ok (.isub, 1) := by decide +kernel
theorem d_Rg_sideOf_103 : decode b_Rg_sideOf 103 = .ok (.iload_n 1, 1) := by decide +kernel
theorem d_Rg_sideOf_104 : decode b_Rg_sideOf 104 = .ok (.iload 8, 2) := by decide +kernel
theorem d_Rg_sideOf_106 : decode b_Rg_sideOf 106 = .ok (.isub, 1) := by decide +kernel
theorem d_Rg_sideOf_107 : decode b_Rg_sideOf 107 = .ok (.imul, 1) := by decide +kernel
theorem d_Rg_sideOf_108 : decode b_Rg_sideOf 108 = .ok (.ifCond .gt 17, 3) := by decide +kernel
theorem d_Rg_sideOf_111 : decode b_Rg_sideOf 111 = .ok (.iload_n 2, 1) := by decide +kernel
theorem d_Rg_sideOf_112 : decode b_Rg_sideOf 112 = .ok (.iload 7, 2) := by decide +kernel
theorem d_Rg_sideOf_114 : decode b_Rg_sideOf 114 = .ok (.isub, 1) := by decide +kernel
theorem d_Rg_sideOf_115 : decode b_Rg_sideOf 115 = .ok (.iload_n 2, 1) := by decide +kernel
theorem d_Rg_sideOf_116 : decode b_Rg_sideOf 116 = .ok (.iload 9, 2) := by decide +kernel
theorem d_Rg_sideOf_118 : decode b_Rg_sideOf 118 = .ok (.isub, 1) := by decide +kernel
theorem d_Rg_sideOf_119 : decode b_Rg_sideOf 119 = .ok (.imul, 1) := by decide +kernel
theorem d_Rg_sideOf_120 : decode b_Rg_sideOf 120 = .ok (.ifCond .gt 5, 3) := by decide +kernel
theorem d_Rg_sideOf_123 : decode b_Rg_sideOf 123 = .ok (.iconst 2, 1) := by decide +kernel
theorem d_Rg_sideOf_124 : decode b_Rg_sideOf 124 = .ok (.ireturn, 1) := by decide +kernel
theorem d_Rg_sideOf_125 : decode b_Rg_sideOf 125 = .ok (.iload 9, 2) := by decide +kernel
theorem d_Rg_sideOf_127 : decode b_Rg_sideOf 127 = .ok (.iload 7, 2) := by decide +kernel
theorem d_Rg_sideOf_129 : decode b_Rg_sideOf 129 = .ok (.if_icmp .le 16, 3) := by decide +kernel
theorem d_Rg_sideOf_132 : decode b_Rg_sideOf 132 = .ok (.iload 10, 2) := by decide +kernel
theorem d_Rg_sideOf_134 : decode b_Rg_sideOf 134 = .ok (.ifCond .le 7, 3) := by decide +kernel
theorem d_Rg_sideOf_137 : decode b_Rg_sideOf 137 = .ok (.iconst 1, 1) := by decide +kernel
theorem d_Rg_sideOf_138 : decode b_Rg_sideOf 138 = .ok (.goto 17, 3) := by decide +kernel
theorem d_Rg_sideOf_141 : decode b_Rg_sideOf 141 = .ok (.iconst 0, 1) := by decide +kernel
theorem d_Rg_sideOf_142 : decode b_Rg_sideOf 142 = .ok (.goto 13, 3) := by decide +kernel
theorem d_Rg_sideOf_145 : decode b_Rg_sideOf 145 = .ok (.iload 10, 2) := by decide +kernel
theorem d_Rg_sideOf_147 : decode b_Rg_sideOf 147 = .ok (.ifCond .ge 7, 3) := by decide +kernel
theorem d_Rg_sideOf_150 : decode b_Rg_sideOf 150 = .ok (.iconst 1, 1) := by decide +kernel
theorem d_Rg_sideOf_151 : decode b_Rg_sideOf 151 = .ok (.goto 4, 3) := by decide +kernel
theorem d_Rg_sideOf_154 : decode b_Rg_sideOf 154 = .ok (.iconst 0, 1) := by decide +kernel
theorem d_Rg_sideOf_155 : decode b_Rg_sideOf 155 = .ok (.istore 11, 2) := by decide +kernel
theorem d_Rg_sideOf_157 : decode b_Rg_sideOf 157 = .ok (.iload 7, 2) := by decide +kernel
theorem d_Rg_sideOf_159 : decode b_Rg_sideOf 159 = .ok (.iload_n 2, 1) := by decide +kernel
theorem d_Rg_sideOf_160 : decode b_Rg_sideOf 160 = .ok (.if_icmp .le 7, 3) := by decide +kernel
theorem d_Rg_sideOf_163 : decode b_Rg_sideOf 163 = .ok (.iconst 1, 1) := by decide +kernel
theorem d_Rg_sideOf_164 : decode b_Rg_sideOf 164 = .ok (.goto 4, 3) := by decide +kernel
theorem d_Rg_sideOf_167 : decode b_Rg_sideOf 167 = .ok (.iconst 0, 1) := by decide +kernel
theorem d_Rg_sideOf_168 : decode b_Rg_sideOf 168 = .ok (.iload 9, 2) := by decide +kernel
theorem d_Rg_sideOf_170 : decode b_Rg_sideOf 170 = .ok (.iload_n 2, 1) := by decide +kernel
theorem d_Rg_sideOf_171 : decode b_Rg_sideOf 171 = .ok (.if_icmp .le 7, 3) := by decide +kernel
theorem d_Rg_sideOf_174 : decode b_Rg_sideOf 174 = .ok (.iconst 1, 1) := by decide +kernel
theorem d_Rg_sideOf_175 : decode b_Rg_sideOf 175 = .ok (.goto 4, 3) := by decide +kernel
theorem d_Rg_sideOf_178 : decode b_Rg_sideOf 178 = .ok (.iconst 0, 1) := by decide +kernel
theorem d_Rg_sideOf_179 : decode b_Rg_sideOf 179 = .ok (.if_icmp .eq 18, 3) := by decide +kernel
theorem d_Rg_sideOf_182 : decode b_Rg_sideOf 182 = .ok (.iload 11, 2) := by decide +kernel
theorem d_Rg_sideOf_184 : decode b_Rg_sideOf 184 = .ok (.ifCond .eq 13, 3) := by decide +kernel
theorem d_Rg_sideOf_187 : decode b_Rg_sideOf 187 = .ok (.iload_n 3, 1) := by decide +kernel
theorem d_Rg_sideOf_188 : decode b_Rg_sideOf 188 = .ok (.ifCond .ne 7, 3) := by decide +kernel
theorem d_Rg_sideOf_191 : decode b_Rg_sideOf 191 = .ok (.iconst 1, 1) := by decide +kernel
theorem d_Rg_sideOf_192 : decode b_Rg_sideOf 192 = .ok (.goto 4, 3) := by decide +kernel
theorem d_Rg_sideOf_195 : decode b_Rg_sideOf 195 = .ok (.iconst 0, 1) := by decide +kernel
theorem d_Rg_sideOf_196 : decode b_Rg_sideOf 196 = .ok (.istore_n 3, 1) := by decide +kernel
theorem d_Rg_sideOf_197 : decode b_Rg_sideOf 197 = .ok (.iinc 4 1, 3) := by decide +kernel
theorem d_Rg_sideOf_200 : decode b_Rg_sideOf 200 = .ok (.goto (-195), 3) := by decide +kernel
theorem d_Rg_sideOf_203 : decode b_Rg_sideOf 203 = .ok (.iload_n 3, 1) := by decide +kernel
theorem d_Rg_sideOf_204 : decode b_Rg_sideOf 204 = .ok (.ifCond .eq 7, 3) := by decide +kernel
theorem d_Rg_sideOf_207 : decode b_Rg_sideOf 207 = .ok (.iconst 1, 1) := by decide +kernel
theorem d_Rg_sideOf_208 : decode b_Rg_sideOf 208 = .ok (.goto 4, 3) := by decide +kernel
theorem d_Rg_sideOf_211 : decode b_Rg_sideOf 211 = .ok (.iconst 0, 1) := by decide +kernel
theorem d_Rg_sideOf_212 : decode b_Rg_sideOf 212 = .ok (.ireturn, 1) := by decide +kernel
set_option maxHeartbeats 4000000 in
set_option maxRecDepth 100000 in
theorem c_Rg_sideOf (F : Nat → Nat → Int) (G : Nat → Int → Int) (k : Nat) (x y : Int) (hK : isRg k) (hR : rIn F G k) (hx : 0 ≤ x ∧ x ≤ 600) (hy : 0 ≤ y ∧ y ≤ 600) : cP y_Rg_sideOf b_Rg_sideOf 12 (some .int) 0 0 F G (fun ad => [.ref (ad k), .int (iI x), .int (iI y)]) (fun r => rSide (G (k + 1)) (G (k + 2)) (F k 2) x y r) := by
  have a1 : isA (k + 1) (rRoom ((k - 2) % 22)) := a_rg hK (Or.inl rfl) rfl
  have a2 : isA (k + 2) (rRoom ((k - 2) % 22)) := a_rg hK (Or.inr rfl) rfl
  have hr32 := rRoom_le ((k - 2) % 22)
  obtain ⟨hs, hX⟩ := hR
  intro s0 a0 D t ad
  refine g_startP (by decide +kernel) (Nat.le_of_ble_eq_true rfl) (fun p l e R s m args below meth c A ok => ?_)
  show gW p l e R s m args below meth c _ D A 12 (gZ0 s) 0 0 ad 265 (mem ad t F G) 0 [(0, .ref (ad k)), (1, .int (iI x)), (2, .int (iI y))] []
  refine g_iconst ok d_Rg_sideOf_0 ?_
  refine g_istore_n (lv' := [(3, .int (iI 0)), (0, .ref (ad k)), (1, .int (iI x)), (2, .int (iI y))]) ok d_Rg_sideOf_1 rfl (by decide) rfl ?_
  refine g_iconst ok d_Rg_sideOf_2 ?_
  refine g_istore (lv' := [(4, .int (iI 0)), (3, .int (iI 0)), (0, .ref (ad k)), (1, .int (iI x)), (2, .int (iI y))]) ok d_Rg_sideOf_3 (by decide) rfl ?_
  have L_o : ∀ (n_o : Nat) (d : Int) (i : Int), (0 ≤ i ∧ i ≤ F k 2) → ((d = 0 ∨ d = 1) ∧ (d = 1 ↔ oddN (rCr (G (k + 1)) (G (k + 2)) (F k 2) x y) i.toNat)) → (∀ a : Int, 0 ≤ a → a < i → ¬ rOn (G (k + 1)) (G (k + 2)) (F k 2) x y a) → (F k 2 + 1 - i) < (n_o : Int) → gW p l e R s m args below meth c (MQ below (gQp (fun r => rSide (G (k + 1)) (G (k + 2)) (F k 2) x y r)) args s 0 0 (fun _ => False)) D A 12 (gZ0 s) 0 0 ad 265 (mem ad t F G) 5 [(0, .ref (ad k)), (1, .int (iI x)), (2, .int (iI y)), (3, .int (iI d)), (4, .int (iI i))] [] := by
    intro n_o
    induction n_o with
    | zero =>
      intro d i hi hdd ho hm_o
      exact absurd hm_o (by omega)
    | succ n_o ih_o =>
      intro d i hi hdd ho hm_o
      refine g_iload ok d_Rg_sideOf_5 4 rfl ?_
      refine g_aload_n ok d_Rg_sideOf_7 rfl 0 rfl ?_
      refine gI_Rg_size ok _ hK k_54 d_Rg_sideOf_8 ?_
      refine g_icmp_ge ok 203 d_Rg_sideOf_11 (by decide) (by omega) (by omega) (fun h1 => ?_) (fun h1 => ?_)
      · refine g_iload_n ok d_Rg_sideOf_203 rfl 3 rfl ?_
        refine g_if_eq ok 211 d_Rg_sideOf_204 (by decide) (by omega) (fun h2 => ?_) (fun h2 => ?_)
        · refine g_iconst ok d_Rg_sideOf_211 ?_
          exact g_ipret ok d_Rg_sideOf_212 (Or.inr ⟨fun a q1 q2 => ho a q1 (by omega), Or.inr ⟨rfl, by rw [show (F k 2).toNat = i.toNat by omega]; exact fun q => absurd (hdd.2.mpr q) (by omega)⟩⟩)
        · refine g_iconst ok d_Rg_sideOf_207 ?_
          refine g_goto ok 212 d_Rg_sideOf_208 (by decide) ?_
          exact g_ipret ok d_Rg_sideOf_212 (Or.inr ⟨fun a q1 q2 => ho a q1 (by omega), Or.inl ⟨rfl, by rw [show (F k 2).toNat = i.toNat by omega]; exact hdd.2.mp (by omega)⟩⟩)
      · have J_33 : ∀ (j : Int), (j = rJ (F k 2) i) → gW p l e R s m args below meth c (MQ below (gQp (fun r => rSide (G (k + 1)) (G (k + 2)) (F k 2) x y r)) args s 0 0 (fun _ => False)) D A 12 (gZ0 s) 0 0 ad 265 (mem ad t F G) 33 [(0, .ref (ad k)), (1, .int (iI x)), (2, .int (iI y)), (3, .int (iI d)), (4, .int (iI i))] [.int (iI j)] := by
          intro j hj
          subst hj
          refine g_istore (lv' := [(5, .int (iI (rJ (F k 2) i))), (0, .ref (ad k)), (1, .int (iI x)), (2, .int (iI y)), (3, .int (iI d)), (4, .int (iI i))]) ok d_Rg_sideOf_33 (by decide) rfl ?_
          have hJ : 0 ≤ rJ (F k 2) i ∧ rJ (F k 2) i < F k 2 := by unfold rJ; split <;> omega
          have xi := hX i (by omega) (by omega)
          have xj := hX (rJ (F k 2) i) (by omega) (by omega)
          refine g_aload_n ok d_Rg_sideOf_35 rfl 1 rfl ?_
          refine gI_Rg_xs ok _ hK k_44 d_Rg_sideOf_36 ?_
          refine g_iload ok d_Rg_sideOf_39 5 rfl ?_
          refine h_iald ok _ a1 (by omega) d_Rg_sideOf_41 ?_
          refine g_istore (lv' := [(6, .int (iI (G (k + 1) i))), (5, .int (iI (rJ (F k 2) i))), (0, .ref (ad k)), (1, .int (iI x)), (2, .int (iI y)), (3, .int (iI d)), (4, .int (iI i))]) ok d_Rg_sideOf_42 (by decide) rfl ?_
          refine g_aload_n ok d_Rg_sideOf_44 rfl 2 rfl ?_
          refine gI_Rg_ys ok _ hK k_49 d_Rg_sideOf_45 ?_
          refine g_iload ok d_Rg_sideOf_48 6 rfl ?_
          refine h_iald ok _ a2 (by omega) d_Rg_sideOf_50 ?_
          refine g_istore (lv' := [(7, .int (iI (G (k + 2) i))), (6, .int (iI (G (k + 1) i))), (5, .int (iI (rJ (F k 2) i))), (0, .ref (ad k)), (1, .int (iI x)), (2, .int (iI y)), (3, .int (iI d)), (4, .int (iI i))]) ok d_Rg_sideOf_51 (by decide) rfl ?_
          refine g_aload_n ok d_Rg_sideOf_53 rfl 3 rfl ?_
          refine gI_Rg_xs ok _ hK k_44 d_Rg_sideOf_54 ?_
          refine g_iload ok d_Rg_sideOf_57 2 rfl ?_
          refine h_iald ok _ a1 (by omega) d_Rg_sideOf_59 ?_
          refine g_istore (lv' := [(8, .int (iI (G (k + 1) (rJ (F k 2) i)))), (7, .int (iI (G (k + 2) i))), (6, .int (iI (G (k + 1) i))), (5, .int (iI (rJ (F k 2) i))), (0, .ref (ad k)), (1, .int (iI x)), (2, .int (iI y)), (3, .int (iI d)), (4, .int (iI i))]) ok d_Rg_sideOf_60 (by decide) rfl ?_
          refine g_aload_n ok d_Rg_sideOf_62 rfl 4 rfl ?_
          refine gI_Rg_ys ok _ hK k_49 d_Rg_sideOf_63 ?_
          refine g_iload ok d_Rg_sideOf_66 3 rfl ?_
          refine h_iald ok _ a2 (by omega) d_Rg_sideOf_68 ?_
          refine g_istore (lv' := [(9, .int (iI (G (k + 2) (rJ (F k 2) i)))), (8, .int (iI (G (k + 1) (rJ (F k 2) i)))), (7, .int (iI (G (k + 2) i))), (6, .int (iI (G (k + 1) i))), (5, .int (iI (rJ (F k 2) i))), (0, .ref (ad k)), (1, .int (iI x)), (2, .int (iI y)), (3, .int (iI d)), (4, .int (iI i))]) ok d_Rg_sideOf_69 (by decide) rfl ?_
          have p1 := mul_rng (a := G (k + 1) (rJ (F k 2) i) - G (k + 1) i) (b := y - G (k + 2) i) (by omega) (by omega)
          have p2 := mul_rng (a := x - G (k + 1) i) (b := G (k + 2) (rJ (F k 2) i) - G (k + 2) i) (by omega) (by omega)
          have p3 := mul_rng (a := x - G (k + 1) i) (b := x - G (k + 1) (rJ (F k 2) i)) (by omega) (by omega)
          have p4 := mul_rng (a := y - G (k + 2) i) (b := y - G (k + 2) (rJ (F k 2) i)) (by omega) (by omega)
          have tr : -720000 ≤ eTurn (G (k + 1) i) (G (k + 2) i) (G (k + 1) (rJ (F k 2) i)) (G (k + 2) (rJ (F k 2) i)) x y ∧ eTurn (G (k + 1) i) (G (k + 2) i) (G (k + 1) (rJ (F k 2) i)) (G (k + 2) (rJ (F k 2) i)) x y ≤ 720000 := by unfold eTurn; omega
          refine g_iload ok d_Rg_sideOf_71 1 rfl ?_
          refine g_iload ok d_Rg_sideOf_73 3 rfl ?_
          refine g_isub ok d_Rg_sideOf_75 ?_
          refine g_iload_n ok d_Rg_sideOf_76 rfl 7 rfl ?_
          refine g_iload ok d_Rg_sideOf_77 2 rfl ?_
          refine g_isub ok d_Rg_sideOf_79 ?_
          refine g_imul ok d_Rg_sideOf_80 ?_
          refine g_iload_n ok d_Rg_sideOf_81 rfl 6 rfl ?_
          refine g_iload ok d_Rg_sideOf_82 3 rfl ?_
          refine g_isub ok d_Rg_sideOf_84 ?_
          refine g_iload ok d_Rg_sideOf_85 0 rfl ?_
          refine g_iload ok d_Rg_sideOf_87 2 rfl ?_
          refine g_isub ok d_Rg_sideOf_89 ?_
          refine g_imul ok d_Rg_sideOf_90 ?_
          refine g_isub ok d_Rg_sideOf_91 ?_
          refine g_istore (lv' := [(10, .int (iI ((((G (k + 1) (rJ (F k 2) i)) - (G (k + 1) i)) * (y - (G (k + 2) i))) - ((x - (G (k + 1) i)) * ((G (k + 2) (rJ (F k 2) i)) - (G (k + 2) i)))))), (9, .int (iI (G (k + 2) (rJ (F k 2) i)))), (8, .int (iI (G (k + 1) (rJ (F k 2) i)))), (7, .int (iI (G (k + 2) i))), (6, .int (iI (G (k + 1) i))), (5, .int (iI (rJ (F k 2) i))), (0, .ref (ad k)), (1, .int (iI x)), (2, .int (iI y)), (3, .int (iI d)), (4, .int (iI i))]) ok d_Rg_sideOf_92 (by decide) rfl ?_
          refine g_lv [6, 7, 8, 9, 10, 4, 3, 2, 1, 0] rfl ?_
          show gW p l e R s m args below meth c _ D A 12 (gZ0 s) 0 0 ad 265 (mem ad t F G) 94 [(0, .ref (ad k)), (1, .int (iI x)), (2, .int (iI y)), (3, .int (iI d)), (4, .int (iI i)), (6, .int (iI (G (k + 1) i))), (7, .int (iI (G (k + 2) i))), (8, .int (iI (G (k + 1) (rJ (F k 2) i)))), (9, .int (iI (G (k + 2) (rJ (F k 2) i)))), (10, .int (iI (eTurn (G (k + 1) i) (G (k + 2) i) (G (k + 1) (rJ (F k 2) i)) (G (k + 2) (rJ (F k 2) i)) x y)))] []
          have J_125 : (¬ rOn (G (k + 1)) (G (k + 2)) (F k 2) x y i) → gW p l e R s m args below meth c (MQ below (gQp (fun r => rSide (G (k + 1)) (G (k + 2)) (F k 2) x y r)) args s 0 0 (fun _ => False)) D A 12 (gZ0 s) 0 0 ad 265 (mem ad t F G) 125 [(0, .ref (ad k)), (1, .int (iI x)), (2, .int (iI y)), (3, .int (iI d)), (4, .int (iI i)), (6, .int (iI (G (k + 1) i))), (7, .int (iI (G (k + 2) i))), (8, .int (iI (G (k + 1) (rJ (F k 2) i)))), (9, .int (iI (G (k + 2) (rJ (F k 2) i)))), (10, .int (iI (eTurn (G (k + 1) i) (G (k + 2) i) (G (k + 1) (rJ (F k 2) i)) (G (k + 2) (rJ (F k 2) i)) x y)))] [] := by
            intro hno
            have J_155 : ∀ (b : Int), ((b = 0 ∨ b = 1) ∧ (b = 1 ↔ ((G (k + 2) i < G (k + 2) (rJ (F k 2) i) ∧ 0 < eTurn (G (k + 1) i) (G (k + 2) i) (G (k + 1) (rJ (F k 2) i)) (G (k + 2) (rJ (F k 2) i)) x y) ∨ (¬ G (k + 2) i < G (k + 2) (rJ (F k 2) i) ∧ eTurn (G (k + 1) i) (G (k + 2) i) (G (k + 1) (rJ (F k 2) i)) (G (k + 2) (rJ (F k 2) i)) x y < 0)))) → gW p l e R s m args below meth c (MQ below (gQp (fun r => rSide (G (k + 1)) (G (k + 2)) (F k 2) x y r)) args s 0 0 (fun _ => False)) D A 12 (gZ0 s) 0 0 ad 265 (mem ad t F G) 155 [(0, .ref (ad k)), (1, .int (iI x)), (2, .int (iI y)), (3, .int (iI d)), (4, .int (iI i)), (6, .int (iI (G (k + 1) i))), (7, .int (iI (G (k + 2) i))), (8, .int (iI (G (k + 1) (rJ (F k 2) i)))), (9, .int (iI (G (k + 2) (rJ (F k 2) i)))), (10, .int (iI (eTurn (G (k + 1) i) (G (k + 2) i) (G (k + 1) (rJ (F k 2) i)) (G (k + 2) (rJ (F k 2) i)) x y)))] [.int (iI b)] := by
              intro b hb
              refine g_istore (lv' := [(11, .int (iI b)), (0, .ref (ad k)), (1, .int (iI x)), (2, .int (iI y)), (3, .int (iI d)), (4, .int (iI i)), (6, .int (iI (G (k + 1) i))), (7, .int (iI (G (k + 2) i))), (8, .int (iI (G (k + 1) (rJ (F k 2) i)))), (9, .int (iI (G (k + 2) (rJ (F k 2) i)))), (10, .int (iI (eTurn (G (k + 1) i) (G (k + 2) i) (G (k + 1) (rJ (F k 2) i)) (G (k + 2) (rJ (F k 2) i)) x y)))]) ok d_Rg_sideOf_155 (by decide) rfl ?_
              have J_197 : ∀ (d2 : Int), ((d2 = 0 ∨ d2 = 1) ∧ (d2 = 1 ↔ oddN (rCr (G (k + 1)) (G (k + 2)) (F k 2) x y) (i + 1).toNat)) → gW p l e R s m args below meth c (MQ below (gQp (fun r => rSide (G (k + 1)) (G (k + 2)) (F k 2) x y r)) args s 0 0 (fun _ => False)) D A 12 (gZ0 s) 0 0 ad 265 (mem ad t F G) 197 [(0, .ref (ad k)), (1, .int (iI x)), (2, .int (iI y)), (3, .int (iI d2)), (4, .int (iI i))] [] := by
                intro d2 hd2
                refine g_iinc (lv' := [(4, .int (iI (i + 1))), (0, .ref (ad k)), (1, .int (iI x)), (2, .int (iI y)), (3, .int (iI d2))]) ok d_Rg_sideOf_197 4 rfl (by decide) rfl ?_
                refine g_goto ok 5 d_Rg_sideOf_200 (by decide) ?_
                refine g_lv [1, 2, 3, 4, 0] rfl ?_
                exact ih_o d2 (i + 1) (by omega) (hd2) (fun a q1 q2 => (Int.lt_or_eq_of_le (show a ≤ i by omega)).elim (fun q => ho a q1 q) (fun q => by subst q; exact hno)) (by omega)
              refine g_iload ok d_Rg_sideOf_157 7 rfl ?_
              refine g_iload_n ok d_Rg_sideOf_159 rfl 3 rfl ?_
              refine g_icmp_le ok 167 d_Rg_sideOf_160 (by decide) (by omega) (by omega) (fun h3 => ?_) (fun h3 => ?_)
              · refine g_iconst ok d_Rg_sideOf_167 ?_
                refine g_iload ok d_Rg_sideOf_168 9 rfl ?_
                refine g_iload_n ok d_Rg_sideOf_170 rfl 3 rfl ?_
                refine g_icmp_le ok 178 d_Rg_sideOf_171 (by decide) (by omega) (by omega) (fun h4 => ?_) (fun h4 => ?_)
                · refine g_iconst ok d_Rg_sideOf_178 ?_
                  refine g_icmp_eq ok 197 d_Rg_sideOf_179 (by decide) (by omega) (by omega) (fun h5 => ?_) (fun h5 => ?_)
                  · refine g_lv [1, 2, 3, 4, 5] rfl ?_
                    exact J_197 d (by rw [oddN_step hi.1]; exact odd_no hdd (by unfold rCr eCr; omega))
                  · exact absurd h5 (by decide)
                · refine g_iconst ok d_Rg_sideOf_174 ?_
                  refine g_goto ok 179 d_Rg_sideOf_175 (by decide) ?_
                  refine g_icmp_eq ok 197 d_Rg_sideOf_179 (by decide) (by omega) (by omega) (fun h6 => ?_) (fun h6 => ?_)
                  · exact absurd h6 (by decide)
                  · refine g_iload ok d_Rg_sideOf_182 0 rfl ?_
                    refine g_if_eq ok 197 d_Rg_sideOf_184 (by decide) (by omega) (fun h7 => ?_) (fun h7 => ?_)
                    · refine g_lv [1, 2, 3, 4, 5] rfl ?_
                      exact J_197 d (by rw [oddN_step hi.1]; exact odd_no hdd (by unfold rCr eCr; omega))
                    · refine g_iload_n ok d_Rg_sideOf_187 rfl 4 rfl ?_
                      refine g_if_ne ok 195 d_Rg_sideOf_188 (by decide) (by omega) (fun h8 => ?_) (fun h8 => ?_)
                      · refine g_iconst ok d_Rg_sideOf_195 ?_
                        refine g_istore_n (lv' := [(3, .int (iI 0)), (11, .int (iI b)), (0, .ref (ad k)), (1, .int (iI x)), (2, .int (iI y)), (4, .int (iI i)), (6, .int (iI (G (k + 1) i))), (7, .int (iI (G (k + 2) i))), (8, .int (iI (G (k + 1) (rJ (F k 2) i)))), (9, .int (iI (G (k + 2) (rJ (F k 2) i)))), (10, .int (iI (eTurn (G (k + 1) i) (G (k + 2) i) (G (k + 1) (rJ (F k 2) i)) (G (k + 2) (rJ (F k 2) i)) x y)))]) ok d_Rg_sideOf_196 rfl (by decide) rfl ?_
                        refine g_lv [2, 3, 4, 0, 5] rfl ?_
                        exact J_197 0 (by rw [oddN_step hi.1]; exact odd_y0 hdd (by unfold rCr eCr; omega) (by omega))
                      · refine g_iconst ok d_Rg_sideOf_191 ?_
                        refine g_goto ok 196 d_Rg_sideOf_192 (by decide) ?_
                        refine g_istore_n (lv' := [(3, .int (iI 1)), (11, .int (iI b)), (0, .ref (ad k)), (1, .int (iI x)), (2, .int (iI y)), (4, .int (iI i)), (6, .int (iI (G (k + 1) i))), (7, .int (iI (G (k + 2) i))), (8, .int (iI (G (k + 1) (rJ (F k 2) i)))), (9, .int (iI (G (k + 2) (rJ (F k 2) i)))), (10, .int (iI (eTurn (G (k + 1) i) (G (k + 2) i) (G (k + 1) (rJ (F k 2) i)) (G (k + 2) (rJ (F k 2) i)) x y)))]) ok d_Rg_sideOf_196 rfl (by decide) rfl ?_
                        refine g_lv [2, 3, 4, 0, 5] rfl ?_
                        exact J_197 1 (by rw [oddN_step hi.1]; exact odd_y1 hdd (by unfold rCr eCr; omega) (by omega))
              · refine g_iconst ok d_Rg_sideOf_163 ?_
                refine g_goto ok 168 d_Rg_sideOf_164 (by decide) ?_
                refine g_iload ok d_Rg_sideOf_168 9 rfl ?_
                refine g_iload_n ok d_Rg_sideOf_170 rfl 3 rfl ?_
                refine g_icmp_le ok 178 d_Rg_sideOf_171 (by decide) (by omega) (by omega) (fun h9 => ?_) (fun h9 => ?_)
                · refine g_iconst ok d_Rg_sideOf_178 ?_
                  refine g_icmp_eq ok 197 d_Rg_sideOf_179 (by decide) (by omega) (by omega) (fun h10 => ?_) (fun h10 => ?_)
                  · exact absurd h10 (by decide)
                  · refine g_iload ok d_Rg_sideOf_182 0 rfl ?_
                    refine g_if_eq ok 197 d_Rg_sideOf_184 (by decide) (by omega) (fun h11 => ?_) (fun h11 => ?_)
                    · refine g_lv [1, 2, 3, 4, 5] rfl ?_
                      exact J_197 d (by rw [oddN_step hi.1]; exact odd_no hdd (by unfold rCr eCr; omega))
                    · refine g_iload_n ok d_Rg_sideOf_187 rfl 4 rfl ?_
                      refine g_if_ne ok 195 d_Rg_sideOf_188 (by decide) (by omega) (fun h12 => ?_) (fun h12 => ?_)
                      · refine g_iconst ok d_Rg_sideOf_195 ?_
                        refine g_istore_n (lv' := [(3, .int (iI 0)), (11, .int (iI b)), (0, .ref (ad k)), (1, .int (iI x)), (2, .int (iI y)), (4, .int (iI i)), (6, .int (iI (G (k + 1) i))), (7, .int (iI (G (k + 2) i))), (8, .int (iI (G (k + 1) (rJ (F k 2) i)))), (9, .int (iI (G (k + 2) (rJ (F k 2) i)))), (10, .int (iI (eTurn (G (k + 1) i) (G (k + 2) i) (G (k + 1) (rJ (F k 2) i)) (G (k + 2) (rJ (F k 2) i)) x y)))]) ok d_Rg_sideOf_196 rfl (by decide) rfl ?_
                        refine g_lv [2, 3, 4, 0, 5] rfl ?_
                        exact J_197 0 (by rw [oddN_step hi.1]; exact odd_y0 hdd (by unfold rCr eCr; omega) (by omega))
                      · refine g_iconst ok d_Rg_sideOf_191 ?_
                        refine g_goto ok 196 d_Rg_sideOf_192 (by decide) ?_
                        refine g_istore_n (lv' := [(3, .int (iI 1)), (11, .int (iI b)), (0, .ref (ad k)), (1, .int (iI x)), (2, .int (iI y)), (4, .int (iI i)), (6, .int (iI (G (k + 1) i))), (7, .int (iI (G (k + 2) i))), (8, .int (iI (G (k + 1) (rJ (F k 2) i)))), (9, .int (iI (G (k + 2) (rJ (F k 2) i)))), (10, .int (iI (eTurn (G (k + 1) i) (G (k + 2) i) (G (k + 1) (rJ (F k 2) i)) (G (k + 2) (rJ (F k 2) i)) x y)))]) ok d_Rg_sideOf_196 rfl (by decide) rfl ?_
                        refine g_lv [2, 3, 4, 0, 5] rfl ?_
                        exact J_197 1 (by rw [oddN_step hi.1]; exact odd_y1 hdd (by unfold rCr eCr; omega) (by omega))
                · refine g_iconst ok d_Rg_sideOf_174 ?_
                  refine g_goto ok 179 d_Rg_sideOf_175 (by decide) ?_
                  refine g_icmp_eq ok 197 d_Rg_sideOf_179 (by decide) (by omega) (by omega) (fun h13 => ?_) (fun h13 => ?_)
                  · refine g_lv [1, 2, 3, 4, 5] rfl ?_
                    exact J_197 d (by rw [oddN_step hi.1]; exact odd_no hdd (by unfold rCr eCr; omega))
                  · exact absurd h13 (by decide)
            refine g_iload ok d_Rg_sideOf_125 8 rfl ?_
            refine g_iload ok d_Rg_sideOf_127 6 rfl ?_
            refine g_icmp_le ok 145 d_Rg_sideOf_129 (by decide) (by omega) (by omega) (fun h14 => ?_) (fun h14 => ?_)
            · refine g_iload ok d_Rg_sideOf_145 9 rfl ?_
              refine g_if_ge ok 154 d_Rg_sideOf_147 (by decide) (by omega) (fun h15 => ?_) (fun h15 => ?_)
              · refine g_iconst ok d_Rg_sideOf_154 ?_
                exact J_155 0 (by omega)
              · refine g_iconst ok d_Rg_sideOf_150 ?_
                refine g_goto ok 155 d_Rg_sideOf_151 (by decide) ?_
                exact J_155 1 (by omega)
            · refine g_iload ok d_Rg_sideOf_132 9 rfl ?_
              refine g_if_le ok 141 d_Rg_sideOf_134 (by decide) (by omega) (fun h16 => ?_) (fun h16 => ?_)
              · refine g_iconst ok d_Rg_sideOf_141 ?_
                refine g_goto ok 155 d_Rg_sideOf_142 (by decide) ?_
                exact J_155 0 (by omega)
              · refine g_iconst ok d_Rg_sideOf_137 ?_
                refine g_goto ok 155 d_Rg_sideOf_138 (by decide) ?_
                exact J_155 1 (by omega)
          refine g_iload ok d_Rg_sideOf_94 9 rfl ?_
          refine g_if_ne ok 125 d_Rg_sideOf_96 (by decide) (by omega) (fun h17 => ?_) (fun h17 => ?_)
          · have hq := h17
            exact J_125  (fun q => by first | exact hq q.1 | (have q2 := q.2; omega))
          · refine g_iload_n ok d_Rg_sideOf_99 rfl 1 rfl ?_
            refine g_iload ok d_Rg_sideOf_100 5 rfl ?_
            refine g_isub ok d_Rg_sideOf_102 ?_
            refine g_iload_n ok d_Rg_sideOf_103 rfl 1 rfl ?_
            refine g_iload ok d_Rg_sideOf_104 7 rfl ?_
            refine g_isub ok d_Rg_sideOf_106 ?_
            refine g_imul ok d_Rg_sideOf_107 ?_
            refine g_if_gt ok 125 d_Rg_sideOf_108 (by decide) (by omega) (fun h18 => ?_) (fun h18 => ?_)
            · have hq : ¬ (0 = 1) := by decide
              exact J_125  (fun q => by first | exact hq q.1 | (have q2 := q.2; omega))
            · refine g_iload_n ok d_Rg_sideOf_111 rfl 2 rfl ?_
              refine g_iload ok d_Rg_sideOf_112 6 rfl ?_
              refine g_isub ok d_Rg_sideOf_114 ?_
              refine g_iload_n ok d_Rg_sideOf_115 rfl 2 rfl ?_
              refine g_iload ok d_Rg_sideOf_116 8 rfl ?_
              refine g_isub ok d_Rg_sideOf_118 ?_
              refine g_imul ok d_Rg_sideOf_119 ?_
              refine g_if_gt ok 125 d_Rg_sideOf_120 (by decide) (by omega) (fun h19 => ?_) (fun h19 => ?_)
              · have hq : ¬ (0 = 1) := by decide
                exact J_125  (fun q => by first | exact hq q.1 | (have q2 := q.2; omega))
              · refine g_iconst ok d_Rg_sideOf_123 ?_
                exact g_ipret ok d_Rg_sideOf_124 (Or.inl ⟨rfl, i, hi.1, by omega, by unfold rOn eOn; omega⟩)
        refine g_iload ok d_Rg_sideOf_14 4 rfl ?_
        refine g_iconst ok d_Rg_sideOf_16 ?_
        refine g_iadd ok d_Rg_sideOf_17 ?_
        refine g_aload_n ok d_Rg_sideOf_18 rfl 0 rfl ?_
        refine gI_Rg_size ok _ hK k_54 d_Rg_sideOf_19 ?_
        refine g_icmp_ge ok 32 d_Rg_sideOf_22 (by decide) (by omega) (by omega) (fun h20 => ?_) (fun h20 => ?_)
        · refine g_iconst ok d_Rg_sideOf_32 ?_
          exact J_33 0 (by unfold rJ; rw [if_neg (by omega)])
        · refine g_iload ok d_Rg_sideOf_25 4 rfl ?_
          refine g_iconst ok d_Rg_sideOf_27 ?_
          refine g_iadd ok d_Rg_sideOf_28 ?_
          refine g_goto ok 33 d_Rg_sideOf_29 (by decide) ?_
          exact J_33 (i + 1) (by unfold rJ; rw [if_pos (by omega)])
  refine g_lv [2, 3, 4, 1, 0] rfl ?_
  exact L_o ((F k 2 + 1 - 0).toNat + 1) 0 0 (by omega) (⟨Or.inl rfl, ⟨fun q => by omega, fun q => q.elim⟩⟩) (fun a q1 q2 => by omega) (by omega)
