/-! the reference's hatch; a shape's runs -/
theorem ceilq {a sp : Int} (h : 0 < sp) : (a + sp - 1) / sp = -((-a) / sp) := by
  have e1 : (-a) / sp * sp ≤ -a := Int.ediv_mul_le _ (by omega)
  have e2 : -a < ((-a) / sp + 1) * sp := Int.lt_ediv_add_one_mul_self _ h
  rw [Int.add_mul, Int.one_mul] at e2
  generalize hq : (-a) / sp = q at e1 e2
  have h1 : (a + sp - 1) / sp < -q + 1 := by
    rw [Int.ediv_lt_iff_lt_mul h, Int.add_mul, Int.neg_mul, Int.one_mul]
    omega
  have h2 : -q ≤ (a + sp - 1) / sp := by
    rw [Int.le_ediv_iff_mul_le h, Int.neg_mul]
    omega
  omega
theorem iI_drow {row sp : Int} (hs : 4 ≤ sp ∧ sp ≤ 20) (hr : -2147483648 ≤ row * sp ∧ row * sp < 2147483648) : iI (row * sp) / iI sp = iI row := by
  rw [iI_divA hr (by omega), Int.mul_tdiv_cancel _ (by omega)]
theorem row_rng2 {low high sp row : Int} (hs : 4 ≤ sp ∧ sp ≤ 20) (hl : -600 ≤ low ∧ low ≤ 1200) (hh : -600 ≤ high ∧ high ≤ 1200) (h1 : -((-low) / sp) ≤ row) (h2 : row ≤ high / sp + 1 ∨ row = -((-low) / sp)) : -600 ≤ row * sp ∧ row * sp ≤ 1230 := by
  have a : high / sp * sp ≤ high := Int.ediv_mul_le _ (by omega)
  have b : (-low) / sp * sp ≤ -low := Int.ediv_mul_le _ (by omega)
  have b2 : -low < ((-low) / sp + 1) * sp := Int.lt_ediv_add_one_mul_self _ (by omega)
  have d : -((-low) / sp) * sp ≤ row * sp := Int.mul_le_mul_of_nonneg_right h1 (by omega)
  rw [Int.neg_mul] at d
  rw [Int.add_mul, Int.one_mul] at b2
  rcases h2 with c | c
  · have c2 : row * sp ≤ (high / sp + 1) * sp := Int.mul_le_mul_of_nonneg_right c (by omega)
    rw [Int.add_mul, Int.one_mul] at c2
    omega
  · rw [c, Int.neg_mul]
    omega
def lwM (G : Nat → Int → Int) (sn : Int) : Int := if G 245 (4 * sn + 3) = 0 then G 249 (4 * sn + 1) else if G 245 (4 * sn + 3) = 1 then G 249 (4 * sn) else if G 245 (4 * sn + 3) = 2 then G 249 (4 * sn) + G 249 (4 * sn + 1) else G 249 (4 * sn + 1) - G 249 (4 * sn + 2)
def hgM (G : Nat → Int → Int) (sn : Int) : Int := if G 245 (4 * sn + 3) = 0 then G 249 (4 * sn + 3) else if G 245 (4 * sn + 3) = 1 then G 249 (4 * sn + 2) else if G 245 (4 * sn + 3) = 2 then G 249 (4 * sn + 2) + G 249 (4 * sn + 3) else G 249 (4 * sn + 3) - G 249 (4 * sn)
def bx4 (G : Nat → Int → Int) (sn : Int) : Prop := (0 ≤ G 249 (4 * sn) ∧ G 249 (4 * sn) ≤ 600) ∧ (0 ≤ G 249 (4 * sn + 1) ∧ G 249 (4 * sn + 1) ≤ 600) ∧ (0 ≤ G 249 (4 * sn + 2) ∧ G 249 (4 * sn + 2) ≤ 600) ∧ (0 ≤ G 249 (4 * sn + 3) ∧ G 249 (4 * sn + 3) ≤ 600)
def bxM (G : Nat → Int → Int) (sn x y : Int) : Prop := (G 249 (4 * sn) ≤ x ∧ x ≤ G 249 (4 * sn + 2)) ∧ (G 249 (4 * sn + 1) ≤ y ∧ y ≤ G 249 (4 * sn + 3))
theorem lwM_rng {G : Nat → Int → Int} {sn : Int} (hb : bx4 G sn) : (-600 ≤ lwM G sn ∧ lwM G sn ≤ 1200) ∧ (-600 ≤ hgM G sn ∧ hgM G sn ≤ 1200) := by
  unfold bx4 at hb
  unfold lwM hgM
  refine ⟨?_, ?_⟩
  · split
    · omega
    · split
      · omega
      · split <;> omega
  · split
    · omega
    · split
      · omega
      · split <;> omega
theorem bxM_ln {G : Nat → Int → Int} {sn d f t : Int} (h : bxM G sn (lX d f t) (lY d f t)) : (if d = 1 then G 249 (4 * sn + 1) else G 249 (4 * sn)) ≤ t ∧ t ≤ (if d = 1 then G 249 (4 * sn + 3) else G 249 (4 * sn + 2)) := by
  unfold bxM at h
  by_cases c : d = 1
  · rw [if_pos c, if_pos c]
    have e : lY d f t = t := by
      unfold lY
      rw [if_neg (by omega), if_pos c]
    rw [e] at h
    exact h.2
  · rw [if_neg c, if_neg c]
    have e : lX d f t = t := by
      unfold lX
      rw [if_neg c]
    rw [e] at h
    exact h.1
theorem hatM_end {F F1 : Nat → Nat → Int} {G G1 : Nat → Int → Int} {sn : Int} {S : PS} {has : Int → Int → Prop} {d sp low high row : Int} (hr : -((-low) / sp) ≤ row ∧ (row ≤ high / sp + 1 ∨ row = -((-low) / sp))) (he : high / sp < row) (h : mtR F G sn S F1 G1 (hAll has d sp (-((-low) / sp)) (row - -((-low) / sp)).toNat)) : mtR F G sn S F1 G1 (hatE has d sp low high) := by
  unfold hatE
  rw [show (high / sp + 1 - -((-low) / sp)).toNat = (row - -((-low) / sp)).toNat by omega]
  exact h
theorem d_Mo_hatch_0 : decode b_Mo_hatch 0 = .ok (.aload_n 0, 1) := by decide +kernel
theorem d_Mo_hatch_1 : decode b_Mo_hatch 1 = .ok (.getfield 20, 3) := by decide +kernel
theorem d_Mo_hatch_4 : decode b_Mo_hatch 4 = .ok (.iconst 4, 1) := by decide +kernel
theorem d_Mo_hatch_5 : decode b_Mo_hatch 5 = .ok (.iload_n 1, 1) := by decide +kernel
theorem d_Mo_hatch_6 : decode b_Mo_hatch 6 = .ok (.imul, 1) := by decide +kernel
theorem d_Mo_hatch_7 : decode b_Mo_hatch 7 = .ok (.iconst 3, 1) := by decide +kernel
theorem d_Mo_hatch_8 : decode b_Mo_hatch 8 = .ok (.iadd, 1) := by decide +kernel
theorem d_Mo_hatch_9 : decode b_Mo_hatch 9 = .ok (.iaload, 1) := by decide +kernel
theorem d_Mo_hatch_10 : decode b_Mo_hatch 10 = .ok (.istore_n 2, 1) := by decide +kernel
theorem d_Mo_hatch_11 : decode b_Mo_hatch 11 = .ok (.aload_n 0, 1) := by decide +kernel
theorem d_Mo_hatch_12 : decode b_Mo_hatch 12 = .ok (.getfield 20, 3) := by decide +kernel
theorem d_Mo_hatch_15 : decode b_Mo_hatch 15 = .ok (.iconst 4, 1) := by decide +kernel
theorem d_Mo_hatch_16 : decode b_Mo_hatch 16 = .ok (.iload_n 1, 1) := by decide +kernel
theorem d_Mo_hatch_17 : decode b_Mo_hatch 17 = .ok (.imul, 1) := by decide +kernel
theorem d_Mo_hatch_18 : decode b_Mo_hatch 18 = .ok (.iconst 2, 1) := by decide +kernel
theorem d_Mo_hatch_19 : decode b_Mo_hatch 19 = .ok (.iadd, 1) := by decide +kernel
theorem d_Mo_hatch_20 : decode b_Mo_hatch 20 = .ok (.iaload, 1) := by decide +kernel
theorem d_Mo_hatch_21 : decode b_Mo_hatch 21 = .ok (.istore_n 3, 1) := by decide +kernel
theorem d_Mo_hatch_22 : decode b_Mo_hatch 22 = .ok (.iload_n 2, 1) := by decide +kernel
theorem d_Mo_hatch_23 : decode b_Mo_hatch 23 = .ok (.ifCond .ne 16, 3) := by decide +kernel
theorem d_Mo_hatch_26 : decode b_Mo_hatch 26 = .ok (.aload_n 0, 1) := by decide +kernel
theorem d_Mo_hatch_27 : decode b_Mo_hatch 27 = .ok (.getfield 33, 3) := by decide +kernel
theorem d_Mo_hatch_30 : decode b_Mo_hatch 30 = .ok (.iconst 4, 1) := by decide +kernel
theorem d_Mo_hatch_31 : decode b_Mo_hatch 31 = .ok (.iload_n 1, 1) := by decide +kernel
theorem d_Mo_hatch_32 : decode b_Mo_hatch 32 = .ok (.imul, 1) := by decide +kernel
theorem d_Mo_hatch_33 : decode b_Mo_hatch 33 = .ok (.iconst 1, 1) := by decide +kernel
theorem d_Mo_hatch_34 : decode b_Mo_hatch 34 = .ok (.iadd, 1) := by decide +kernel
theorem d_Mo_hatch_35 : decode b_Mo_hatch 35 = .ok (.iaload, 1) := by decide +kernel
theorem d_Mo_hatch_36 : decode b_Mo_hatch 36 = .ok (.goto 67, 3) := by decide +kernel
theorem d_Mo_hatch_39 : decode b_Mo_hatch 39 = .ok (.iload_n 2, 1) := by decide +kernel
theorem d_Mo_hatch_40 : decode b_Mo_hatch 40 = .ok (.iconst 1, 1) := by decide +kernel
theorem d_Mo_hatch_41 : decode b_Mo_hatch 41 = .ok (.if_icmp .ne 14, 3) := by decide +kernel
theorem d_Mo_hatch_44 : decode b_Mo_hatch 44 = .ok (.aload_n 0, 1) := by decide +kernel
theorem d_Mo_hatch_45 : decode b_Mo_hatch 45 = .ok (.getfield 33, 3) := by decide +kernel
theorem d_Mo_hatch_48 : decode b_Mo_hatch 48 = .ok (.iconst 4, 1) := by decide +kernel
theorem d_Mo_hatch_49 : decode b_Mo_hatch 49 = .ok (.iload_n 1, 1) := by decide +kernel
theorem d_Mo_hatch_50 : decode b_Mo_hatch 50 = .ok (.imul, 1) := by decide +kernel
theorem d_Mo_hatch_51 : decode b_Mo_hatch 51 = .ok (.iaload, 1) := by decide +kernel
theorem d_Mo_hatch_52 : decode b_Mo_hatch 52 = .ok (.goto 51, 3) := by decide +kernel
theorem d_Mo_hatch_55 : decode b_Mo_hatch 55 = .ok (.iload_n 2, 1) := by decide +kernel
theorem d_Mo_hatch_56 : decode b_Mo_hatch 56 = .ok (.iconst 2, 1) := by decide +kernel
theorem d_Mo_hatch_57 : decode b_Mo_hatch 57 = .ok (.if_icmp .ne 25, 3) := by decide +kernel
theorem d_Mo_hatch_60 : decode b_Mo_hatch 60 = .ok (.aload_n 0, 1) := by decide +kernel
theorem d_Mo_hatch_61 : decode b_Mo_hatch 61 = .ok (.getfield 33, 3) := by decide +kernel
theorem d_Mo_hatch_64 : decode b_Mo_hatch 64 = .ok (.iconst 4, 1) := by decide +kernel
theorem d_Mo_hatch_65 : decode b_Mo_hatch 65 = .ok (.iload_n 1, 1) := by decide +kernel
theorem d_Mo_hatch_66 : decode b_Mo_hatch 66 = .ok (.imul, 1) := by decide +kernel
theorem d_Mo_hatch_67 : decode b_Mo_hatch 67 = .ok (.iaload, 1) := by decide +kernel
theorem d_Mo_hatch_68 : decode b_Mo_hatch 68 = .ok (.aload_n 0, 1) := by decide +kernel
theorem d_Mo_hatch_69 : decode b_Mo_hatch 69 = .ok (.getfield 33, 3) := by decide +kernel
theorem d_Mo_hatch_72 : decode b_Mo_hatch 72 = .ok (.iconst 4, 1) := by decide +kernel
theorem d_Mo_hatch_73 : decode b_Mo_hatch 73 = .ok (.iload_n 1, 1) := by decide +kernel
theorem d_Mo_hatch_74 : decode b_Mo_hatch 74 = .ok (.imul, 1) := by decide +kernel
theorem d_Mo_hatch_75 : decode b_Mo_hatch 75 = .ok (.iconst 1, 1) := by decide +kernel
theorem d_Mo_hatch_76 : decode b_Mo_hatch 76 = .ok (.iadd, 1) := by decide +kernel
theorem d_Mo_hatch_77 : decode b_Mo_hatch 77 = .ok (.iaload, 1) := by decide +kernel
theorem d_Mo_hatch_78 : decode b_Mo_hatch 78 = .ok (.iadd, 1) := by decide +kernel
theorem d_Mo_hatch_79 : decode b_Mo_hatch 79 = .ok (.goto 24, 3) := by decide +kernel
theorem d_Mo_hatch_82 : decode b_Mo_hatch 82 = .ok (.aload_n 0, 1) := by decide +kernel
theorem d_Mo_hatch_83 : decode b_Mo_hatch 83 = .ok (.getfield 33, 3) := by decide +kernel
theorem d_Mo_hatch_86 : decode b_Mo_hatch 86 = .ok (.iconst 4, 1) := by decide +kernel
theorem d_Mo_hatch_87 : decode b_Mo_hatch 87 = .ok (.iload_n 1, 1) := by decide +kernel
theorem d_Mo_hatch_88 : decode b_Mo_hatch 88 = .ok (.imul, 1) := by decide +kernel
theorem d_Mo_hatch_89 : decode b_Mo_hatch 89 = .ok (.iconst 1, 1) := by decide +kernel
theorem d_Mo_hatch_90 : decode b_Mo_hatch 90 = .ok (.iadd, 1) := by decide +kernel
theorem d_Mo_hatch_91 : decode b_Mo_hatch 91 = .ok (.iaload, 1) := by decide +kernel
theorem d_Mo_hatch_92 : decode b_Mo_hatch 92 = .ok (.aload_n 0, 1) := by decide +kernel
theorem d_Mo_hatch_93 : decode b_Mo_hatch 93 = .ok (.getfield 33, 3) := by decide +kernel
theorem d_Mo_hatch_96 : decode b_Mo_hatch 96 = .ok (.iconst 4, 1) := by decide +kernel
theorem d_Mo_hatch_97 : decode b_Mo_hatch 97 = .ok (.iload_n 1, 1) := by decide +kernel
theorem d_Mo_hatch_98 : decode b_Mo_hatch 98 = .ok (.imul, 1) := by decide +kernel
theorem d_Mo_hatch_99 : decode b_Mo_hatch 99 = .ok (.iconst 2, 1) := by decide +kernel
theorem d_Mo_hatch_100 : decode b_Mo_hatch 100 = .ok (.iadd, 1) := by decide +kernel
theorem d_Mo_hatch_101 : decode b_Mo_hatch 101 = .ok (.iaload, 1) := by decide +kernel
theorem d_Mo_hatch_102 : decode b_Mo_hatch 102 = .ok (.isub, 1) := by decide +kernel
theorem d_Mo_hatch_103 : decode b_Mo_hatch 103 = .ok (.istore 4, 2) := by decide +kernel
theorem d_Mo_hatch_105 : decode b_Mo_hatch 105 = .ok (.iload_n 2, 1) := by decide +kernel
theorem d_Mo_hatch_106 : decode b_Mo_hatch 106 = .ok (.ifCond .ne 16, 3) := by decide +kernel
theorem d_Mo_hatch_109 : decode b_Mo_hatch 109 = .ok (.aload_n 0, 1) := by decide +kernel
theorem d_Mo_hatch_110 : decode b_Mo_hatch 110 = .ok (.getfield 33, 3) := by decide +kernel
theorem d_Mo_hatch_113 : decode b_Mo_hatch 113 = .ok (.iconst 4, 1) := by decide +kernel
theorem d_Mo_hatch_114 : decode b_Mo_hatch 114 = .ok (.iload_n 1, 1) := by decide +kernel
theorem d_Mo_hatch_115 : decode b_Mo_hatch 115 = .ok (.imul, 1) := by decide +kernel
theorem d_Mo_hatch_116 : decode b_Mo_hatch 116 = .ok (.iconst 3, 1) := by decide +kernel
theorem d_Mo_hatch_117 : decode b_Mo_hatch 117 = .ok (.iadd, 1) := by decide +kernel
theorem d_Mo_hatch_118 : decode b_Mo_hatch 118 = .ok (.iaload, 1) := by decide +kernel
theorem d_Mo_hatch_119 : decode b_Mo_hatch 119 = .ok (.goto 69, 3) := by decide +kernel
theorem d_Mo_hatch_122 : decode b_Mo_hatch 122 = .ok (.iload_n 2, 1) := by decide +kernel
theorem d_Mo_hatch_123 : decode b_Mo_hatch 123 = .ok (.iconst 1, 1) := by decide +kernel
theorem d_Mo_hatch_124 : decode b_Mo_hatch 124 = .ok (.if_icmp .ne 16, 3) := by decide +kernel
theorem d_Mo_hatch_127 : decode b_Mo_hatch 127 = .ok (.aload_n 0, 1) := by decide +kernel
theorem d_Mo_hatch_128 : decode b_Mo_hatch 128 = .ok (.getfield 33, 3) := by decide +kernel
theorem d_Mo_hatch_131 : decode b_Mo_hatch 131 = .ok (.iconst 4, 1) := by decide +kernel
theorem d_Mo_hatch_132 : decode b_Mo_hatch 132 = .ok (.iload_n 1, 1) := by decide +kernel
theorem d_Mo_hatch_133 : decode b_Mo_hatch 133 = .ok (.imul, 1) := by decide +kernel
theorem d_Mo_hatch_134 : decode b_Mo_hatch 134 = .ok (.iconst 2, 1) := by decide +kernel
theorem d_Mo_hatch_135 : decode b_Mo_hatch 135 = .ok (.iadd, 1) := by decide +kernel
theorem d_Mo_hatch_136 : decode b_Mo_hatch 136 = .ok (.iaload, 1) := by decide +kernel
theorem d_Mo_hatch_137 : decode b_Mo_hatch 137 = .ok (.goto 51, 3) := by decide +kernel
theorem d_Mo_hatch_140 : decode b_Mo_hatch 140 = .ok (.iload_n 2, 1) := by decide +kernel
theorem d_Mo_hatch_141 : decode b_Mo_hatch 141 = .ok (.iconst 2, 1) := by decide +kernel
theorem d_Mo_hatch_142 : decode b_Mo_hatch 142 = .ok (.if_icmp .ne 27, 3) := by decide +kernel
theorem d_Mo_hatch_145 : decode b_Mo_hatch 145 = .ok (.aload_n 0, 1) := by decide +kernel
theorem d_Mo_hatch_146 : decode b_Mo_hatch 146 = .ok (.getfield 33, 3) := by decide +kernel
theorem d_Mo_hatch_149 : decode b_Mo_hatch 149 = .ok (.iconst 4, 1) := by decide +kernel
theorem d_Mo_hatch_150 : decode b_Mo_hatch 150 = .ok (.iload_n 1, 1) := by decide +kernel
theorem d_Mo_hatch_151 : decode b_Mo_hatch 151 = .ok (.imul, 1) := by decide +kernel
theorem d_Mo_hatch_152 : decode b_Mo_hatch 152 = .ok (.iconst 2, 1) := by decide +kernel
theorem d_Mo_hatch_153 : decode b_Mo_hatch 153 = .ok (.iadd, 1) := by decide +kernel
theorem d_Mo_hatch_154 : decode b_Mo_hatch 154 = .ok (.iaload, 1) := by decide +kernel
theorem d_Mo_hatch_155 : decode b_Mo_hatch 155 = .ok (.aload_n 0, 1) := by decide +kernel
theorem d_Mo_hatch_156 : decode b_Mo_hatch 156 = .ok (.getfield 33, 3) := by decide +kernel
theorem d_Mo_hatch_159 : decode b_Mo_hatch 159 = .ok (.iconst 4, 1) := by decide +kernel
theorem d_Mo_hatch_160 : decode b_Mo_hatch 160 = .ok (.iload_n 1, 1) := by decide +kernel
theorem d_Mo_hatch_161 : decode b_Mo_hatch 161 = .ok (.imul, 1) := by decide +kernel
theorem d_Mo_hatch_162 : decode b_Mo_hatch 162 = .ok (.iconst 3, 1) := by decide +kernel
theorem d_Mo_hatch_163 : decode b_Mo_hatch 163 = .ok (.iadd, 1) := by decide +kernel
theorem d_Mo_hatch_164 : decode b_Mo_hatch 164 = .ok (.iaload, 1) := by decide +kernel
theorem d_Mo_hatch_165 : decode b_Mo_hatch 165 = .ok (.iadd, 1) := by decide +kernel
theorem d_Mo_hatch_166 : decode b_Mo_hatch 166 = .ok (.goto 22, 3) := by decide +kernel
theorem d_Mo_hatch_169 : decode b_Mo_hatch 169 = .ok (.aload_n 0, 1) := by decide +kernel
theorem d_Mo_hatch_170 : decode b_Mo_hatch 170 = .ok (.getfield 33, 3) := by decide +kernel
theorem d_Mo_hatch_173 : decode b_Mo_hatch 173 = .ok (.iconst 4, 1) := by decide +kernel
theorem d_Mo_hatch_174 : decode b_Mo_hatch 174 = .ok (.iload_n 1, 1) := by decide +kernel
theorem d_Mo_hatch_175 : decode b_Mo_hatch 175 = .ok (.imul, 1) := by decide +kernel
theorem d_Mo_hatch_176 : decode b_Mo_hatch 176 = .ok (.iconst 3, 1) := by decide +kernel
theorem d_Mo_hatch_177 : decode b_Mo_hatch 177 = .ok (.iadd, 1) := by decide +kernel
theorem d_Mo_hatch_178 : decode b_Mo_hatch 178 = .ok (.iaload, 1) := by decide +kernel
theorem d_Mo_hatch_179 : decode b_Mo_hatch 179 = .ok (.aload_n 0, 1) := by decide +kernel
theorem d_Mo_hatch_180 : decode b_Mo_hatch 180 = .ok (.getfield 33, 3) := by decide +kernel
theorem d_Mo_hatch_183 : decode b_Mo_hatch 183 = .ok (.iconst 4, 1) := by decide +kernel
theorem d_Mo_hatch_184 : decode b_Mo_hatch 184 = .ok (.iload_n 1, 1) := by decide +kernel
theorem d_Mo_hatch_185 : decode b_Mo_hatch 185 = .ok (.imul, 1) := by decide +kernel
theorem d_Mo_hatch_186 : decode b_Mo_hatch 186 = .ok (.iaload, 1) := by decide +kernel
theorem d_Mo_hatch_187 : decode b_Mo_hatch 187 = .ok (.isub, 1) := by decide +kernel
theorem d_Mo_hatch_188 : decode b_Mo_hatch 188 = .ok (.istore 5, 2) := by decide +kernel
theorem d_Mo_hatch_190 : decode b_Mo_hatch 190 = .ok (.iload_n 3, 1) := by decide +kernel
theorem d_Mo_hatch_191 : decode b_Mo_hatch 191 = .ok (.iload 4, 2) := by decide +kernel
theorem d_Mo_hatch_193 : decode b_Mo_hatch 193 = .ok (.iload_n 3, 1) := by decide +kernel
theorem d_Mo_hatch_194 : decode b_Mo_hatch 194 = .ok (.iadd, 1) := by decide +kernel
theorem d_Mo_hatch_195 : decode b_Mo_hatch 195 = .ok (.iconst 1, 1) := by decide +kernel
theorem d_Mo_hatch_196 : decode b_Mo_hatch 196 = .ok (.isub, 1) := by decide +kernel
theorem d_Mo_hatch_197 : decode b_Mo_hatch 197 = .ok (.iload_n 3, 1) := by decide +kernel
theorem d_Mo_hatch_198 : decode b_Mo_hatch 198 = .ok (.invokestatic 168, 3) := by decide +kernel
theorem d_Mo_hatch_201 : decode b_Mo_hatch 201 = .ok (.imul, 1) := by decide +kernel
theorem d_Mo_hatch_202 : decode b_Mo_hatch 202 = .ok (.istore 6, 2) := by decide +kernel
theorem d_Mo_hatch_204 : decode b_Mo_hatch 204 = .ok (.iload 6, 2) := by decide +kernel
theorem d_Mo_hatch_206 : decode b_Mo_hatch 206 = .ok (.iload 5, 2) := by decide +kernel
theorem d_Mo_hatch_208 : decode b_Mo_hatch 208 = .ok (.if_icmp .gt 34, 3) := by decide +kernel
theorem d_Mo_hatch_211 : decode b_Mo_hatch 211 = .ok (.aload_n 0, 1) := by decide +kernel
theorem d_Mo_hatch_212 : decode b_Mo_hatch 212 = .ok (.iload_n 1, 1) := by decide +kernel
theorem d_Mo_hatch_213 : decode b_Mo_hatch 213 = .ok (.iload_n 2, 1) := by decide +kernel
theorem d_Mo_hatch_214 : decode b_Mo_hatch 214 = .ok (.iload 6, 2) := by decide +kernel
theorem d_Mo_hatch_216 : decode b_Mo_hatch 216 = .ok (.iload 6, 2) := by decide +kernel
theorem d_Mo_hatch_218 : decode b_Mo_hatch 218 = .ok (.iload_n 3, 1) := by decide +kernel
theorem d_Mo_hatch_219 : decode b_Mo_hatch 219 = .ok (.idiv, 1) := by decide +kernel
theorem d_Mo_hatch_220 : decode b_Mo_hatch 220 = .ok (.iconst 1, 1) := by decide +kernel
theorem d_Mo_hatch_221 : decode b_Mo_hatch 221 = .ok (.iand, 1) := by decide +kernel
theorem d_Mo_hatch_222 : decode b_Mo_hatch 222 = .ok (.ifCond .ne 7, 3) := by decide +kernel
theorem d_Mo_hatch_225 : decode b_Mo_hatch 225 = .ok (.iconst 1, 1) := by decide +kernel
theorem d_Mo_hatch_226 : decode b_Mo_hatch 226 = .ok (.goto 4, 3) := by decide +kernel
theorem d_Mo_hatch_229 : decode b_Mo_hatch 229 = .ok (.iconst 0, 1) := by decide +kernel
theorem d_Mo_hatch_230 : decode b_Mo_hatch 230 = .ok (.invokevirtual 192, 3) := by decide +kernel
theorem d_Mo_hatch_233 : decode b_Mo_hatch 233 = .ok (.iload 6, 2) := by decide +kernel
theorem d_Mo_hatch_235 : decode b_Mo_hatch 235 = .ok (.iload_n 3, 1) := by decide +kernel
theorem d_Mo_hatch_236 : decode b_Mo_hatch 236 = .ok (.iadd, 1) := by decide +kernel
theorem d_Mo_hatch_237 : decode b_Mo_hatch 237 = .ok (.istore 6, 2) := by decide +kernel
theorem d_Mo_hatch_239 : decode b_Mo_hatch 239 = .ok (.goto (-35), 3) := by decide +kernel
theorem d_Mo_hatch_242 : decode b_Mo_hatch 242 = .ok (.return_, 1) := by decide +kernel
set_option maxHeartbeats 1000000 in
set_option maxRecDepth 100000 in
theorem c_Mo_hatch (F : Nat → Nat → Int) (G : Nat → Int → Int) (sn : Int) (S : PS) (hB : mtB F G sn) (h0 : mtR F G sn S F G []) (hd : 0 ≤ G 245 (4 * sn + 3) ∧ G 245 (4 * sn + 3) ≤ 3) (hsp : 4 ≤ G 245 (4 * sn + 2) ∧ G 245 (4 * sn + 2) ≤ 20) (hb4 : bx4 G sn) (hbx : ∀ x y : Int, hasM G (F 244 12) x y → bxM G sn x y) : cV y_Mo_hatch b_Mo_hatch 7 none 6 150 F G (fun ad => [.ref (ad 244), .int (iI sn)]) (fun F' G' => mtR F G sn S F' G' (hatE (hasM G (F 244 12)) (G 245 (4 * sn + 3)) (G 245 (4 * sn + 2)) (lwM G sn) (hgM G sn))) := by
  have hsn := hB.1
  have hlh := lwM_rng hb4
  have hb5 := hb4
  unfold bx4 at hb5
  have hqa := q_rng (a := -lwM G sn) hsp (by omega)
  have hqb := q_rng (a := hgM G sn) hsp (by omega)
  intro s0 a0 D t ad
  refine g_startV (by decide +kernel) (Nat.le_of_ble_eq_true rfl) (fun p l e R s m args below meth c A ok => ?_)
  show gW p l e R s m args below meth c _ D A 7 (gZ0 s) 0 0 ad 265 (mem ad t F G) 0 [(0, .ref (ad 244)), (1, .int (iI sn))] []
  refine g_aload_n ok d_Mo_hatch_0 rfl 0 rfl ?_
  refine gI_Mo_told ok _ rfl k_992 d_Mo_hatch_1 ?_
  refine g_iconst ok d_Mo_hatch_4 ?_
  refine g_iload_n ok d_Mo_hatch_5 rfl 1 rfl ?_
  refine g_imul ok d_Mo_hatch_6 ?_
  refine g_iconst ok d_Mo_hatch_7 ?_
  refine g_iadd ok d_Mo_hatch_8 ?_
  refine h_iald ok _ a_245 (by omega) d_Mo_hatch_9 ?_
  refine g_istore_n (lv' := [(2, .int (iI (G 245 ((4 * sn) + 3)))), (0, .ref (ad 244)), (1, .int (iI sn))]) ok d_Mo_hatch_10 rfl (by decide) rfl ?_
  refine g_aload_n ok d_Mo_hatch_11 rfl 1 rfl ?_
  refine gI_Mo_told ok _ rfl k_992 d_Mo_hatch_12 ?_
  refine g_iconst ok d_Mo_hatch_15 ?_
  refine g_iload_n ok d_Mo_hatch_16 rfl 2 rfl ?_
  refine g_imul ok d_Mo_hatch_17 ?_
  refine g_iconst ok d_Mo_hatch_18 ?_
  refine g_iadd ok d_Mo_hatch_19 ?_
  refine h_iald ok _ a_245 (by omega) d_Mo_hatch_20 ?_
  refine g_istore_n (lv' := [(3, .int (iI (G 245 ((4 * sn) + 2)))), (2, .int (iI (G 245 ((4 * sn) + 3)))), (0, .ref (ad 244)), (1, .int (iI sn))]) ok d_Mo_hatch_21 rfl (by decide) rfl ?_
  have J_lo : gW p l e R s m args below meth c (MQ below (gQv D A ad 265 (fun ce' => ∃ F' G', ce' = mem ad t F' G' ∧ (fun F' G' => mtR F G sn S F' G' (hatE (hasM G (F 244 12)) (G 245 (4 * sn + 3)) (G 245 (4 * sn + 2)) (lwM G sn) (hgM G sn))) F' G')) args s 0 0 A) D A 7 (gZ0 s) 0 0 ad 265 (mem ad t F G) 103 [(0, .ref (ad 244)), (1, .int (iI sn)), (2, .int (iI (G 245 (4 * sn + 3)))), (3, .int (iI (G 245 (4 * sn + 2))))] [.int (iI (lwM G sn))] := by
    refine g_istore (lv' := [(4, .int (iI (lwM G sn))), (0, .ref (ad 244)), (1, .int (iI sn)), (2, .int (iI (G 245 (4 * sn + 3)))), (3, .int (iI (G 245 (4 * sn + 2))))]) ok d_Mo_hatch_103 (by decide) rfl ?_
    have J_hi : gW p l e R s m args below meth c (MQ below (gQv D A ad 265 (fun ce' => ∃ F' G', ce' = mem ad t F' G' ∧ (fun F' G' => mtR F G sn S F' G' (hatE (hasM G (F 244 12)) (G 245 (4 * sn + 3)) (G 245 (4 * sn + 2)) (lwM G sn) (hgM G sn))) F' G')) args s 0 0 A) D A 7 (gZ0 s) 0 0 ad 265 (mem ad t F G) 188 [(0, .ref (ad 244)), (1, .int (iI sn)), (2, .int (iI (G 245 (4 * sn + 3)))), (3, .int (iI (G 245 (4 * sn + 2)))), (4, .int (iI (lwM G sn)))] [.int (iI (hgM G sn))] := by
      refine g_istore (lv' := [(5, .int (iI (hgM G sn))), (0, .ref (ad 244)), (1, .int (iI sn)), (2, .int (iI (G 245 (4 * sn + 3)))), (3, .int (iI (G 245 (4 * sn + 2)))), (4, .int (iI (lwM G sn)))]) ok d_Mo_hatch_188 (by decide) rfl ?_
      refine g_iload_n ok d_Mo_hatch_190 rfl 4 rfl ?_
      refine g_iload ok d_Mo_hatch_191 5 rfl ?_
      refine g_iload_n ok d_Mo_hatch_193 rfl 4 rfl ?_
      refine g_iadd ok d_Mo_hatch_194 ?_
      refine g_iconst ok d_Mo_hatch_195 ?_
      refine g_isub ok d_Mo_hatch_196 ?_
      refine g_iload_n ok d_Mo_hatch_197 rfl 4 rfl ?_
      refine g_callPS (As := [.int (iI (((lwM G sn) + (G 245 (4 * sn + 2))) - 1)), .int (iI (G 245 (4 * sn + 2)))]) (st := [.int (iI (G 245 (4 * sn + 2)))]) ok (c_Mo_down F G _ _ (by omega) (by omega) s0 a0 D t ad) k_1191 k_11 k_1189 k_1190 q_Mo_down (by decide) (Nat.le_of_ble_eq_true rfl) (by decide) d_Mo_hatch_198 (fun z1 hc1 => ?_)
      subst hc1
      refine g_top (y := -((-lwM G sn) / G 245 (4 * sn + 2))) (ceilq (by omega)) ?_
      refine g_imul ok d_Mo_hatch_201 ?_
      refine g_istore (lv' := [(6, .int (iI ((G 245 (4 * sn + 2)) * (-((-lwM G sn) / G 245 (4 * sn + 2)))))), (5, .int (iI (hgM G sn))), (0, .ref (ad 244)), (1, .int (iI sn)), (2, .int (iI (G 245 (4 * sn + 3)))), (3, .int (iI (G 245 (4 * sn + 2)))), (4, .int (iI (lwM G sn)))]) ok d_Mo_hatch_202 (by decide) rfl ?_
      have L_r : ∀ (n_r : Nat) (fv : Int) (row : Int) (F1 : Nat → Nat → Int) (G1 : Nat → Int → Int), (-((-lwM G sn) / G 245 (4 * sn + 2)) ≤ row ∧ (row ≤ hgM G sn / G 245 (4 * sn + 2) + 1 ∨ row = -((-lwM G sn) / G 245 (4 * sn + 2)))) → (fv = row * G 245 (4 * sn + 2)) → (((hAll (hasM G (F 244 12)) (G 245 (4 * sn + 3)) (G 245 (4 * sn + 2)) (-((-lwM G sn) / G 245 (4 * sn + 2))) (row - -((-lwM G sn) / G 245 (4 * sn + 2))).toNat).length : Int) ≤ 1300 * (row - -((-lwM G sn) / G 245 (4 * sn + 2)))) → (mtR F G sn S F1 G1 (hAll (hasM G (F 244 12)) (G 245 (4 * sn + 3)) (G 245 (4 * sn + 2)) (-((-lwM G sn) / G 245 (4 * sn + 2))) (row - -((-lwM G sn) / G 245 (4 * sn + 2))).toNat)) → (hgM G sn / G 245 (4 * sn + 2) + 5000 - row) < (n_r : Int) → gW p l e R s m args below meth c (MQ below (gQv D A ad 265 (fun ce' => ∃ F' G', ce' = mem ad t F' G' ∧ (fun F' G' => mtR F G sn S F' G' (hatE (hasM G (F 244 12)) (G 245 (4 * sn + 3)) (G 245 (4 * sn + 2)) (lwM G sn) (hgM G sn))) F' G')) args s 0 0 A) D A 7 (gZ) 0 0 ad 265 (mem ad t F1 G1) 204 [(0, .ref (ad 244)), (1, .int (iI sn)), (2, .int (iI (G 245 (4 * sn + 3)))), (3, .int (iI (G 245 (4 * sn + 2)))), (4, .int (iI (lwM G sn))), (5, .int (iI (hgM G sn))), (6, .int (iI fv))] [] := by
        intro n_r
        induction n_r with
        | zero =>
          intro fv row F1 G1 hr hfv hl1 hR1 hm_r
          exact absurd hm_r (by omega)
        | succ n_r ih_r =>
          intro fv row F1 G1 hr hfv hl1 hR1 hm_r
          have hrr := row_rng2 hsp hlh.1 hlh.2 hr.1 hr.2
          refine g_iload ok d_Mo_hatch_204 6 rfl ?_
          refine g_iload ok d_Mo_hatch_206 5 rfl ?_
          refine g_icmp_gt ok 242 d_Mo_hatch_208 (by decide) (by omega) (by omega) (fun h2 => ?_) (fun h2 => ?_)
          · exact g_vret ok d_Mo_hatch_242 ⟨_, _, rfl, hatM_end hr ((Int.ediv_lt_iff_lt_mul (by omega)).mpr (by omega)) hR1⟩
          · have hle : row ≤ hgM G sn / G 245 (4 * sn + 2) := (Int.le_ediv_iff_mul_le (by omega)).mpr (by omega)
            refine g_aload_n ok d_Mo_hatch_211 rfl 0 rfl ?_
            refine g_iload_n ok d_Mo_hatch_212 rfl 1 rfl ?_
            refine g_iload_n ok d_Mo_hatch_213 rfl 2 rfl ?_
            refine g_iload ok d_Mo_hatch_214 6 rfl ?_
            refine g_iload ok d_Mo_hatch_216 6 rfl ?_
            refine g_iload_n ok d_Mo_hatch_218 rfl 3 rfl ?_
            refine g_idiv (z := row) ok (iI_ne0 (by omega)) (by rw [hfv]; exact iI_drow hsp (by omega)) d_Mo_hatch_219 ?_
            refine g_iconst ok d_Mo_hatch_220 ?_
            refine g_iand (z := row % 2) ok (iI_and1 _) d_Mo_hatch_221 ?_
            refine g_if_ne ok 229 d_Mo_hatch_222 (by decide) (by omega) (fun h3 => ?_) (fun h3 => ?_)
            · have hev : ¬ row % 2 = 0 := by omega
              refine g_iconst ok d_Mo_hatch_229 ?_
              refine g_top (y := b2 false) rfl ?_
              refine g_callVV (As := [.int (iI sn), .int (iI (G 245 (4 * sn + 3))), .int (iI fv), .int (iI (b2 false))]) (st := []) ok _ (c_Mo_line F1 G1 F G sn _ _ false S _ _ _ hB hR1 hd (by omega) rfl rfl (by split <;> omega) (by split <;> omega) (fun t z => bxM_ln (hbx _ _ z)) (by omega) s0 a0 D t ad) k_1195 k_11 k_1192 cl_Mo (m_Mo (ad := ad) (t := t) (F := F1) (G := G1) rfl).1 (m_Mo rfl).2 k_1194 s_Mo_line q_Mo_line (by decide) (Nat.le_of_ble_eq_true rfl) (by decide) d_Mo_hatch_230 (fun ce1 hc4 => ?_)
              obtain ⟨F2, G2, rfl, hR2, hl2⟩ := hc4
              rw [hfv] at hR2 hl2
              have hrow : hRow (hasM G (F 244 12)) (G 245 (4 * sn + 3)) (G 245 (4 * sn + 2)) row = hEv (lX (G 245 (4 * sn + 3)) (row * G 245 (4 * sn + 2))) (lY (G 245 (4 * sn + 3)) (row * G 245 (4 * sn + 2))) (hL false (fun p => hasM G (F 244 12) (lX (G 245 (4 * sn + 3)) (row * G 245 (4 * sn + 2)) p) (lY (G 245 (4 * sn + 3)) (row * G 245 (4 * sn + 2)) p))) := by unfold hRow; rw [decide_eq_false hev]
              rw [← hrow] at hR2 hl2
              refine g_iload ok d_Mo_hatch_233 6 rfl ?_
              refine g_iload_n ok d_Mo_hatch_235 rfl 3 rfl ?_
              refine g_iadd ok d_Mo_hatch_236 ?_
              refine g_istore (lv' := [(6, .int (iI (fv + (G 245 (4 * sn + 2))))), (0, .ref (ad 244)), (1, .int (iI sn)), (2, .int (iI (G 245 (4 * sn + 3)))), (3, .int (iI (G 245 (4 * sn + 2)))), (4, .int (iI (lwM G sn))), (5, .int (iI (hgM G sn)))]) ok d_Mo_hatch_237 (by decide) rfl ?_
              refine g_goto ok 204 d_Mo_hatch_239 (by decide) ?_
              refine g_lv [1, 2, 3, 4, 5, 6, 0] rfl ?_
              exact ih_r (fv + (G 245 (4 * sn + 2))) (row + 1) F2 G2 (by omega) (by rw [hfv, Int.add_mul, Int.one_mul]) (by rw [hAll_step hr.1, List.length_append]; omega) (by rw [hAll_step hr.1]; exact hR2) (by omega)
            · have hev : row % 2 = 0 := by omega
              refine g_iconst ok d_Mo_hatch_225 ?_
              refine g_goto ok 230 d_Mo_hatch_226 (by decide) ?_
              refine g_top (y := b2 true) rfl ?_
              refine g_callVV (As := [.int (iI sn), .int (iI (G 245 (4 * sn + 3))), .int (iI fv), .int (iI (b2 true))]) (st := []) ok _ (c_Mo_line F1 G1 F G sn _ _ true S _ _ _ hB hR1 hd (by omega) rfl rfl (by split <;> omega) (by split <;> omega) (fun t z => bxM_ln (hbx _ _ z)) (by omega) s0 a0 D t ad) k_1195 k_11 k_1192 cl_Mo (m_Mo (ad := ad) (t := t) (F := F1) (G := G1) rfl).1 (m_Mo rfl).2 k_1194 s_Mo_line q_Mo_line (by decide) (Nat.le_of_ble_eq_true rfl) (by decide) d_Mo_hatch_230 (fun ce1 hc5 => ?_)
              obtain ⟨F2, G2, rfl, hR2, hl2⟩ := hc5
              rw [hfv] at hR2 hl2
              have hrow : hRow (hasM G (F 244 12)) (G 245 (4 * sn + 3)) (G 245 (4 * sn + 2)) row = hEv (lX (G 245 (4 * sn + 3)) (row * G 245 (4 * sn + 2))) (lY (G 245 (4 * sn + 3)) (row * G 245 (4 * sn + 2))) (hL true (fun p => hasM G (F 244 12) (lX (G 245 (4 * sn + 3)) (row * G 245 (4 * sn + 2)) p) (lY (G 245 (4 * sn + 3)) (row * G 245 (4 * sn + 2)) p))) := by unfold hRow; rw [decide_eq_true hev]
              rw [← hrow] at hR2 hl2
              refine g_iload ok d_Mo_hatch_233 6 rfl ?_
              refine g_iload_n ok d_Mo_hatch_235 rfl 3 rfl ?_
              refine g_iadd ok d_Mo_hatch_236 ?_
              refine g_istore (lv' := [(6, .int (iI (fv + (G 245 (4 * sn + 2))))), (0, .ref (ad 244)), (1, .int (iI sn)), (2, .int (iI (G 245 (4 * sn + 3)))), (3, .int (iI (G 245 (4 * sn + 2)))), (4, .int (iI (lwM G sn))), (5, .int (iI (hgM G sn)))]) ok d_Mo_hatch_237 (by decide) rfl ?_
              refine g_goto ok 204 d_Mo_hatch_239 (by decide) ?_
              refine g_lv [1, 2, 3, 4, 5, 6, 0] rfl ?_
              exact ih_r (fv + (G 245 (4 * sn + 2))) (row + 1) F2 G2 (by omega) (by rw [hfv, Int.add_mul, Int.one_mul]) (by rw [hAll_step hr.1, List.length_append]; omega) (by rw [hAll_step hr.1]; exact hR2) (by omega)
      refine g_z ?_
      refine g_lv [2, 3, 4, 5, 6, 1, 0] rfl ?_
      exact L_r ((hgM G sn / G 245 (4 * sn + 2) + 5000 - (-((-lwM G sn) / G 245 (4 * sn + 2))) : Int).toNat + 1) ((G 245 (4 * sn + 2)) * (-((-lwM G sn) / G 245 (4 * sn + 2)))) (-((-lwM G sn) / G 245 (4 * sn + 2))) F G (by omega) (Int.mul_comm _ _) (by rw [Int.sub_self]; show (0 : Int) ≤ 1300 * 0; decide) (by rw [Int.sub_self]; exact h0) (by omega)
    refine g_iload_n ok d_Mo_hatch_105 rfl 3 rfl ?_
    refine g_if_ne ok 122 d_Mo_hatch_106 (by decide) (by omega) (fun h6 => ?_) (fun h6 => ?_)
    · refine g_iload_n ok d_Mo_hatch_122 rfl 3 rfl ?_
      refine g_iconst ok d_Mo_hatch_123 ?_
      refine g_icmp_ne ok 140 d_Mo_hatch_124 (by decide) (by omega) (by omega) (fun h7 => ?_) (fun h7 => ?_)
      · refine g_iload_n ok d_Mo_hatch_140 rfl 3 rfl ?_
        refine g_iconst ok d_Mo_hatch_141 ?_
        refine g_icmp_ne ok 169 d_Mo_hatch_142 (by decide) (by omega) (by omega) (fun h8 => ?_) (fun h8 => ?_)
        · refine g_aload_n ok d_Mo_hatch_169 rfl 1 rfl ?_
          refine gI_Mo_box ok _ rfl k_996 d_Mo_hatch_170 ?_
          refine g_iconst ok d_Mo_hatch_173 ?_
          refine g_iload_n ok d_Mo_hatch_174 rfl 2 rfl ?_
          refine g_imul ok d_Mo_hatch_175 ?_
          refine g_iconst ok d_Mo_hatch_176 ?_
          refine g_iadd ok d_Mo_hatch_177 ?_
          refine h_iald ok _ a_249 (by omega) d_Mo_hatch_178 ?_
          refine g_aload_n ok d_Mo_hatch_179 rfl 1 rfl ?_
          refine gI_Mo_box ok _ rfl k_996 d_Mo_hatch_180 ?_
          refine g_iconst ok d_Mo_hatch_183 ?_
          refine g_iload_n ok d_Mo_hatch_184 rfl 2 rfl ?_
          refine g_imul ok d_Mo_hatch_185 ?_
          refine h_iald ok _ a_249 (by omega) d_Mo_hatch_186 ?_
          refine g_isub ok d_Mo_hatch_187 ?_
          refine g_top (y := hgM G sn) (by unfold hgM; rw [if_neg (by omega), if_neg (by omega), if_neg (by omega)]) ?_
          refine g_lv [1, 2, 3, 4, 0] rfl ?_
          exact J_hi  
        · refine g_aload_n ok d_Mo_hatch_145 rfl 1 rfl ?_
          refine gI_Mo_box ok _ rfl k_996 d_Mo_hatch_146 ?_
          refine g_iconst ok d_Mo_hatch_149 ?_
          refine g_iload_n ok d_Mo_hatch_150 rfl 2 rfl ?_
          refine g_imul ok d_Mo_hatch_151 ?_
          refine g_iconst ok d_Mo_hatch_152 ?_
          refine g_iadd ok d_Mo_hatch_153 ?_
          refine h_iald ok _ a_249 (by omega) d_Mo_hatch_154 ?_
          refine g_aload_n ok d_Mo_hatch_155 rfl 1 rfl ?_
          refine gI_Mo_box ok _ rfl k_996 d_Mo_hatch_156 ?_
          refine g_iconst ok d_Mo_hatch_159 ?_
          refine g_iload_n ok d_Mo_hatch_160 rfl 2 rfl ?_
          refine g_imul ok d_Mo_hatch_161 ?_
          refine g_iconst ok d_Mo_hatch_162 ?_
          refine g_iadd ok d_Mo_hatch_163 ?_
          refine h_iald ok _ a_249 (by omega) d_Mo_hatch_164 ?_
          refine g_iadd ok d_Mo_hatch_165 ?_
          refine g_goto ok 188 d_Mo_hatch_166 (by decide) ?_
          refine g_top (y := hgM G sn) (by unfold hgM; rw [if_neg (by omega), if_neg (by omega), if_pos (by omega)]) ?_
          refine g_lv [1, 2, 3, 4, 0] rfl ?_
          exact J_hi  
      · refine g_aload_n ok d_Mo_hatch_127 rfl 1 rfl ?_
        refine gI_Mo_box ok _ rfl k_996 d_Mo_hatch_128 ?_
        refine g_iconst ok d_Mo_hatch_131 ?_
        refine g_iload_n ok d_Mo_hatch_132 rfl 2 rfl ?_
        refine g_imul ok d_Mo_hatch_133 ?_
        refine g_iconst ok d_Mo_hatch_134 ?_
        refine g_iadd ok d_Mo_hatch_135 ?_
        refine h_iald ok _ a_249 (by omega) d_Mo_hatch_136 ?_
        refine g_goto ok 188 d_Mo_hatch_137 (by decide) ?_
        refine g_top (y := hgM G sn) (by unfold hgM; rw [if_neg (by omega), if_pos (by omega)]) ?_
        refine g_lv [1, 2, 3, 4, 0] rfl ?_
        exact J_hi  
    · refine g_aload_n ok d_Mo_hatch_109 rfl 1 rfl ?_
      refine gI_Mo_box ok _ rfl k_996 d_Mo_hatch_110 ?_
      refine g_iconst ok d_Mo_hatch_113 ?_
      refine g_iload_n ok d_Mo_hatch_114 rfl 2 rfl ?_
      refine g_imul ok d_Mo_hatch_115 ?_
      refine g_iconst ok d_Mo_hatch_116 ?_
      refine g_iadd ok d_Mo_hatch_117 ?_
      refine h_iald ok _ a_249 (by omega) d_Mo_hatch_118 ?_
      refine g_goto ok 188 d_Mo_hatch_119 (by decide) ?_
      refine g_top (y := hgM G sn) (by unfold hgM; rw [if_pos (by omega)]) ?_
      refine g_lv [1, 2, 3, 4, 0] rfl ?_
      exact J_hi  
  refine g_iload_n ok d_Mo_hatch_22 rfl 1 rfl ?_
  refine g_if_ne ok 39 d_Mo_hatch_23 (by decide) (by omega) (fun h9 => ?_) (fun h9 => ?_)
  · refine g_iload_n ok d_Mo_hatch_39 rfl 1 rfl ?_
    refine g_iconst ok d_Mo_hatch_40 ?_
    refine g_icmp_ne ok 55 d_Mo_hatch_41 (by decide) (by omega) (by omega) (fun h10 => ?_) (fun h10 => ?_)
    · refine g_iload_n ok d_Mo_hatch_55 rfl 1 rfl ?_
      refine g_iconst ok d_Mo_hatch_56 ?_
      refine g_icmp_ne ok 82 d_Mo_hatch_57 (by decide) (by omega) (by omega) (fun h11 => ?_) (fun h11 => ?_)
      · refine g_aload_n ok d_Mo_hatch_82 rfl 2 rfl ?_
        refine gI_Mo_box ok _ rfl k_996 d_Mo_hatch_83 ?_
        refine g_iconst ok d_Mo_hatch_86 ?_
        refine g_iload_n ok d_Mo_hatch_87 rfl 3 rfl ?_
        refine g_imul ok d_Mo_hatch_88 ?_
        refine g_iconst ok d_Mo_hatch_89 ?_
        refine g_iadd ok d_Mo_hatch_90 ?_
        refine h_iald ok _ a_249 (by omega) d_Mo_hatch_91 ?_
        refine g_aload_n ok d_Mo_hatch_92 rfl 2 rfl ?_
        refine gI_Mo_box ok _ rfl k_996 d_Mo_hatch_93 ?_
        refine g_iconst ok d_Mo_hatch_96 ?_
        refine g_iload_n ok d_Mo_hatch_97 rfl 3 rfl ?_
        refine g_imul ok d_Mo_hatch_98 ?_
        refine g_iconst ok d_Mo_hatch_99 ?_
        refine g_iadd ok d_Mo_hatch_100 ?_
        refine h_iald ok _ a_249 (by omega) d_Mo_hatch_101 ?_
        refine g_isub ok d_Mo_hatch_102 ?_
        refine g_top (y := lwM G sn) (by unfold lwM; rw [if_neg (by omega), if_neg (by omega), if_neg (by omega)]) ?_
        refine g_lv [2, 3, 1, 0] rfl ?_
        exact J_lo  
      · refine g_aload_n ok d_Mo_hatch_60 rfl 2 rfl ?_
        refine gI_Mo_box ok _ rfl k_996 d_Mo_hatch_61 ?_
        refine g_iconst ok d_Mo_hatch_64 ?_
        refine g_iload_n ok d_Mo_hatch_65 rfl 3 rfl ?_
        refine g_imul ok d_Mo_hatch_66 ?_
        refine h_iald ok _ a_249 (by omega) d_Mo_hatch_67 ?_
        refine g_aload_n ok d_Mo_hatch_68 rfl 2 rfl ?_
        refine gI_Mo_box ok _ rfl k_996 d_Mo_hatch_69 ?_
        refine g_iconst ok d_Mo_hatch_72 ?_
        refine g_iload_n ok d_Mo_hatch_73 rfl 3 rfl ?_
        refine g_imul ok d_Mo_hatch_74 ?_
        refine g_iconst ok d_Mo_hatch_75 ?_
        refine g_iadd ok d_Mo_hatch_76 ?_
        refine h_iald ok _ a_249 (by omega) d_Mo_hatch_77 ?_
        refine g_iadd ok d_Mo_hatch_78 ?_
        refine g_goto ok 103 d_Mo_hatch_79 (by decide) ?_
        refine g_top (y := lwM G sn) (by unfold lwM; rw [if_neg (by omega), if_neg (by omega), if_pos (by omega)]) ?_
        refine g_lv [2, 3, 1, 0] rfl ?_
        exact J_lo  
    · refine g_aload_n ok d_Mo_hatch_44 rfl 2 rfl ?_
      refine gI_Mo_box ok _ rfl k_996 d_Mo_hatch_45 ?_
      refine g_iconst ok d_Mo_hatch_48 ?_
      refine g_iload_n ok d_Mo_hatch_49 rfl 3 rfl ?_
      refine g_imul ok d_Mo_hatch_50 ?_
      refine h_iald ok _ a_249 (by omega) d_Mo_hatch_51 ?_
      refine g_goto ok 103 d_Mo_hatch_52 (by decide) ?_
      refine g_top (y := lwM G sn) (by unfold lwM; rw [if_neg (by omega), if_pos (by omega)]) ?_
      refine g_lv [2, 3, 1, 0] rfl ?_
      exact J_lo  
  · refine g_aload_n ok d_Mo_hatch_26 rfl 2 rfl ?_
    refine gI_Mo_box ok _ rfl k_996 d_Mo_hatch_27 ?_
    refine g_iconst ok d_Mo_hatch_30 ?_
    refine g_iload_n ok d_Mo_hatch_31 rfl 3 rfl ?_
    refine g_imul ok d_Mo_hatch_32 ?_
    refine g_iconst ok d_Mo_hatch_33 ?_
    refine g_iadd ok d_Mo_hatch_34 ?_
    refine h_iald ok _ a_249 (by omega) d_Mo_hatch_35 ?_
    refine g_goto ok 103 d_Mo_hatch_36 (by decide) ?_
    refine g_top (y := lwM G sn) (by unfold lwM; rw [if_pos (by omega)]) ?_
    refine g_lv [2, 3, 1, 0] rfl ?_
    exact J_lo  
noncomputable def runsM (has : Int → Int → Prop) (G : Nat → Int → Int) (sn : Int) : List Ev := if G 245 (4 * sn + 1) = 0 then hatE has (G 245 (4 * sn + 3)) (G 245 (4 * sn + 2)) (lwM G sn) (hgM G sn) else if G 245 (4 * sn + 1) = 1 then satE (mX0 G 247 sn) (mX0 G 248 sn) (mX1 G 247 sn) (mX1 G 248 sn) (G 245 (4 * sn + 2)) (G 246 (4 * sn)) else outM G sn 4
theorem runsM_cong {has : Int → Int → Prop} {G G1 : Nat → Int → Int} {sn : Int} (h : ∀ a, a ≤ 250 → G1 a = G a) : runsM has G1 sn = runsM has G sn := by
  unfold runsM lwM hgM mX0 mX1 outM mXr mYr
  rw [h 245 (by decide), h 246 (by decide), h 247 (by decide), h 248 (by decide), h 249 (by decide)]
/-- a shape of the reference that is whole -/
def mSh (G : Nat → Int → Int) (sn : Int) : Prop := (0 ≤ sn ∧ sn ≤ 9) ∧ mOk G sn ∧ mPlS G sn ∧ ((0 ≤ G 245 (4 * sn) ∧ G 245 (4 * sn) ≤ 7) ∧ (4 ≤ G 245 (4 * sn + 2) ∧ G 245 (4 * sn + 2) ≤ 20) ∧ (0 ≤ G 245 (4 * sn + 3) ∧ G 245 (4 * sn + 3) ≤ 3)) ∧ bx4 G sn ∧ (G 245 (4 * sn + 1) = 1 → 2 ≤ G 246 (4 * sn) ∧ G 246 (4 * sn) ≤ 16 ∧ G 246 (4 * sn + 1) = G 246 (4 * sn)) ∧ ∀ Ge, mEdges G sn Ge → ∀ x y : Int, hasM Ge (oM G sn 4) x y → bxM G sn x y
theorem mSh_cong {G G1 : Nat → Int → Int} {sn : Int} (h : ∀ a, a ≤ 250 → G1 a = G a) (hS : mSh G sn) : (0 ≤ sn ∧ sn ≤ 9) ∧ bx4 G1 sn ∧ ((0 ≤ G1 245 (4 * sn) ∧ G1 245 (4 * sn) ≤ 7) ∧ (4 ≤ G1 245 (4 * sn + 2) ∧ G1 245 (4 * sn + 2) ≤ 20) ∧ (0 ≤ G1 245 (4 * sn + 3) ∧ G1 245 (4 * sn + 3) ≤ 3)) := by
  obtain ⟨h1, -, -, h4, h5, -⟩ := hS
  refine ⟨h1, ?_, ?_⟩
  · unfold bx4 at h5 ⊢
    rw [h 249 (by decide)]
    exact h5
  · rw [h 245 (by decide)]
    exact h4
theorem sh_out {G : Nat → Int → Int} {sn : Int} (hS : mSh G sn) (hf : ¬ G 245 (4 * sn + 1) = 1) : (∀ r : Int, 0 ≤ r → r < 4 → 0 ≤ G 246 (4 * sn + r) ∧ G 246 (4 * sn + r) ≤ 24) ∧ ∀ r i : Int, 0 ≤ r → r < 4 → 0 ≤ i → i < G 246 (4 * sn + r) → inR (G 247 (96 * sn + 24 * r + i)) (G 248 (96 * sn + 24 * r + i)) := by
  obtain ⟨h1, h2, h3, -⟩ := hS
  refine ⟨h2.2.1, fun r i q1 q2 q3 q4 => ?_⟩
  have z := h3 r.toNat i (by omega) q3 (by unfold mSz; rw [if_neg hf, show ((r.toNat : Nat) : Int) = r by omega]; exact q4)
  unfold mAt at z
  rw [if_neg hf, show ((r.toNat : Nat) : Int) = r by omega] at z
  exact z
theorem sh_sat {G : Nat → Int → Int} {sn : Int} (hS : mSh G sn) (hf : G 245 (4 * sn + 1) = 1) : (∀ i : Int, 0 ≤ i → i < G 246 (4 * sn) → inR (mX0 G 247 sn i) (mX0 G 248 sn i)) ∧ ∀ i : Int, 0 ≤ i → i < G 246 (4 * sn) → inR (mX1 G 247 sn i) (mX1 G 248 sn i) := by
  obtain ⟨h1, h2, h3, h4, h5, h6, h7⟩ := hS
  have hn := h6 hf
  refine ⟨fun i q1 q2 => ?_, fun i q1 q2 => ?_⟩
  · have z := h3 0 i (by decide) q1 (by unfold mSz; rw [if_pos hf, if_pos (show ((0 : Nat) : Int) = 0 from rfl)]; omega)
    unfold mAt mRc at z
    rw [if_pos hf, if_pos q2] at z
    exact z
  · have z := h3 0 (2 * G 246 (4 * sn) - 1 - i) (by decide) (by omega) (by unfold mSz; rw [if_pos hf, if_pos (show ((0 : Nat) : Int) = 0 from rfl)]; omega)
    unfold mAt mRc at z
    rw [if_pos hf, if_neg (by omega), show 96 * sn + 24 + 2 * G 246 (4 * sn) - 1 - (2 * G 246 (4 * sn) - 1 - i) = 96 * sn + 24 + i by omega] at z
    exact z
theorem d_Mo_runsOf_0 : decode b_Mo_runsOf 0 = .ok (.aload_n 0, 1) := by decide +kernel
theorem d_Mo_runsOf_1 : decode b_Mo_runsOf 1 = .ok (.iload_n 2, 1) := by decide +kernel
theorem d_Mo_runsOf_2 : decode b_Mo_runsOf 2 = .ok (.putfield 91, 3) := by decide +kernel
theorem d_Mo_runsOf_5 : decode b_Mo_runsOf 5 = .ok (.aload_n 0, 1) := by decide +kernel
theorem d_Mo_runsOf_6 : decode b_Mo_runsOf 6 = .ok (.iconst 0, 1) := by decide +kernel
theorem d_Mo_runsOf_7 : decode b_Mo_runsOf 7 = .ok (.putfield 94, 3) := by decide +kernel
theorem d_Mo_runsOf_10 : decode b_Mo_runsOf 10 = .ok (.aload_n 0, 1) := by decide +kernel
theorem d_Mo_runsOf_11 : decode b_Mo_runsOf 11 = .ok (.iconst 0, 1) := by decide +kernel
theorem d_Mo_runsOf_12 : decode b_Mo_runsOf 12 = .ok (.putfield 97, 3) := by decide +kernel
theorem d_Mo_runsOf_15 : decode b_Mo_runsOf 15 = .ok (.aload_n 0, 1) := by decide +kernel
theorem d_Mo_runsOf_16 : decode b_Mo_runsOf 16 = .ok (.iload_n 1, 1) := by decide +kernel
theorem d_Mo_runsOf_17 : decode b_Mo_runsOf 17 = .ok (.invokevirtual 152, 3) := by decide +kernel
theorem d_Mo_runsOf_20 : decode b_Mo_runsOf 20 = .ok (.aload_n 0, 1) := by decide +kernel
theorem d_Mo_runsOf_21 : decode b_Mo_runsOf 21 = .ok (.getfield 20, 3) := by decide +kernel
theorem d_Mo_runsOf_24 : decode b_Mo_runsOf 24 = .ok (.iconst 4, 1) := by decide +kernel
theorem d_Mo_runsOf_25 : decode b_Mo_runsOf 25 = .ok (.iload_n 1, 1) := by decide +kernel
theorem d_Mo_runsOf_26 : decode b_Mo_runsOf 26 = .ok (.imul, 1) := by decide +kernel
theorem d_Mo_runsOf_27 : decode b_Mo_runsOf 27 = .ok (.iconst 1, 1) := by decide +kernel
theorem d_Mo_runsOf_28 : decode b_Mo_runsOf 28 = .ok (.iadd, 1) := by decide +kernel
theorem d_Mo_runsOf_29 : decode b_Mo_runsOf 29 = .ok (.iaload, 1) := by decide +kernel
theorem d_Mo_runsOf_30 : decode b_Mo_runsOf 30 = .ok (.ifCond .ne 11, 3) := by decide +kernel
theorem d_Mo_runsOf_33 : decode b_Mo_runsOf 33 = .ok (.aload_n 0, 1) := by decide +kernel
theorem d_Mo_runsOf_34 : decode b_Mo_runsOf 34 = .ok (.iload_n 1, 1) := by decide +kernel
theorem d_Mo_runsOf_35 : decode b_Mo_runsOf 35 = .ok (.invokevirtual 205, 3) := by decide +kernel
theorem d_Mo_runsOf_38 : decode b_Mo_runsOf 38 = .ok (.goto 30, 3) := by decide +kernel
theorem d_Mo_runsOf_41 : decode b_Mo_runsOf 41 = .ok (.aload_n 0, 1) := by decide +kernel
theorem d_Mo_runsOf_42 : decode b_Mo_runsOf 42 = .ok (.getfield 20, 3) := by decide +kernel
theorem d_Mo_runsOf_45 : decode b_Mo_runsOf 45 = .ok (.iconst 4, 1) := by decide +kernel
theorem d_Mo_runsOf_46 : decode b_Mo_runsOf 46 = .ok (.iload_n 1, 1) := by decide +kernel
theorem d_Mo_runsOf_47 : decode b_Mo_runsOf 47 = .ok (.imul, 1) := by decide +kernel
theorem d_Mo_runsOf_48 : decode b_Mo_runsOf 48 = .ok (.iconst 1, 1) := by decide +kernel
theorem d_Mo_runsOf_49 : decode b_Mo_runsOf 49 = .ok (.iadd, 1) := by decide +kernel
theorem d_Mo_runsOf_50 : decode b_Mo_runsOf 50 = .ok (.iaload, 1) := by decide +kernel
theorem d_Mo_runsOf_51 : decode b_Mo_runsOf 51 = .ok (.iconst 1, 1) := by decide +kernel
theorem d_Mo_runsOf_52 : decode b_Mo_runsOf 52 = .ok (.if_icmp .ne 11, 3) := by decide +kernel
theorem d_Mo_runsOf_55 : decode b_Mo_runsOf 55 = .ok (.aload_n 0, 1) := by decide +kernel
theorem d_Mo_runsOf_56 : decode b_Mo_runsOf 56 = .ok (.iload_n 1, 1) := by decide +kernel
theorem d_Mo_runsOf_57 : decode b_Mo_runsOf 57 = .ok (.invokevirtual 208, 3) := by decide +kernel
theorem d_Mo_runsOf_60 : decode b_Mo_runsOf 60 = .ok (.goto 8, 3) := by decide +kernel
theorem d_Mo_runsOf_63 : decode b_Mo_runsOf 63 = .ok (.aload_n 0, 1) := by decide +kernel
theorem d_Mo_runsOf_64 : decode b_Mo_runsOf 64 = .ok (.iload_n 1, 1) := by decide +kernel
theorem d_Mo_runsOf_65 : decode b_Mo_runsOf 65 = .ok (.invokevirtual 211, 3) := by decide +kernel
theorem d_Mo_runsOf_68 : decode b_Mo_runsOf 68 = .ok (.return_, 1) := by decide +kernel
set_option maxHeartbeats 1000000 in
set_option maxRecDepth 100000 in
theorem c_Mo_runsOf (F : Nat → Nat → Int) (G : Nat → Int → Int) (sn : Int) (b : Bool) (S : PS) (hS : mSh G sn) (hmd : b = true → mdR F G S ∧ S.2.2.2.length ≤ 4011) : cV y_Mo_runsOf b_Mo_runsOf 3 none 7 176 F G (fun ad => [.ref (ad 244), .int (iI sn), .int (iI (b2 b))]) (fun F' G' => ∃ Fe Ge, Fe = (fU (fU (fU (fU F 244 26 (b2 b)) 244 27 0) 244 28 0) 244 12 (oM G sn 4)) ∧ mEdges G sn Ge ∧ mtR Fe Ge sn S F' G' (runsM (hasM Ge (oM G sn 4)) G sn)) := by
  have hsn := hS.1
  have hbb := b2_rng b
  intro s0 a0 D t ad
  refine g_startV (by decide +kernel) (Nat.le_of_ble_eq_true rfl) (fun p l e R s m args below meth c A ok => ?_)
  show gW p l e R s m args below meth c _ D A 3 (gZ0 s) 0 0 ad 265 (mem ad t F G) 0 [(0, .ref (ad 244)), (1, .int (iI sn)), (2, .int (iI (b2 b)))] []
  refine g_aload_n ok d_Mo_runsOf_0 rfl 0 rfl ?_
  refine g_iload_n ok d_Mo_runsOf_1 rfl 2 rfl ?_
  refine pI_Mo_stitching ok _ rfl k_1015 (hbb) d_Mo_runsOf_2 ?_
  refine g_aload_n ok d_Mo_runsOf_5 rfl 0 rfl ?_
  refine g_iconst ok d_Mo_runsOf_6 ?_
  refine pI_Mo_runs ok _ rfl k_1016 d_Mo_runsOf_7 ?_
  refine g_aload_n ok d_Mo_runsOf_10 rfl 0 rfl ?_
  refine g_iconst ok d_Mo_runsOf_11 ?_
  refine pI_Mo_places ok _ rfl k_1017 d_Mo_runsOf_12 ?_
  refine g_aload_n ok d_Mo_runsOf_15 rfl 0 rfl ?_
  refine g_iload_n ok d_Mo_runsOf_16 rfl 1 rfl ?_
  refine g_callVV (As := [.int (iI sn)]) (st := []) ok _ (c_Mo_edgesOf (fU (fU (fU F 244 26 (b2 b)) 244 27 0) 244 28 0) G _ hS.2.1 s0 a0 D t ad) k_1134 k_11 k_1131 cl_Mo (m_Mo (ad := ad) (t := t) (F := (fU (fU (fU F 244 26 (b2 b)) 244 27 0) 244 28 0)) (G := G) rfl).1 (m_Mo rfl).2 k_1133 s_Mo_edgesOf q_Mo_edgesOf (by decide) (Nat.le_of_ble_eq_true rfl) (by decide) d_Mo_runsOf_17 (fun ce1 hc1 => ?_)
  obtain ⟨F1, G1, rfl, hF1, hE1⟩ := hc1
  rw [hF1]
  have hE : mEdges G sn G1 := hE1
  have hca : ∀ a, a ≤ 250 → G1 a = G a := fun a z => hE1.1 a (by omega)
  have hc := mSh_cong hca hS
  obtain ⟨Fe, hFe⟩ : ∃ Fe, Fe = (fU (fU (fU (fU F 244 26 (b2 b)) 244 27 0) 244 28 0) 244 12 (oM G sn 4)) := ⟨_, rfl⟩
  rw [← hFe]
  have e12 : Fe 244 12 = oM G sn 4 := by rw [hFe, fU_hit]
  have e26 : Fe 244 26 = b2 b := by rw [hFe, fU_ja (by decide), fU_ja (by decide), fU_ja (by decide), fU_hit]
  have hoM := oM_100 hS.2.1
  have hB : mtB Fe G1 sn := ⟨hS.1, by rw [e12]; exact hoM, by rw [e12]; exact mE_of hS.2.1 hS.2.2.1 hE, by rw [e26]; exact b2_rng b, hc.2.2.1⟩
  have hM0 : mtR Fe G1 sn S Fe G1 [] := ⟨by rw [hFe, fU_ja (by decide), fU_ja (by decide), fU_hit]; rfl, by rw [hFe, fU_ja (by decide), fU_hit]; rfl, Or.inl rfl, fun z => ⟨mdR_up (hmd (by rw [e26] at z; exact b2_t (by omega))).1 (by rw [hFe, fU_ja (by decide), fU_ja (by decide), fU_ja (by decide), fU_ja (by decide)]) (by rw [hFe, fU_ja (by decide), fU_ja (by decide), fU_ja (by decide), fU_ja (by decide)]) (by rw [hFe, fU_ja (by decide), fU_ja (by decide), fU_ja (by decide), fU_ja (by decide)]) (by rw [hFe, fU_ja (by decide), fU_ja (by decide), fU_ja (by decide), fU_ja (by decide)]) (fun a z1 z2 => hE1.1 a (by omega)), (hmd (by rw [e26] at z; exact b2_t (by omega))).2⟩, fun _ _ _ => rfl, fun _ _ _ => rfl⟩
  have hf245 : G1 245 = G 245 := hca 245 (by decide)
  have hflr := hS.2.1.2.2.1
  refine g_aload_n ok d_Mo_runsOf_20 rfl 0 rfl ?_
  refine gI_Mo_told ok _ rfl k_992 d_Mo_runsOf_21 ?_
  refine g_iconst ok d_Mo_runsOf_24 ?_
  refine g_iload_n ok d_Mo_runsOf_25 rfl 1 rfl ?_
  refine g_imul ok d_Mo_runsOf_26 ?_
  refine g_iconst ok d_Mo_runsOf_27 ?_
  refine g_iadd ok d_Mo_runsOf_28 ?_
  refine h_iald ok _ a_245 (by omega) d_Mo_runsOf_29 ?_
  have hfl1 : 0 ≤ G1 245 (4 * sn + 1) ∧ G1 245 (4 * sn + 1) ≤ 2 := by rw [hf245]; exact hflr
  refine g_if_ne ok 41 d_Mo_runsOf_30 (by decide) (by omega) (fun h2 => ?_) (fun h2 => ?_)
  · refine g_aload_n ok d_Mo_runsOf_41 rfl 0 rfl ?_
    refine gI_Mo_told ok _ rfl k_992 d_Mo_runsOf_42 ?_
    refine g_iconst ok d_Mo_runsOf_45 ?_
    refine g_iload_n ok d_Mo_runsOf_46 rfl 1 rfl ?_
    refine g_imul ok d_Mo_runsOf_47 ?_
    refine g_iconst ok d_Mo_runsOf_48 ?_
    refine g_iadd ok d_Mo_runsOf_49 ?_
    refine h_iald ok _ a_245 (by omega) d_Mo_runsOf_50 ?_
    refine g_iconst ok d_Mo_runsOf_51 ?_
    refine g_icmp_ne ok 63 d_Mo_runsOf_52 (by decide) (by omega) (by omega) (fun h3 => ?_) (fun h3 => ?_)
    · refine g_aload_n ok d_Mo_runsOf_63 rfl 0 rfl ?_
      refine g_iload_n ok d_Mo_runsOf_64 rfl 1 rfl ?_
      refine g_callVV (As := [.int (iI sn)]) (st := []) ok _ (c_Mo_outline Fe G1 sn S hB hM0 (by rw [hca 246 (by decide)]; exact (sh_out hS (by rw [← hf245]; omega)).1) (by rw [hca 246 (by decide), hca 247 (by decide), hca 248 (by decide)]; exact (sh_out hS (by rw [← hf245]; omega)).2) s0 a0 D t ad) k_1240 k_11 k_1237 cl_Mo (m_Mo (ad := ad) (t := t) (F := Fe) (G := G1) rfl).1 (m_Mo rfl).2 k_1239 s_Mo_outline q_Mo_outline (by decide) (Nat.le_of_ble_eq_true rfl) (by decide) d_Mo_runsOf_65 (fun ce1 hc4 => ?_)
      obtain ⟨F2, G2, rfl, hR2⟩ := hc4
      have hR3 : mtR Fe G1 sn S F2 G2 (runsM (hasM G1 (oM G sn 4)) G sn) := by rw [← runsM_cong (G1 := G1) hca]; unfold runsM; rw [if_neg (by omega), if_neg (by omega)]; exact hR2
      exact g_vret ok d_Mo_runsOf_68 ⟨_, _, rfl, Fe, G1, rfl, hE, hR3⟩
    · refine g_aload_n ok d_Mo_runsOf_55 rfl 0 rfl ?_
      refine g_iload_n ok d_Mo_runsOf_56 rfl 1 rfl ?_
      refine g_callVV (As := [.int (iI sn)]) (st := []) ok _ (c_Mo_satin Fe G1 sn S hB hM0 (by rw [hca 246 (by decide)]; have z := hS.2.2.2.2.2.1 (by rw [← hf245]; omega); omega) hc.2.2.2.1 (by rw [hca 246 (by decide)]; unfold mX0; rw [hca 247 (by decide), hca 248 (by decide)]; exact (sh_sat hS (by rw [← hf245]; omega)).1) (by rw [hca 246 (by decide)]; unfold mX1; rw [hca 247 (by decide), hca 248 (by decide)]; exact (sh_sat hS (by rw [← hf245]; omega)).2) s0 a0 D t ad) k_1236 k_11 k_1233 cl_Mo (m_Mo (ad := ad) (t := t) (F := Fe) (G := G1) rfl).1 (m_Mo rfl).2 k_1235 s_Mo_satin q_Mo_satin (by decide) (Nat.le_of_ble_eq_true rfl) (by decide) d_Mo_runsOf_57 (fun ce1 hc5 => ?_)
      obtain ⟨F2, G2, rfl, hR2⟩ := hc5
      have hR3 : mtR Fe G1 sn S F2 G2 (runsM (hasM G1 (oM G sn 4)) G sn) := by rw [← runsM_cong (G1 := G1) hca]; unfold runsM; rw [if_neg (by omega), if_pos (by omega)]; exact hR2
      refine g_goto ok 68 d_Mo_runsOf_60 (by decide) ?_
      exact g_vret ok d_Mo_runsOf_68 ⟨_, _, rfl, Fe, G1, rfl, hE, hR3⟩
  · refine g_aload_n ok d_Mo_runsOf_33 rfl 0 rfl ?_
    refine g_iload_n ok d_Mo_runsOf_34 rfl 1 rfl ?_
    refine g_callVV (As := [.int (iI sn)]) (st := []) ok _ (c_Mo_hatch Fe G1 sn S hB hM0 hc.2.2.2.2 hc.2.2.2.1 hc.2.1 (fun x y z => by have y2 := hS.2.2.2.2.2.2 G1 hE x y (by rw [← e12]; exact z); unfold bxM at y2 ⊢; rw [hca 249 (by decide)]; exact y2) s0 a0 D t ad) k_1188 k_11 k_1185 cl_Mo (m_Mo (ad := ad) (t := t) (F := Fe) (G := G1) rfl).1 (m_Mo rfl).2 k_1187 s_Mo_hatch q_Mo_hatch (by decide) (Nat.le_of_ble_eq_true rfl) (by decide) d_Mo_runsOf_35 (fun ce1 hc6 => ?_)
    obtain ⟨F2, G2, rfl, hR2⟩ := hc6
    have hR3 : mtR Fe G1 sn S F2 G2 (runsM (hasM G1 (oM G sn 4)) G sn) := by rw [← runsM_cong (G1 := G1) hca]; unfold runsM; rw [if_pos (by omega)]; rw [e12] at hR2; exact hR2
    refine g_goto ok 68 d_Mo_runsOf_38 (by decide) ?_
    exact g_vret ok d_Mo_runsOf_68 ⟨_, _, rfl, Fe, G1, rfl, hE, hR3⟩
