/-! the parts of a line -/
def ptR (G : Nat → Int → Int) (L : List (Int × Int)) : Prop := ∀ (j : Nat) (r : Int × Int), L[j]? = some r → G 233 (j : Int) = r.1 ∧ G 234 (j : Int) = r.2
theorem lenP (L : List (Int × Int)) (x : Int × Int) : ((L ++ [x]).length : Int) = (L.length : Int) + 1 := by
  rw [List.length_append]
  simp
theorem ptR_add {G : Nat → Int → Int} {L : List (Int × Int)} {a b m : Int} (h : ptR G L) (hm : m = (L.length : Int)) : ptR (gU (gU G 233 m a) 234 m b) (L ++ [(a, b)]) := by
  intro j r hj
  rcases Nat.lt_trichotomy j L.length with c | c | c
  · rw [List.getElem?_append_left c] at hj
    rw [gU_a (by decide), gU_i (by omega), gU_i (by omega), gU_a (by decide)]
    exact h j r hj
  · subst c
    rw [List.getElem?_concat_length] at hj
    have e := Option.some.inj hj
    subst e
    rw [← hm, gU_a (by decide), gU_hit, gU_hit]
    exact ⟨rfl, rfl⟩
  · rw [List.getElem?_append_right (by omega)] at hj
    have : ([(a, b)] : List (Int × Int))[j - L.length]? = none := List.getElem?_eq_none (by simp; omega)
    rw [this] at hj
    exact absurd hj (by simp)
theorem gp_cut {g : Int → Int} {n i q q2 e o : Int} (hk : evOk g n) (hi : 0 ≤ i ∧ i < n) (hq : q = g i / 3) (h2 : (i + 1 < n → q2 = g (i + 1) / 3) ∧ (i + 1 = n → q2 = 1000)) (he : e = kN g 1 1000 (i + 1).toNat - kN g 2 1000 (i + 1).toNat) (ho : o = kN g 0 1000 (i + 1).toNat % 2) : ∀ t : Int, q ≤ t → t < q2 → (evW g n t ↔ (0 < e ∨ o = 1)) := by
  intro t t1 t2
  rw [evW_cut (i := i + 1) (by omega) (fun j a b => ?_) (fun j a b => ?_), he, ho]
  · have hj := hk.2 j a (by omega)
    have hs : g j ≤ g i := by
      rcases Int.lt_or_eq_of_le (show j ≤ i by omega) with z | z
      · exact hk.1 j i a z hi.2
      · rw [z]
        exact Int.le_refl _
    omega
  · have hs : g (i + 1) ≤ g j := by
      rcases Int.lt_or_eq_of_le (show i + 1 ≤ j by omega) with z | z
      · exact hk.1 (i + 1) j (by omega) z b
      · rw [z]
        exact Int.le_refl _
    have := h2.1 (by omega)
    omega
theorem gp_lt {g : Int → Int} {n i : Int} (hk : evOk g n) (hi : 0 ≤ i ∧ i < n) (h : i + 1 < n → ¬ g (i + 1) / 3 = g i / 3) {q2 : Int} (h2 : (i + 1 < n → q2 = g (i + 1) / 3) ∧ (i + 1 = n → q2 = 1000)) : g i / 3 < q2 := by
  have a := hk.2 i hi.1 hi.2
  by_cases c : i + 1 < n
  · have b := hk.1 i (i + 1) hi.1 (by omega) c
    have := h c
    have := h2.1 c
    omega
  · have := h2.2 (by omega)
    omega
theorem gp_0 {g : Int → Int} {n : Int} (hn : 0 ≤ n) (hE : evOk g n) : ∃ q0 : Int, (((0 : Int) < n → q0 = g 0 / 3) ∧ ((0 : Int) = n → q0 = 1000)) ∧ swI (evW g n) q0 (-1) [] := by
  have hw0 : ∀ q0 : Int, (∀ j : Int, 0 ≤ j → j < n → q0 ≤ g j / 3) → swI (evW g n) q0 (-1) [] := fun q0 hj => sw_0 (fun t ht z => by
    have y := (evW_cut (g := g) (n := n) (i := 0) (t := t) (by omega) (fun j a b => by omega) (fun j a b => by have := hj j a b; omega)).mp z
    rcases y with y | y
    · exact absurd (show (0 : Int) < 0 - 0 from y) (by decide)
    · exact absurd (show (0 : Int) % 2 = 1 from y) (by decide))
  by_cases c : (0 : Int) < n
  · refine ⟨_, ⟨fun _ => rfl, fun z => by omega⟩, hw0 _ (fun j a b => ?_)⟩
    rcases Int.lt_or_eq_of_le a with z | z
    · have := hE.1 0 j (by omega) z b
      omega
    · rw [← z]
      exact Int.le_refl _
  · exact ⟨1000, ⟨fun z => absurd z c, fun _ => rfl⟩, hw0 _ (fun j a b => by omega)⟩
theorem d_Hl_gatherParts_0 : decode b_Hl_gatherParts 0 = .ok (.aload_n 0, 1) := by decide +kernel
theorem d_Hl_gatherParts_1 : decode b_Hl_gatherParts 1 = .ok (.iconst 0, 1) := by decide +kernel
theorem d_Hl_gatherParts_2 : decode b_Hl_gatherParts 2 = .ok (.putfield 133, 3) := by decide +kernel
theorem d_Hl_gatherParts_5 : decode b_Hl_gatherParts 5 = .ok (.iconst 0, 1) := by decide +kernel
theorem d_Hl_gatherParts_6 : decode b_Hl_gatherParts 6 = .ok (.istore_n 1, 1) := by decide +kernel
theorem d_Hl_gatherParts_7 : decode b_Hl_gatherParts 7 = .ok (.iconst (-1), 1) := by decide +kernel
theorem d_Hl_gatherParts_8 : decode b_Hl_gatherParts 8 = .ok (.istore_n 2, 1) := by decide +kernel
theorem d_Hl_gatherParts_9 : decode b_Hl_gatherParts 9 = .ok (.iconst 0, 1) := by decide +kernel
theorem d_Hl_gatherParts_10 : decode b_Hl_gatherParts 10 = .ok (.istore_n 3, 1) := by decide +kernel
theorem d_Hl_gatherParts_11 : decode b_Hl_gatherParts 11 = .ok (.iconst 0, 1) := by decide +kernel
theorem d_Hl_gatherParts_12 : decode b_Hl_gatherParts 12 = .ok (.istore 4, 2) := by decide +kernel
theorem d_Hl_gatherParts_14 : decode b_Hl_gatherParts 14 = .ok (.iload 4, 2) := by decide +kernel
theorem d_Hl_gatherParts_16 : decode b_Hl_gatherParts 16 = .ok (.aload_n 0, 1) := by decide +kernel
theorem d_Hl_gatherParts_17 : decode b_Hl_gatherParts 17 = .ok (.getfield 71, 3) := by decide +kernel
theorem d_Hl_gatherParts_20 : decode b_Hl_gatherParts 20 = .ok (.if_icmp .ge 145, 3) := by decide +kernel
theorem d_Hl_gatherParts_23 : decode b_Hl_gatherParts 23 = .ok (.aload_n 0, 1) := by decide +kernel
theorem d_Hl_gatherParts_24 : decode b_Hl_gatherParts 24 = .ok (.getfield 9, 3) := by decide +kernel
theorem d_Hl_gatherParts_27 : decode b_Hl_gatherParts 27 = .ok (.iload 4, 2) := by decide +kernel
theorem d_Hl_gatherParts_29 : decode b_Hl_gatherParts 29 = .ok (.iaload, 1) := by decide +kernel
theorem d_Hl_gatherParts_30 : decode b_Hl_gatherParts 30 = .ok (.iconst 3, 1) := by decide +kernel
theorem d_Hl_gatherParts_31 : decode b_Hl_gatherParts 31 = .ok (.idiv, 1) := by decide +kernel
theorem d_Hl_gatherParts_32 : decode b_Hl_gatherParts 32 = .ok (.istore 5, 2) := by decide +kernel
theorem d_Hl_gatherParts_34 : decode b_Hl_gatherParts 34 = .ok (.aload_n 0, 1) := by decide +kernel
theorem d_Hl_gatherParts_35 : decode b_Hl_gatherParts 35 = .ok (.getfield 9, 3) := by decide +kernel
theorem d_Hl_gatherParts_38 : decode b_Hl_gatherParts 38 = .ok (.iload 4, 2) := by decide +kernel
theorem d_Hl_gatherParts_40 : decode b_Hl_gatherParts 40 = .ok (.iaload, 1) := by decide +kernel
theorem d_Hl_gatherParts_41 : decode b_Hl_gatherParts 41 = .ok (.iconst 3, 1) := by decide +kernel
theorem d_Hl_gatherParts_42 : decode b_Hl_gatherParts 42 = .ok (.irem, 1) := by decide +kernel
theorem d_Hl_gatherParts_43 : decode b_Hl_gatherParts 43 = .ok (.istore 6, 2) := by decide +kernel
theorem d_Hl_gatherParts_45 : decode b_Hl_gatherParts 45 = .ok (.iload 6, 2) := by decide +kernel
theorem d_Hl_gatherParts_47 : decode b_Hl_gatherParts 47 = .ok (.ifCond .ne 16, 3) := by decide +kernel
theorem d_Hl_gatherParts_50 : decode b_Hl_gatherParts 50 = .ok (.iload_n 3, 1) := by decide +kernel
theorem d_Hl_gatherParts_51 : decode b_Hl_gatherParts 51 = .ok (.ifCond .ne 7, 3) := by decide +kernel
theorem d_Hl_gatherParts_54 : decode b_Hl_gatherParts 54 = .ok (.iconst 1, 1) := by decide +kernel
theorem d_Hl_gatherParts_55 : decode b_Hl_gatherParts 55 = .ok (.goto 4, 3) := by decide +kernel
theorem d_Hl_gatherParts_58 : decode b_Hl_gatherParts 58 = .ok (.iconst 0, 1) := by decide +kernel
theorem d_Hl_gatherParts_59 : decode b_Hl_gatherParts 59 = .ok (.istore_n 3, 1) := by decide +kernel
theorem d_Hl_gatherParts_60 : decode b_Hl_gatherParts 60 = .ok (.goto 17, 3) := by decide +kernel
theorem d_Hl_gatherParts_63 : decode b_Hl_gatherParts 63 = .ok (.iload_n 1, 1) := by decide +kernel
theorem d_Hl_gatherParts_64 : decode b_Hl_gatherParts 64 = .ok (.iload 6, 2) := by decide +kernel
theorem d_Hl_gatherParts_66 : decode b_Hl_gatherParts 66 = .ok (.iconst 1, 1) := by decide +kernel
theorem d_Hl_gatherParts_67 : decode b_Hl_gatherParts 67 = .ok (.if_icmp .ne 7, 3) := by decide +kernel
theorem d_Hl_gatherParts_70 : decode b_Hl_gatherParts 70 = .ok (.iconst 1, 1) := by decide +kernel
theorem d_Hl_gatherParts_71 : decode b_Hl_gatherParts 71 = .ok (.goto 4, 3) := by decide +kernel
theorem d_Hl_gatherParts_74 : decode b_Hl_gatherParts 74 = .ok (.iconst (-1), 1) := by decide +kernel
theorem d_Hl_gatherParts_75 : decode b_Hl_gatherParts 75 = .ok (.iadd, 1) := by decide +kernel
theorem d_Hl_gatherParts_76 : decode b_Hl_gatherParts 76 = .ok (.istore_n 1, 1) := by decide +kernel
theorem d_Hl_gatherParts_77 : decode b_Hl_gatherParts 77 = .ok (.iload 4, 2) := by decide +kernel
theorem d_Hl_gatherParts_79 : decode b_Hl_gatherParts 79 = .ok (.iconst 1, 1) := by decide +kernel
theorem d_Hl_gatherParts_80 : decode b_Hl_gatherParts 80 = .ok (.iadd, 1) := by decide +kernel
theorem d_Hl_gatherParts_81 : decode b_Hl_gatherParts 81 = .ok (.aload_n 0, 1) := by decide +kernel
theorem d_Hl_gatherParts_82 : decode b_Hl_gatherParts 82 = .ok (.getfield 71, 3) := by decide +kernel
theorem d_Hl_gatherParts_85 : decode b_Hl_gatherParts 85 = .ok (.if_icmp .ge 22, 3) := by decide +kernel
theorem d_Hl_gatherParts_88 : decode b_Hl_gatherParts 88 = .ok (.aload_n 0, 1) := by decide +kernel
theorem d_Hl_gatherParts_89 : decode b_Hl_gatherParts 89 = .ok (.getfield 9, 3) := by decide +kernel
theorem d_Hl_gatherParts_92 : decode b_Hl_gatherParts 92 = .ok (.iload 4, 2) := by decide +kernel
theorem d_Hl_gatherParts_94 : decode b_Hl_gatherParts 94 = .ok (.iconst 1, 1) := by decide +kernel
theorem d_Hl_gatherParts_95 : decode b_Hl_gatherParts 95 = .ok (.iadd, 1) := by decide +kernel
theorem d_Hl_gatherParts_96 : decode b_Hl_gatherParts 96 = .ok (.iaload, 1) := by decide +kernel
theorem d_Hl_gatherParts_97 : decode b_Hl_gatherParts 97 = .ok (.iconst 3, 1) := by decide +kernel
theorem d_Hl_gatherParts_98 : decode b_Hl_gatherParts 98 = .ok (.idiv, 1) := by decide +kernel
theorem d_Hl_gatherParts_99 : decode b_Hl_gatherParts 99 = .ok (.iload 5, 2) := by decide +kernel
theorem d_Hl_gatherParts_101 : decode b_Hl_gatherParts 101 = .ok (.if_icmp .ne 6, 3) := by decide +kernel
theorem d_Hl_gatherParts_104 : decode b_Hl_gatherParts 104 = .ok (.goto 55, 3) := by decide +kernel
theorem d_Hl_gatherParts_107 : decode b_Hl_gatherParts 107 = .ok (.iload_n 3, 1) := by decide +kernel
theorem d_Hl_gatherParts_108 : decode b_Hl_gatherParts 108 = .ok (.ifCond .ne 7, 3) := by decide +kernel
theorem d_Hl_gatherParts_111 : decode b_Hl_gatherParts 111 = .ok (.iload_n 1, 1) := by decide +kernel
theorem d_Hl_gatherParts_112 : decode b_Hl_gatherParts 112 = .ok (.ifCond .le 7, 3) := by decide +kernel
theorem d_Hl_gatherParts_115 : decode b_Hl_gatherParts 115 = .ok (.iconst 1, 1) := by decide +kernel
theorem d_Hl_gatherParts_116 : decode b_Hl_gatherParts 116 = .ok (.goto 4, 3) := by decide +kernel
theorem d_Hl_gatherParts_119 : decode b_Hl_gatherParts 119 = .ok (.iconst 0, 1) := by decide +kernel
theorem d_Hl_gatherParts_120 : decode b_Hl_gatherParts 120 = .ok (.istore 7, 2) := by decide +kernel
theorem d_Hl_gatherParts_122 : decode b_Hl_gatherParts 122 = .ok (.iload 7, 2) := by decide +kernel
theorem d_Hl_gatherParts_124 : decode b_Hl_gatherParts 124 = .ok (.ifCond .eq 14, 3) := by decide +kernel
theorem d_Hl_gatherParts_127 : decode b_Hl_gatherParts 127 = .ok (.iload_n 2, 1) := by decide +kernel
theorem d_Hl_gatherParts_128 : decode b_Hl_gatherParts 128 = .ok (.iconst (-1), 1) := by decide +kernel
theorem d_Hl_gatherParts_129 : decode b_Hl_gatherParts 129 = .ok (.if_icmp .ne 9, 3) := by decide +kernel
theorem d_Hl_gatherParts_132 : decode b_Hl_gatherParts 132 = .ok (.iload 5, 2) := by decide +kernel
theorem d_Hl_gatherParts_134 : decode b_Hl_gatherParts 134 = .ok (.istore_n 2, 1) := by decide +kernel
theorem d_Hl_gatherParts_135 : decode b_Hl_gatherParts 135 = .ok (.goto 24, 3) := by decide +kernel
theorem d_Hl_gatherParts_138 : decode b_Hl_gatherParts 138 = .ok (.iload 7, 2) := by decide +kernel
theorem d_Hl_gatherParts_140 : decode b_Hl_gatherParts 140 = .ok (.ifCond .ne 19, 3) := by decide +kernel
theorem d_Hl_gatherParts_143 : decode b_Hl_gatherParts 143 = .ok (.iload_n 2, 1) := by decide +kernel
theorem d_Hl_gatherParts_144 : decode b_Hl_gatherParts 144 = .ok (.iconst (-1), 1) := by decide +kernel
theorem d_Hl_gatherParts_145 : decode b_Hl_gatherParts 145 = .ok (.if_icmp .eq 14, 3) := by decide +kernel
theorem d_Hl_gatherParts_148 : decode b_Hl_gatherParts 148 = .ok (.aload_n 0, 1) := by decide +kernel
theorem d_Hl_gatherParts_149 : decode b_Hl_gatherParts 149 = .ok (.iload_n 2, 1) := by decide +kernel
theorem d_Hl_gatherParts_150 : decode b_Hl_gatherParts 150 = .ok (.iload 5, 2) := by decide +kernel
theorem d_Hl_gatherParts_152 : decode b_Hl_gatherParts 152 = .ok (.iconst 1, 1) := by decide +kernel
theorem d_Hl_gatherParts_153 : decode b_Hl_gatherParts 153 = .ok (.isub, 1) := by decide +kernel
theorem d_Hl_gatherParts_154 : decode b_Hl_gatherParts 154 = .ok (.invokevirtual 136, 3) := by decide +kernel
theorem d_Hl_gatherParts_157 : decode b_Hl_gatherParts 157 = .ok (.iconst (-1), 1) := by decide +kernel
theorem d_Hl_gatherParts_158 : decode b_Hl_gatherParts 158 = .ok (.istore_n 2, 1) := by decide +kernel
theorem d_Hl_gatherParts_159 : decode b_Hl_gatherParts 159 = .ok (.iinc 4 1, 3) := by decide +kernel
theorem d_Hl_gatherParts_162 : decode b_Hl_gatherParts 162 = .ok (.goto (-148), 3) := by decide +kernel
theorem d_Hl_gatherParts_165 : decode b_Hl_gatherParts 165 = .ok (.return_, 1) := by decide +kernel
set_option maxHeartbeats 1000000 in
set_option maxRecDepth 100000 in
theorem c_Hl_gatherParts (F : Nat → Nat → Int) (G : Nat → Int → Int) (hn : 0 ≤ F 231 3 ∧ F 231 3 ≤ 384) (hE : evOk (G 232) (F 231 3)) (hW : ∀ t : Int, 601 ≤ t → ¬ evW (G 232) (F 231 3) t) : cV y_Hl_gatherParts b_Hl_gatherParts 8 none 1 22 F G (fun ad => [.ref (ad 231)]) (fun F' G' => ∃ L : List (Int × Int), L.length ≤ 192 ∧ F' = fU F 231 4 (L.length : Int) ∧ (∀ a, a ≠ 233 → a ≠ 234 → G' a = G a) ∧ isRn (evW (G 232) (F 231 3)) L ∧ ptR G' L) := by
  intro s0 a0 D t ad
  refine g_startV (by decide +kernel) (Nat.le_of_ble_eq_true rfl) (fun p l e R s m args below meth c A ok => ?_)
  show gW p l e R s m args below meth c _ D A 8 (gZ0 s) 0 0 ad 265 (mem ad t F G) 0 [(0, .ref (ad 231))] []
  refine g_aload_n ok d_Hl_gatherParts_0 rfl 0 rfl ?_
  refine g_iconst ok d_Hl_gatherParts_1 ?_
  refine pI_Hl_partTotal ok _ rfl k_204 d_Hl_gatherParts_2 ?_
  have hq00 : ∃ q0 : Int, (((0 : Int) < F 231 3 → q0 = G 232 0 / 3) ∧ ((0 : Int) = F 231 3 → q0 = 1000)) ∧ swI (evW (G 232) (F 231 3)) q0 (-1) [] := gp_0 hn.1 hE
  obtain ⟨q0, hq0, hI0⟩ := hq00
  refine g_iconst ok d_Hl_gatherParts_5 ?_
  refine g_istore_n (lv' := [(1, .int (iI 0)), (0, .ref (ad 231))]) ok d_Hl_gatherParts_6 rfl (by decide) rfl ?_
  refine g_iconst ok d_Hl_gatherParts_7 ?_
  refine g_istore_n (lv' := [(2, .int (iI (-1))), (1, .int (iI 0)), (0, .ref (ad 231))]) ok d_Hl_gatherParts_8 rfl (by decide) rfl ?_
  refine g_iconst ok d_Hl_gatherParts_9 ?_
  refine g_istore_n (lv' := [(3, .int (iI 0)), (2, .int (iI (-1))), (1, .int (iI 0)), (0, .ref (ad 231))]) ok d_Hl_gatherParts_10 rfl (by decide) rfl ?_
  refine g_iconst ok d_Hl_gatherParts_11 ?_
  refine g_istore (lv' := [(4, .int (iI 0)), (3, .int (iI 0)), (2, .int (iI (-1))), (1, .int (iI 0)), (0, .ref (ad 231))]) ok d_Hl_gatherParts_12 (by decide) rfl ?_
  have L_i : ∀ (n_i : Nat) (i : Int) (ec : Int) (st : Int) (od : Int) (E : Int) (G1 : Nat → Int → Int) (L : List (Int × Int)) (q : Int), (0 ≤ i ∧ i ≤ F 231 3) → (ec = kN (G 232) 1 1000 (i).toNat - kN (G 232) 2 1000 (i).toNat) → (-i ≤ ec ∧ ec ≤ i) → ((od = 0 ∨ od = 1) ∧ od = kN (G 232) 0 1000 (i).toNat % 2) → ((i < F 231 3 → q = G 232 i / 3) ∧ (i = F 231 3 → q = 1000)) → (-1 ≤ st ∧ st ≤ 1000) → (swI (evW (G 232) (F 231 3)) q st L) → (E = (L.length : Int) ∧ 2 * (L.length : Int) + (if st = -1 then 0 else 1) ≤ i) → (ptR G1 L) → (∀ a, a ≠ 233 → a ≠ 234 → G1 a = G a) → (F 231 3 + 1 - i) < (n_i : Int) → gW p l e R s m args below meth c (MQ below (gQv D A ad 265 (fun ce' => ∃ F' G', ce' = mem ad t F' G' ∧ (fun F' G' => ∃ L : List (Int × Int), L.length ≤ 192 ∧ F' = fU F 231 4 (L.length : Int) ∧ (∀ a, a ≠ 233 → a ≠ 234 → G' a = G a) ∧ isRn (evW (G 232) (F 231 3)) L ∧ ptR G' L) F' G')) args s 0 0 A) D A 8 (gZ) 0 0 ad 265 (mem ad t (fU F 231 4 E) G1) 14 [(0, .ref (ad 231)), (1, .int (iI ec)), (2, .int (iI st)), (3, .int (iI od)), (4, .int (iI i))] [] := by
    intro n_i
    induction n_i with
    | zero =>
      intro i ec st od E G1 L q hi he hb ho hq hs hI hm hp hg hm_i
      exact absurd hm_i (by omega)
    | succ n_i ih_i =>
      intro i ec st od E G1 L q hi he hb ho hq hs hI hm hp hg hm_i
      refine g_iload ok d_Hl_gatherParts_14 4 rfl ?_
      refine g_aload_n ok d_Hl_gatherParts_16 rfl 0 rfl ?_
      refine gI_Hl_eventTotal ok _ rfl k_202 d_Hl_gatherParts_17 ?_
      refine g_top (y := F 231 3) (by show (fU F 231 4 E) 231 3 = _; rw [fU_ja (show (3 : Nat) ≠ 4 by decide)]) ?_
      refine g_icmp_ge ok 165 d_Hl_gatherParts_20 (by decide) (by omega) (by omega) (fun h1 => ?_) (fun h1 => ?_)
      · exact g_vret ok d_Hl_gatherParts_165 ⟨_, _, rfl, L, by have := hm.2; omega, by rw [hm.1], hg, sw_end hI (fun t z => hW t (by have := hq.2 (by omega); omega)), hp⟩
      · have hgi := hE.2 i hi.1 (by omega)
        have hgd : G 232 i / 3 ≤ 1000 := by omega
        refine g_aload_n ok d_Hl_gatherParts_23 rfl 0 rfl ?_
        refine gI_Hl_events ok _ rfl k_197 d_Hl_gatherParts_24 ?_
        refine g_iload ok d_Hl_gatherParts_27 4 rfl ?_
        refine h_iald ok _ a_232 (by omega) d_Hl_gatherParts_29 ?_
        refine g_top (y := G 232 i) (by show G1 232 i = _; rw [hg 232 (by decide) (by decide)]) ?_
        refine g_iconst ok d_Hl_gatherParts_30 ?_
        refine g_idiv (z := G 232 i / 3) ok (iI_ne0 (by decide)) (iI_divN (by omega) (by decide)) d_Hl_gatherParts_31 ?_
        refine g_istore (lv' := [(5, .int (iI (G 232 i / 3))), (0, .ref (ad 231)), (1, .int (iI ec)), (2, .int (iI st)), (3, .int (iI od)), (4, .int (iI i))]) ok d_Hl_gatherParts_32 (by decide) rfl ?_
        refine g_aload_n ok d_Hl_gatherParts_34 rfl 1 rfl ?_
        refine gI_Hl_events ok _ rfl k_197 d_Hl_gatherParts_35 ?_
        refine g_iload ok d_Hl_gatherParts_38 5 rfl ?_
        refine h_iald ok _ a_232 (by omega) d_Hl_gatherParts_40 ?_
        refine g_top (y := G 232 i) (by show G1 232 i = _; rw [hg 232 (by decide) (by decide)]) ?_
        refine g_iconst ok d_Hl_gatherParts_41 ?_
        refine g_irem (z := G 232 i % 3) ok (iI_ne0 (by decide)) (iI_remN (by omega) (by decide)) d_Hl_gatherParts_42 ?_
        refine g_istore (lv' := [(6, .int (iI (G 232 i % 3))), (5, .int (iI (G 232 i / 3))), (0, .ref (ad 231)), (1, .int (iI ec)), (2, .int (iI st)), (3, .int (iI od)), (4, .int (iI i))]) ok d_Hl_gatherParts_43 (by decide) rfl ?_
        have J_u : ∀ (e2 : Int) (o2 : Int), (e2 = kN (G 232) 1 1000 (i + 1).toNat - kN (G 232) 2 1000 (i + 1).toNat) → ((o2 = 0 ∨ o2 = 1) ∧ o2 = kN (G 232) 0 1000 (i + 1).toNat % 2) → (-(i + 1) ≤ e2 ∧ e2 ≤ i + 1) → gW p l e R s m args below meth c (MQ below (gQv D A ad 265 (fun ce' => ∃ F' G', ce' = mem ad t F' G' ∧ (fun F' G' => ∃ L : List (Int × Int), L.length ≤ 192 ∧ F' = fU F 231 4 (L.length : Int) ∧ (∀ a, a ≠ 233 → a ≠ 234 → G' a = G a) ∧ isRn (evW (G 232) (F 231 3)) L ∧ ptR G' L) F' G')) args s 0 0 A) D A 8 (gZ) 0 0 ad 265 (mem ad t (fU F 231 4 E) G1) 77 [(0, .ref (ad 231)), (1, .int (iI e2)), (2, .int (iI st)), (3, .int (iI o2)), (4, .int (iI i)), (5, .int (iI (G 232 i / 3))), (6, .int (iI (G 232 i % 3)))] [] := by
          intro e2 o2 he2 ho2 hb2
          have J_v : ∀ (q2 : Int), ((i + 1 < F 231 3 → q2 = G 232 (i + 1) / 3) ∧ (i + 1 = F 231 3 → q2 = 1000)) → (G 232 i / 3 < q2) → gW p l e R s m args below meth c (MQ below (gQv D A ad 265 (fun ce' => ∃ F' G', ce' = mem ad t F' G' ∧ (fun F' G' => ∃ L : List (Int × Int), L.length ≤ 192 ∧ F' = fU F 231 4 (L.length : Int) ∧ (∀ a, a ≠ 233 → a ≠ 234 → G' a = G a) ∧ isRn (evW (G 232) (F 231 3)) L ∧ ptR G' L) F' G')) args s 0 0 A) D A 8 (gZ) 0 0 ad 265 (mem ad t (fU F 231 4 E) G1) 107 [(0, .ref (ad 231)), (1, .int (iI e2)), (2, .int (iI st)), (3, .int (iI o2)), (4, .int (iI i)), (5, .int (iI (G 232 i / 3))), (6, .int (iI (G 232 i % 3)))] [] := by
            intro q2 hq2 hlt
            have hqi := hq.1 (by omega)
            have hcut := gp_cut hE (by omega) hqi hq2 he2 ho2.2
            rw [← hqi] at hlt
            refine g_iload_n ok d_Hl_gatherParts_107 rfl 3 rfl ?_
            refine g_if_ne ok 115 d_Hl_gatherParts_108 (by decide) (by omega) (fun h2 => ?_) (fun h2 => ?_)
            · refine g_iconst ok d_Hl_gatherParts_115 ?_
              refine g_goto ok 120 d_Hl_gatherParts_116 (by decide) ?_
              refine g_istore (lv' := [(7, .int (iI 1)), (0, .ref (ad 231)), (1, .int (iI e2)), (2, .int (iI st)), (3, .int (iI o2)), (4, .int (iI i)), (5, .int (iI (G 232 i / 3))), (6, .int (iI (G 232 i % 3)))]) ok d_Hl_gatherParts_120 (by decide) rfl ?_
              refine g_iload ok d_Hl_gatherParts_122 0 rfl ?_
              refine g_if_eq ok 138 d_Hl_gatherParts_124 (by decide) (by omega) (fun h3 => ?_) (fun h3 => ?_)
              · exact absurd h3 (by decide)
              · refine g_iload_n ok d_Hl_gatherParts_127 rfl 3 rfl ?_
                refine g_iconst ok d_Hl_gatherParts_128 ?_
                refine g_icmp_ne ok 138 d_Hl_gatherParts_129 (by decide) (by omega) (by omega) (fun h4 => ?_) (fun h4 => ?_)
                · refine g_iload ok d_Hl_gatherParts_138 0 rfl ?_
                  refine g_if_ne ok 159 d_Hl_gatherParts_140 (by decide) (by omega) (fun h5 => ?_) (fun h5 => ?_)
                  · refine g_iinc (lv' := [(4, .int (iI (i + 1))), (7, .int (iI 1)), (0, .ref (ad 231)), (1, .int (iI e2)), (2, .int (iI st)), (3, .int (iI o2)), (5, .int (iI (G 232 i / 3))), (6, .int (iI (G 232 i % 3)))]) ok d_Hl_gatherParts_159 5 rfl (by decide) rfl ?_
                    refine g_goto ok 14 d_Hl_gatherParts_162 (by decide) ?_
                    refine g_lv [2, 3, 4, 5, 0] rfl ?_
                    exact ih_i (i + 1) e2 st o2 E G1 L q2 (by omega) (he2) (by omega) (ho2) (hq2) (by omega) (sw_in2 hI (by omega) hlt (fun t z1 z2 => (hcut t z1 z2).mpr (by omega))) (⟨hm.1, by have := hm.2; omega⟩) (hp) (hg) (by omega)
                  · exact absurd h5 (by decide)
                · have hs1 : st = -1 := by omega
                  refine g_iload ok d_Hl_gatherParts_132 6 rfl ?_
                  refine g_istore_n (lv' := [(2, .int (iI (G 232 i / 3))), (7, .int (iI 1)), (0, .ref (ad 231)), (1, .int (iI e2)), (3, .int (iI o2)), (4, .int (iI i)), (5, .int (iI (G 232 i / 3))), (6, .int (iI (G 232 i % 3)))]) ok d_Hl_gatherParts_134 rfl (by decide) rfl ?_
                  refine g_goto ok 159 d_Hl_gatherParts_135 (by decide) ?_
                  refine g_iinc (lv' := [(4, .int (iI (i + 1))), (2, .int (iI (G 232 i / 3))), (7, .int (iI 1)), (0, .ref (ad 231)), (1, .int (iI e2)), (3, .int (iI o2)), (5, .int (iI (G 232 i / 3))), (6, .int (iI (G 232 i % 3)))]) ok d_Hl_gatherParts_159 5 rfl (by decide) rfl ?_
                  refine g_goto ok 14 d_Hl_gatherParts_162 (by decide) ?_
                  refine g_lv [3, 4, 1, 5, 0] rfl ?_
                  exact ih_i (i + 1) e2 (G 232 i / 3) o2 E G1 L q2 (by omega) (he2) (by omega) (ho2) (hq2) (by omega) (by have z := hI; rw [hs1] at z; rw [← hqi]; exact sw_in1 z (by omega) hlt (fun t z1 z2 => (hcut t z1 z2).mpr (by omega))) (⟨hm.1, by have := hm.2; rw [if_pos hs1] at this; split <;> omega⟩) (hp) (hg) (by omega)
            · refine g_iload_n ok d_Hl_gatherParts_111 rfl 1 rfl ?_
              refine g_if_le ok 119 d_Hl_gatherParts_112 (by decide) (by omega) (fun h6 => ?_) (fun h6 => ?_)
              · refine g_iconst ok d_Hl_gatherParts_119 ?_
                refine g_istore (lv' := [(7, .int (iI 0)), (0, .ref (ad 231)), (1, .int (iI e2)), (2, .int (iI st)), (3, .int (iI o2)), (4, .int (iI i)), (5, .int (iI (G 232 i / 3))), (6, .int (iI (G 232 i % 3)))]) ok d_Hl_gatherParts_120 (by decide) rfl ?_
                refine g_iload ok d_Hl_gatherParts_122 0 rfl ?_
                refine g_if_eq ok 138 d_Hl_gatherParts_124 (by decide) (by omega) (fun h7 => ?_) (fun h7 => ?_)
                · refine g_iload ok d_Hl_gatherParts_138 0 rfl ?_
                  refine g_if_ne ok 159 d_Hl_gatherParts_140 (by decide) (by omega) (fun h8 => ?_) (fun h8 => ?_)
                  · exact absurd h8 (by decide)
                  · refine g_iload_n ok d_Hl_gatherParts_143 rfl 3 rfl ?_
                    refine g_iconst ok d_Hl_gatherParts_144 ?_
                    refine g_icmp_eq ok 159 d_Hl_gatherParts_145 (by decide) (by omega) (by omega) (fun h9 => ?_) (fun h9 => ?_)
                    · have hs1 : st = -1 := by omega
                      refine g_iinc (lv' := [(4, .int (iI (i + 1))), (7, .int (iI 0)), (0, .ref (ad 231)), (1, .int (iI e2)), (2, .int (iI st)), (3, .int (iI o2)), (5, .int (iI (G 232 i / 3))), (6, .int (iI (G 232 i % 3)))]) ok d_Hl_gatherParts_159 5 rfl (by decide) rfl ?_
                      refine g_goto ok 14 d_Hl_gatherParts_162 (by decide) ?_
                      refine g_lv [2, 3, 4, 5, 0] rfl ?_
                      exact ih_i (i + 1) e2 st o2 E G1 L q2 (by omega) (he2) (by omega) (ho2) (hq2) (by omega) (by have z := hI; rw [hs1] at z; exact hs1.symm ▸ sw_out1 z hlt (fun t z1 z2 z3 => absurd ((hcut t z1 z2).mp z3) (by omega))) (⟨hm.1, by have := hm.2; omega⟩) (hp) (hg) (by omega)
                    · refine g_aload_n ok d_Hl_gatherParts_148 rfl 1 rfl ?_
                      refine g_iload_n ok d_Hl_gatherParts_149 rfl 3 rfl ?_
                      refine g_iload ok d_Hl_gatherParts_150 6 rfl ?_
                      refine g_iconst ok d_Hl_gatherParts_152 ?_
                      refine g_isub ok d_Hl_gatherParts_153 ?_
                      have hm2 := hm.2
                      rw [if_neg (show ¬ st = -1 by omega)] at hm2
                      refine g_callVV (As := [.int (iI st), .int (iI ((G 232 i / 3) - 1))]) (st := []) ok _ (c_Hl_addPart (fU F 231 4 E) G1 _ _ (by omega) (by omega) (by rw [fU_hit]; omega) s0 a0 D t ad) k_450 k_7 k_447 cl_Hl (m_Hl (ad := ad) (t := t) (F := (fU F 231 4 E)) (G := G1) rfl).1 (m_Hl rfl).2 k_449 s_Hl_addPart q_Hl_addPart (by decide) (Nat.le_of_ble_eq_true rfl) (by decide) d_Hl_gatherParts_154 (fun ce1 hc10 => ?_)
                      obtain ⟨F7, G7, rfl, hAP⟩ := hc10
                      rcases hAP with ⟨z1, z2, z3⟩ | ⟨z1, z2, z3⟩
                      · rw [z2, z3]
                        refine g_iconst ok d_Hl_gatherParts_157 ?_
                        refine g_istore_n (lv' := [(2, .int (iI (-1))), (7, .int (iI 0)), (0, .ref (ad 231)), (1, .int (iI e2)), (3, .int (iI o2)), (4, .int (iI i)), (5, .int (iI (G 232 i / 3))), (6, .int (iI (G 232 i % 3)))]) ok d_Hl_gatherParts_158 rfl (by decide) rfl ?_
                        refine g_iinc (lv' := [(4, .int (iI (i + 1))), (2, .int (iI (-1))), (7, .int (iI 0)), (0, .ref (ad 231)), (1, .int (iI e2)), (3, .int (iI o2)), (5, .int (iI (G 232 i / 3))), (6, .int (iI (G 232 i % 3)))]) ok d_Hl_gatherParts_159 5 rfl (by decide) rfl ?_
                        refine g_goto ok 14 d_Hl_gatherParts_162 (by decide) ?_
                        refine g_lv [3, 4, 1, 5, 0] rfl ?_
                        exact ih_i (i + 1) e2 (-1) o2 E G1 L q2 (by omega) (he2) (by omega) (ho2) (hq2) (by omega) (sw_out3 hI (by omega) hlt (fun t z1 z2 z3 => absurd ((hcut t z1 z2).mp z3) (by omega)) (by omega)) (⟨hm.1, by have := hm.2; rw [if_pos rfl]; split at this <;> omega⟩) (hp) (hg) (by omega)
                      · rw [z2, z3, fU_hit, fU_fU]
                        refine g_iconst ok d_Hl_gatherParts_157 ?_
                        refine g_istore_n (lv' := [(2, .int (iI (-1))), (7, .int (iI 0)), (0, .ref (ad 231)), (1, .int (iI e2)), (3, .int (iI o2)), (4, .int (iI i)), (5, .int (iI (G 232 i / 3))), (6, .int (iI (G 232 i % 3)))]) ok d_Hl_gatherParts_158 rfl (by decide) rfl ?_
                        refine g_iinc (lv' := [(4, .int (iI (i + 1))), (2, .int (iI (-1))), (7, .int (iI 0)), (0, .ref (ad 231)), (1, .int (iI e2)), (3, .int (iI o2)), (5, .int (iI (G 232 i / 3))), (6, .int (iI (G 232 i % 3)))]) ok d_Hl_gatherParts_159 5 rfl (by decide) rfl ?_
                        refine g_goto ok 14 d_Hl_gatherParts_162 (by decide) ?_
                        refine g_lv [3, 4, 1, 5, 0] rfl ?_
                        exact ih_i (i + 1) e2 (-1) o2 (E + 1) (gU (gU G1 233 E st) 234 E (G 232 i / 3 - 1)) (L ++ [(st, G 232 i / 3 - 1)]) q2 (by omega) (he2) (by omega) (ho2) (hq2) (by omega) (by rw [← hqi]; exact sw_out2 hI (by omega) hlt (fun t z1 z2 z3 => absurd ((hcut t z1 z2).mp z3) (by omega)) (by omega)) (by rw [lenP]; exact ⟨by omega, by rw [if_pos rfl]; omega⟩) (ptR_add hp hm.1) (fun a z1 z2 => by rw [gU_k _ _ _ z2, gU_k _ _ _ z1]; exact hg a z1 z2) (by omega)
                · exact absurd h7 (by decide)
              · refine g_iconst ok d_Hl_gatherParts_115 ?_
                refine g_goto ok 120 d_Hl_gatherParts_116 (by decide) ?_
                refine g_istore (lv' := [(7, .int (iI 1)), (0, .ref (ad 231)), (1, .int (iI e2)), (2, .int (iI st)), (3, .int (iI o2)), (4, .int (iI i)), (5, .int (iI (G 232 i / 3))), (6, .int (iI (G 232 i % 3)))]) ok d_Hl_gatherParts_120 (by decide) rfl ?_
                refine g_iload ok d_Hl_gatherParts_122 0 rfl ?_
                refine g_if_eq ok 138 d_Hl_gatherParts_124 (by decide) (by omega) (fun h11 => ?_) (fun h11 => ?_)
                · exact absurd h11 (by decide)
                · refine g_iload_n ok d_Hl_gatherParts_127 rfl 3 rfl ?_
                  refine g_iconst ok d_Hl_gatherParts_128 ?_
                  refine g_icmp_ne ok 138 d_Hl_gatherParts_129 (by decide) (by omega) (by omega) (fun h12 => ?_) (fun h12 => ?_)
                  · refine g_iload ok d_Hl_gatherParts_138 0 rfl ?_
                    refine g_if_ne ok 159 d_Hl_gatherParts_140 (by decide) (by omega) (fun h13 => ?_) (fun h13 => ?_)
                    · refine g_iinc (lv' := [(4, .int (iI (i + 1))), (7, .int (iI 1)), (0, .ref (ad 231)), (1, .int (iI e2)), (2, .int (iI st)), (3, .int (iI o2)), (5, .int (iI (G 232 i / 3))), (6, .int (iI (G 232 i % 3)))]) ok d_Hl_gatherParts_159 5 rfl (by decide) rfl ?_
                      refine g_goto ok 14 d_Hl_gatherParts_162 (by decide) ?_
                      refine g_lv [2, 3, 4, 5, 0] rfl ?_
                      exact ih_i (i + 1) e2 st o2 E G1 L q2 (by omega) (he2) (by omega) (ho2) (hq2) (by omega) (sw_in2 hI (by omega) hlt (fun t z1 z2 => (hcut t z1 z2).mpr (by omega))) (⟨hm.1, by have := hm.2; omega⟩) (hp) (hg) (by omega)
                    · exact absurd h13 (by decide)
                  · have hs1 : st = -1 := by omega
                    refine g_iload ok d_Hl_gatherParts_132 6 rfl ?_
                    refine g_istore_n (lv' := [(2, .int (iI (G 232 i / 3))), (7, .int (iI 1)), (0, .ref (ad 231)), (1, .int (iI e2)), (3, .int (iI o2)), (4, .int (iI i)), (5, .int (iI (G 232 i / 3))), (6, .int (iI (G 232 i % 3)))]) ok d_Hl_gatherParts_134 rfl (by decide) rfl ?_
                    refine g_goto ok 159 d_Hl_gatherParts_135 (by decide) ?_
                    refine g_iinc (lv' := [(4, .int (iI (i + 1))), (2, .int (iI (G 232 i / 3))), (7, .int (iI 1)), (0, .ref (ad 231)), (1, .int (iI e2)), (3, .int (iI o2)), (5, .int (iI (G 232 i / 3))), (6, .int (iI (G 232 i % 3)))]) ok d_Hl_gatherParts_159 5 rfl (by decide) rfl ?_
                    refine g_goto ok 14 d_Hl_gatherParts_162 (by decide) ?_
                    refine g_lv [3, 4, 1, 5, 0] rfl ?_
                    exact ih_i (i + 1) e2 (G 232 i / 3) o2 E G1 L q2 (by omega) (he2) (by omega) (ho2) (hq2) (by omega) (by have z := hI; rw [hs1] at z; rw [← hqi]; exact sw_in1 z (by omega) hlt (fun t z1 z2 => (hcut t z1 z2).mpr (by omega))) (⟨hm.1, by have := hm.2; rw [if_pos hs1] at this; split <;> omega⟩) (hp) (hg) (by omega)
          refine g_iload ok d_Hl_gatherParts_77 4 rfl ?_
          refine g_iconst ok d_Hl_gatherParts_79 ?_
          refine g_iadd ok d_Hl_gatherParts_80 ?_
          refine g_aload_n ok d_Hl_gatherParts_81 rfl 0 rfl ?_
          refine gI_Hl_eventTotal ok _ rfl k_202 d_Hl_gatherParts_82 ?_
          refine g_top (y := F 231 3) (by show (fU F 231 4 E) 231 3 = _; rw [fU_ja (show (3 : Nat) ≠ 4 by decide)]) ?_
          refine g_icmp_ge ok 107 d_Hl_gatherParts_85 (by decide) (by omega) (by omega) (fun h14 => ?_) (fun h14 => ?_)
          · refine g_z ?_
            exact J_v 1000 (⟨fun z => by omega, fun z => rfl⟩) (gp_lt hE (by omega) (fun z => by omega) ⟨fun z => by omega, fun z => rfl⟩)
          · refine g_aload_n ok d_Hl_gatherParts_88 rfl 0 rfl ?_
            refine gI_Hl_events ok _ rfl k_197 d_Hl_gatherParts_89 ?_
            refine g_iload ok d_Hl_gatherParts_92 4 rfl ?_
            refine g_iconst ok d_Hl_gatherParts_94 ?_
            refine g_iadd ok d_Hl_gatherParts_95 ?_
            refine h_iald ok _ a_232 (by omega) d_Hl_gatherParts_96 ?_
            refine g_top (y := G 232 (i + 1)) (by show G1 232 (i + 1) = _; rw [hg 232 (by decide) (by decide)]) ?_
            refine g_iconst ok d_Hl_gatherParts_97 ?_
            refine g_idiv (z := G 232 (i + 1) / 3) ok (iI_ne0 (by decide)) (iI_divN (by have := hE.2 (i + 1) (by omega) (by omega); omega) (by decide)) d_Hl_gatherParts_98 ?_
            refine g_iload ok d_Hl_gatherParts_99 5 rfl ?_
            refine g_icmp_ne ok 107 d_Hl_gatherParts_101 (by decide) (by have := hE.2 (i + 1) (by omega) (by omega); omega) (by omega) (fun h15 => ?_) (fun h15 => ?_)
            · refine g_z ?_
              exact J_v (G 232 (i + 1) / 3) (⟨fun z => rfl, fun z => by omega⟩) (gp_lt hE (by omega) (fun z => by omega) ⟨fun z => rfl, fun z => by omega⟩)
            · refine g_goto ok 159 d_Hl_gatherParts_104 (by decide) ?_
              refine g_iinc (lv' := [(4, .int (iI (i + 1))), (0, .ref (ad 231)), (1, .int (iI e2)), (2, .int (iI st)), (3, .int (iI o2)), (5, .int (iI (G 232 i / 3))), (6, .int (iI (G 232 i % 3)))]) ok d_Hl_gatherParts_159 4 rfl (by decide) rfl ?_
              refine g_goto ok 14 d_Hl_gatherParts_162 (by decide) ?_
              refine g_lv [1, 2, 3, 4, 0] rfl ?_
              exact ih_i (i + 1) e2 st o2 E G1 L q (by omega) (he2) (by omega) (ho2) (⟨fun z => by omega, fun z => by omega⟩) (by omega) (hI) (⟨hm.1, by have := hm.2; omega⟩) (hp) (hg) (by omega)
        refine g_iload ok d_Hl_gatherParts_45 0 rfl ?_
        refine g_if_ne ok 63 d_Hl_gatherParts_47 (by decide) (by omega) (fun h16 => ?_) (fun h16 => ?_)
        · refine g_iload_n ok d_Hl_gatherParts_63 rfl 3 rfl ?_
          refine g_iload ok d_Hl_gatherParts_64 0 rfl ?_
          refine g_iconst ok d_Hl_gatherParts_66 ?_
          refine g_icmp_ne ok 74 d_Hl_gatherParts_67 (by decide) (by omega) (by omega) (fun h17 => ?_) (fun h17 => ?_)
          · refine g_iconst ok d_Hl_gatherParts_74 ?_
            refine g_iadd ok d_Hl_gatherParts_75 ?_
            refine g_istore_n (lv' := [(1, .int (iI (ec + (-1)))), (6, .int (iI (G 232 i % 3))), (5, .int (iI (G 232 i / 3))), (0, .ref (ad 231)), (2, .int (iI st)), (3, .int (iI od)), (4, .int (iI i))]) ok d_Hl_gatherParts_76 rfl (by decide) rfl ?_
            refine g_z ?_
            refine g_lv [3, 0, 4, 5, 6, 2, 1] rfl ?_
            exact J_u (ec + (-1)) od (by rw [kN_step hi.1 hgd, kN_step hi.1 hgd]; split <;> split <;> omega) (by rw [kN_step hi.1 hgd]; refine ⟨by omega, ?_⟩; split <;> omega) (by omega)
          · refine g_iconst ok d_Hl_gatherParts_70 ?_
            refine g_goto ok 75 d_Hl_gatherParts_71 (by decide) ?_
            refine g_iadd ok d_Hl_gatherParts_75 ?_
            refine g_istore_n (lv' := [(1, .int (iI (ec + 1))), (6, .int (iI (G 232 i % 3))), (5, .int (iI (G 232 i / 3))), (0, .ref (ad 231)), (2, .int (iI st)), (3, .int (iI od)), (4, .int (iI i))]) ok d_Hl_gatherParts_76 rfl (by decide) rfl ?_
            refine g_z ?_
            refine g_lv [3, 0, 4, 5, 6, 2, 1] rfl ?_
            exact J_u (ec + 1) od (by rw [kN_step hi.1 hgd, kN_step hi.1 hgd]; split <;> split <;> omega) (by rw [kN_step hi.1 hgd]; refine ⟨by omega, ?_⟩; split <;> omega) (by omega)
        · refine g_iload_n ok d_Hl_gatherParts_50 rfl 5 rfl ?_
          refine g_if_ne ok 58 d_Hl_gatherParts_51 (by decide) (by omega) (fun h18 => ?_) (fun h18 => ?_)
          · refine g_iconst ok d_Hl_gatherParts_58 ?_
            refine g_istore_n (lv' := [(3, .int (iI 0)), (6, .int (iI (G 232 i % 3))), (5, .int (iI (G 232 i / 3))), (0, .ref (ad 231)), (1, .int (iI ec)), (2, .int (iI st)), (4, .int (iI i))]) ok d_Hl_gatherParts_59 rfl (by decide) rfl ?_
            refine g_goto ok 77 d_Hl_gatherParts_60 (by decide) ?_
            refine g_z ?_
            refine g_lv [3, 4, 5, 0, 6, 2, 1] rfl ?_
            exact J_u ec 0 (by rw [kN_step hi.1 hgd, kN_step hi.1 hgd]; split <;> split <;> omega) (by rw [kN_step hi.1 hgd]; refine ⟨by omega, ?_⟩; split <;> omega) (by omega)
          · refine g_iconst ok d_Hl_gatherParts_54 ?_
            refine g_goto ok 59 d_Hl_gatherParts_55 (by decide) ?_
            refine g_istore_n (lv' := [(3, .int (iI 1)), (6, .int (iI (G 232 i % 3))), (5, .int (iI (G 232 i / 3))), (0, .ref (ad 231)), (1, .int (iI ec)), (2, .int (iI st)), (4, .int (iI i))]) ok d_Hl_gatherParts_59 rfl (by decide) rfl ?_
            refine g_goto ok 77 d_Hl_gatherParts_60 (by decide) ?_
            refine g_z ?_
            refine g_lv [3, 4, 5, 0, 6, 2, 1] rfl ?_
            exact J_u ec 1 (by rw [kN_step hi.1 hgd, kN_step hi.1 hgd]; split <;> split <;> omega) (by rw [kN_step hi.1 hgd]; refine ⟨by omega, ?_⟩; split <;> omega) (by omega)
  refine g_z ?_
  refine g_lv [4, 3, 2, 1, 0] rfl ?_
  exact L_i ((F 231 3 + 1 - 0 : Int).toNat + 1) 0 0 (-1) 0 0 G ([]) q0 (by omega) (rfl) (by omega) (⟨Or.inl rfl, rfl⟩) (hq0) (by omega) (hI0) (⟨rfl, by decide⟩) (fun j r z => by simp at z) (fun _ _ _ => rfl) (by omega)
