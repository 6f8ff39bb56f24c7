/-! begin, corner and rail -/
def bgOk (c0 f0 sp d : Int) : Prop := (0 ≤ c0 ∧ c0 ≤ 7) ∧ (0 ≤ f0 ∧ f0 ≤ 2) ∧ (4 ≤ sp ∧ sp ≤ 20) ∧ (0 ≤ d ∧ d ≤ 3)
def bgM (F : Nat → Nat → Int) (c0 f0 sp d tc : Int) : Prop := (tc = 1 ∧ F 244 2 = 1) ∨ (tc = 2 ∧ F 244 2 = 0 ∧ F 244 1 = 10) ∨ (tc = 3 ∧ F 244 2 = 0 ∧ ¬ F 244 1 = 10 ∧ ¬ bgOk c0 f0 sp d) ∨ (tc = 0 ∧ F 244 2 = 0 ∧ ¬ F 244 1 = 10 ∧ bgOk c0 f0 sp d)
def coM (F : Nat → Nat → Int) (G : Nat → Int → Int) (r x y tc : Int) : Prop := (tc = 1 ∧ (F 244 2 = 0 ∨ G 245 41 = 1)) ∨ (tc = 2 ∧ F 244 2 = 1 ∧ ¬ G 245 41 = 1 ∧ ¬ ((0 ≤ r ∧ r ≤ 3) ∧ inR x y)) ∨ (tc = 3 ∧ F 244 2 = 1 ∧ ¬ G 245 41 = 1 ∧ ((0 ≤ r ∧ r ≤ 3) ∧ inR x y) ∧ G 246 (40 + r) = 24) ∨ (tc = 0 ∧ F 244 2 = 1 ∧ ¬ G 245 41 = 1 ∧ ((0 ≤ r ∧ r ≤ 3) ∧ inR x y) ∧ ¬ G 246 (40 + r) = 24)
def raM (F : Nat → Nat → Int) (G : Nat → Int → Int) (r x y tc : Int) : Prop := (tc = 1 ∧ (F 244 2 = 0 ∨ ¬ G 245 41 = 1)) ∨ (tc = 2 ∧ F 244 2 = 1 ∧ G 245 41 = 1 ∧ ¬ ((0 ≤ r ∧ r ≤ 1) ∧ inR x y)) ∨ (tc = 3 ∧ F 244 2 = 1 ∧ G 245 41 = 1 ∧ ((0 ≤ r ∧ r ≤ 1) ∧ inR x y) ∧ G 246 (40 + r) = 16) ∨ (tc = 0 ∧ F 244 2 = 1 ∧ G 245 41 = 1 ∧ ((0 ≤ r ∧ r ≤ 1) ∧ inR x y) ∧ ¬ G 246 (40 + r) = 16)
theorem d_Mo_begin_0 : decode b_Mo_begin 0 = .ok (.iload_n 1, 1) := by decide +kernel
theorem d_Mo_begin_1 : decode b_Mo_begin 1 = .ok (.ifCond .lt 40, 3) := by decide +kernel
theorem d_Mo_begin_4 : decode b_Mo_begin 4 = .ok (.iload_n 1, 1) := by decide +kernel
theorem d_Mo_begin_5 : decode b_Mo_begin 5 = .ok (.bipush 7, 2) := by decide +kernel
theorem d_Mo_begin_7 : decode b_Mo_begin 7 = .ok (.if_icmp .gt 34, 3) := by decide +kernel
theorem d_Mo_begin_10 : decode b_Mo_begin 10 = .ok (.iload_n 2, 1) := by decide +kernel
theorem d_Mo_begin_11 : decode b_Mo_begin 11 = .ok (.ifCond .lt 30, 3) := by decide +kernel
theorem d_Mo_begin_14 : decode b_Mo_begin 14 = .ok (.iload_n 2, 1) := by decide +kernel
theorem d_Mo_begin_15 : decode b_Mo_begin 15 = .ok (.iconst 2, 1) := by decide +kernel
theorem d_Mo_begin_16 : decode b_Mo_begin 16 = .ok (.if_icmp .gt 25, 3) := by decide +kernel
theorem d_Mo_begin_19 : decode b_Mo_begin 19 = .ok (.iload_n 3, 1) := by decide +kernel
theorem d_Mo_begin_20 : decode b_Mo_begin 20 = .ok (.iconst 4, 1) := by decide +kernel
theorem d_Mo_begin_21 : decode b_Mo_begin 21 = .ok (.if_icmp .lt 20, 3) := by decide +kernel
theorem d_Mo_begin_24 : decode b_Mo_begin 24 = .ok (.iload_n 3, 1) := by decide +kernel
theorem d_Mo_begin_25 : decode b_Mo_begin 25 = .ok (.bipush 20, 2) := by decide +kernel
theorem d_Mo_begin_27 : decode b_Mo_begin 27 = .ok (.if_icmp .gt 14, 3) := by decide +kernel
theorem d_Mo_begin_30 : decode b_Mo_begin 30 = .ok (.iload 4, 2) := by decide +kernel
theorem d_Mo_begin_32 : decode b_Mo_begin 32 = .ok (.ifCond .lt 9, 3) := by decide +kernel
theorem d_Mo_begin_35 : decode b_Mo_begin 35 = .ok (.iload 4, 2) := by decide +kernel
theorem d_Mo_begin_37 : decode b_Mo_begin 37 = .ok (.iconst 3, 1) := by decide +kernel
theorem d_Mo_begin_38 : decode b_Mo_begin 38 = .ok (.if_icmp .le 7, 3) := by decide +kernel
theorem d_Mo_begin_41 : decode b_Mo_begin 41 = .ok (.iconst 1, 1) := by decide +kernel
theorem d_Mo_begin_42 : decode b_Mo_begin 42 = .ok (.goto 4, 3) := by decide +kernel
theorem d_Mo_begin_45 : decode b_Mo_begin 45 = .ok (.iconst 0, 1) := by decide +kernel
theorem d_Mo_begin_46 : decode b_Mo_begin 46 = .ok (.istore 5, 2) := by decide +kernel
theorem d_Mo_begin_48 : decode b_Mo_begin 48 = .ok (.aload_n 0, 1) := by decide +kernel
theorem d_Mo_begin_49 : decode b_Mo_begin 49 = .ok (.aload_n 0, 1) := by decide +kernel
theorem d_Mo_begin_50 : decode b_Mo_begin 50 = .ok (.getfield 16, 3) := by decide +kernel
theorem d_Mo_begin_53 : decode b_Mo_begin 53 = .ok (.ifCond .eq 7, 3) := by decide +kernel
theorem d_Mo_begin_56 : decode b_Mo_begin 56 = .ok (.iconst 1, 1) := by decide +kernel
theorem d_Mo_begin_57 : decode b_Mo_begin 57 = .ok (.goto 26, 3) := by decide +kernel
theorem d_Mo_begin_60 : decode b_Mo_begin 60 = .ok (.aload_n 0, 1) := by decide +kernel
theorem d_Mo_begin_61 : decode b_Mo_begin 61 = .ok (.getfield 13, 3) := by decide +kernel
theorem d_Mo_begin_64 : decode b_Mo_begin 64 = .ok (.bipush 10, 2) := by decide +kernel
theorem d_Mo_begin_66 : decode b_Mo_begin 66 = .ok (.if_icmp .ne 7, 3) := by decide +kernel
theorem d_Mo_begin_69 : decode b_Mo_begin 69 = .ok (.iconst 2, 1) := by decide +kernel
theorem d_Mo_begin_70 : decode b_Mo_begin 70 = .ok (.goto 13, 3) := by decide +kernel
theorem d_Mo_begin_73 : decode b_Mo_begin 73 = .ok (.iload 5, 2) := by decide +kernel
theorem d_Mo_begin_75 : decode b_Mo_begin 75 = .ok (.ifCond .eq 7, 3) := by decide +kernel
theorem d_Mo_begin_78 : decode b_Mo_begin 78 = .ok (.iconst 3, 1) := by decide +kernel
theorem d_Mo_begin_79 : decode b_Mo_begin 79 = .ok (.goto 4, 3) := by decide +kernel
theorem d_Mo_begin_82 : decode b_Mo_begin 82 = .ok (.iconst 0, 1) := by decide +kernel
theorem d_Mo_begin_83 : decode b_Mo_begin 83 = .ok (.putfield 7, 3) := by decide +kernel
theorem d_Mo_begin_86 : decode b_Mo_begin 86 = .ok (.aload_n 0, 1) := by decide +kernel
theorem d_Mo_begin_87 : decode b_Mo_begin 87 = .ok (.getfield 7, 3) := by decide +kernel
theorem d_Mo_begin_90 : decode b_Mo_begin 90 = .ok (.ifCond .eq 4, 3) := by decide +kernel
theorem d_Mo_begin_93 : decode b_Mo_begin 93 = .ok (.return_, 1) := by decide +kernel
theorem d_Mo_begin_94 : decode b_Mo_begin 94 = .ok (.aload_n 0, 1) := by decide +kernel
theorem d_Mo_begin_95 : decode b_Mo_begin 95 = .ok (.iconst 1, 1) := by decide +kernel
theorem d_Mo_begin_96 : decode b_Mo_begin 96 = .ok (.putfield 16, 3) := by decide +kernel
theorem d_Mo_begin_99 : decode b_Mo_begin 99 = .ok (.aload_n 0, 1) := by decide +kernel
theorem d_Mo_begin_100 : decode b_Mo_begin 100 = .ok (.getfield 20, 3) := by decide +kernel
theorem d_Mo_begin_103 : decode b_Mo_begin 103 = .ok (.bipush 40, 2) := by decide +kernel
theorem d_Mo_begin_105 : decode b_Mo_begin 105 = .ok (.iload_n 1, 1) := by decide +kernel
theorem d_Mo_begin_106 : decode b_Mo_begin 106 = .ok (.iastore, 1) := by decide +kernel
theorem d_Mo_begin_107 : decode b_Mo_begin 107 = .ok (.aload_n 0, 1) := by decide +kernel
theorem d_Mo_begin_108 : decode b_Mo_begin 108 = .ok (.getfield 20, 3) := by decide +kernel
theorem d_Mo_begin_111 : decode b_Mo_begin 111 = .ok (.bipush 41, 2) := by decide +kernel
theorem d_Mo_begin_113 : decode b_Mo_begin 113 = .ok (.iload_n 2, 1) := by decide +kernel
theorem d_Mo_begin_114 : decode b_Mo_begin 114 = .ok (.iastore, 1) := by decide +kernel
theorem d_Mo_begin_115 : decode b_Mo_begin 115 = .ok (.aload_n 0, 1) := by decide +kernel
theorem d_Mo_begin_116 : decode b_Mo_begin 116 = .ok (.getfield 20, 3) := by decide +kernel
theorem d_Mo_begin_119 : decode b_Mo_begin 119 = .ok (.bipush 42, 2) := by decide +kernel
theorem d_Mo_begin_121 : decode b_Mo_begin 121 = .ok (.iload_n 3, 1) := by decide +kernel
theorem d_Mo_begin_122 : decode b_Mo_begin 122 = .ok (.iastore, 1) := by decide +kernel
theorem d_Mo_begin_123 : decode b_Mo_begin 123 = .ok (.aload_n 0, 1) := by decide +kernel
theorem d_Mo_begin_124 : decode b_Mo_begin 124 = .ok (.getfield 20, 3) := by decide +kernel
theorem d_Mo_begin_127 : decode b_Mo_begin 127 = .ok (.bipush 43, 2) := by decide +kernel
theorem d_Mo_begin_129 : decode b_Mo_begin 129 = .ok (.iload 4, 2) := by decide +kernel
theorem d_Mo_begin_131 : decode b_Mo_begin 131 = .ok (.iastore, 1) := by decide +kernel
theorem d_Mo_begin_132 : decode b_Mo_begin 132 = .ok (.iconst 0, 1) := by decide +kernel
theorem d_Mo_begin_133 : decode b_Mo_begin 133 = .ok (.istore 6, 2) := by decide +kernel
theorem d_Mo_begin_135 : decode b_Mo_begin 135 = .ok (.iload 6, 2) := by decide +kernel
theorem d_Mo_begin_137 : decode b_Mo_begin 137 = .ok (.iconst 4, 1) := by decide +kernel
theorem d_Mo_begin_138 : decode b_Mo_begin 138 = .ok (.if_icmp .ge 20, 3) := by decide +kernel
theorem d_Mo_begin_141 : decode b_Mo_begin 141 = .ok (.aload_n 0, 1) := by decide +kernel
theorem d_Mo_begin_142 : decode b_Mo_begin 142 = .ok (.getfield 24, 3) := by decide +kernel
theorem d_Mo_begin_145 : decode b_Mo_begin 145 = .ok (.bipush 40, 2) := by decide +kernel
theorem d_Mo_begin_147 : decode b_Mo_begin 147 = .ok (.iload 6, 2) := by decide +kernel
theorem d_Mo_begin_149 : decode b_Mo_begin 149 = .ok (.iadd, 1) := by decide +kernel
theorem d_Mo_begin_150 : decode b_Mo_begin 150 = .ok (.iconst 0, 1) := by decide +kernel
theorem d_Mo_begin_151 : decode b_Mo_begin 151 = .ok (.iastore, 1) := by decide +kernel
theorem d_Mo_begin_152 : decode b_Mo_begin 152 = .ok (.iinc 6 1, 3) := by decide +kernel
theorem d_Mo_begin_155 : decode b_Mo_begin 155 = .ok (.goto (-20), 3) := by decide +kernel
theorem d_Mo_begin_158 : decode b_Mo_begin 158 = .ok (.return_, 1) := by decide +kernel
set_option maxHeartbeats 1000000 in
set_option maxRecDepth 100000 in
theorem c_Mo_begin (F : Nat → Nat → Int) (G : Nat → Int → Int) (c0 f0 sp d : Int) (hc0 : -2147483648 ≤ c0 ∧ c0 < 2147483648) (hf0 : -2147483648 ≤ f0 ∧ f0 < 2147483648) (hsp : -2147483648 ≤ sp ∧ sp < 2147483648) (hd : -2147483648 ≤ d ∧ d < 2147483648) (ho : F 244 2 = 0 ∨ F 244 2 = 1) (hn : 0 ≤ F 244 1 ∧ F 244 1 ≤ 10) : cV y_Mo_begin b_Mo_begin 7 none 0 0 F G (fun ad => [.ref (ad 244), .int (iI c0), .int (iI f0), .int (iI sp), .int (iI d)]) (fun F' G' => ∃ tc, bgM F c0 f0 sp d tc ∧ ((tc ≠ 0 ∧ F' = fU F 244 0 tc ∧ G' = G) ∨ (tc = 0 ∧ F' = fU (fU F 244 0 0) 244 2 1 ∧ G' = gU (gU (gU (gU (gU (gU (gU (gU G 245 40 c0) 245 41 f0) 245 42 sp) 245 43 d) 246 40 0) 246 41 0) 246 42 0) 246 43 0))) := by
  intro s0 a0 D t ad
  refine g_startV (by decide +kernel) (Nat.le_of_ble_eq_true rfl) (fun p l e R s m args below meth c A ok => ?_)
  show gW p l e R s m args below meth c _ D A 7 (gZ0 s) 0 0 ad 265 (mem ad t F G) 0 [(0, .ref (ad 244)), (1, .int (iI c0)), (2, .int (iI f0)), (3, .int (iI sp)), (4, .int (iI d))] []
  have J_w : ∀ (wv : Int), ((wv = 1 ∧ ¬ bgOk c0 f0 sp d) ∨ (wv = 0 ∧ bgOk c0 f0 sp d)) → gW p l e R s m args below meth c (MQ below (gQv D A ad 265 (fun ce' => ∃ F' G', ce' = mem ad t F' G' ∧ (fun F' G' => ∃ tc, bgM F c0 f0 sp d tc ∧ ((tc ≠ 0 ∧ F' = fU F 244 0 tc ∧ G' = G) ∨ (tc = 0 ∧ F' = fU (fU F 244 0 0) 244 2 1 ∧ G' = gU (gU (gU (gU (gU (gU (gU (gU G 245 40 c0) 245 41 f0) 245 42 sp) 245 43 d) 246 40 0) 246 41 0) 246 42 0) 246 43 0))) F' G')) args s 0 0 A) D A 7 (gZ0 s) 0 0 ad 265 (mem ad t F G) 46 [(0, .ref (ad 244)), (1, .int (iI c0)), (2, .int (iI f0)), (3, .int (iI sp)), (4, .int (iI d))] [.int (iI wv)] := by
    intro wv hwv
    refine g_istore (lv' := [(5, .int (iI wv)), (0, .ref (ad 244)), (1, .int (iI c0)), (2, .int (iI f0)), (3, .int (iI sp)), (4, .int (iI d))]) ok d_Mo_begin_46 (by decide) rfl ?_
    have J_t : ∀ (tcv : Int), (bgM F c0 f0 sp d tcv) → gW p l e R s m args below meth c (MQ below (gQv D A ad 265 (fun ce' => ∃ F' G', ce' = mem ad t F' G' ∧ (fun F' G' => ∃ tc, bgM F c0 f0 sp d tc ∧ ((tc ≠ 0 ∧ F' = fU F 244 0 tc ∧ G' = G) ∨ (tc = 0 ∧ F' = fU (fU F 244 0 0) 244 2 1 ∧ G' = gU (gU (gU (gU (gU (gU (gU (gU G 245 40 c0) 245 41 f0) 245 42 sp) 245 43 d) 246 40 0) 246 41 0) 246 42 0) 246 43 0))) F' G')) args s 0 0 A) D A 7 (gZ0 s) 0 0 ad 265 (mem ad t F G) 83 [(0, .ref (ad 244)), (1, .int (iI c0)), (2, .int (iI f0)), (3, .int (iI sp)), (4, .int (iI d)), (5, .int (iI wv))] [.int (iI tcv), .ref (ad 244)] := by
      intro tcv htc
      have htr : 0 ≤ tcv ∧ tcv ≤ 3 := by unfold bgM at htc; omega
      refine pI_Mo_thrownCode ok _ rfl k_989 d_Mo_begin_83 ?_
      refine g_aload_n ok d_Mo_begin_86 rfl 0 rfl ?_
      refine gI_Mo_thrownCode ok _ rfl k_989 d_Mo_begin_87 ?_
      refine g_top (y := tcv) (by show (fU F 244 0 tcv) 244 0 = _; rw [fU_hit]) ?_
      refine g_if_eq ok 94 d_Mo_begin_90 (by decide) (by omega) (fun h1 => ?_) (fun h1 => ?_)
      · refine g_aload_n ok d_Mo_begin_94 rfl 0 rfl ?_
        refine g_iconst ok d_Mo_begin_95 ?_
        refine pI_Mo_open ok _ rfl k_991 (by first | exact Or.inl rfl | exact Or.inr rfl | omega) d_Mo_begin_96 ?_
        refine g_aload_n ok d_Mo_begin_99 rfl 0 rfl ?_
        refine gI_Mo_told ok _ rfl k_992 d_Mo_begin_100 ?_
        refine g_bipush ok (by decide) d_Mo_begin_103 ?_
        refine g_iload_n ok d_Mo_begin_105 rfl 1 rfl ?_
        refine h_iast ok _ a_245 (by omega) d_Mo_begin_106 ?_
        refine g_aload_n ok d_Mo_begin_107 rfl 0 rfl ?_
        refine gI_Mo_told ok _ rfl k_992 d_Mo_begin_108 ?_
        refine g_bipush ok (by decide) d_Mo_begin_111 ?_
        refine g_iload_n ok d_Mo_begin_113 rfl 2 rfl ?_
        refine h_iast ok _ a_245 (by omega) d_Mo_begin_114 ?_
        refine g_aload_n ok d_Mo_begin_115 rfl 0 rfl ?_
        refine gI_Mo_told ok _ rfl k_992 d_Mo_begin_116 ?_
        refine g_bipush ok (by decide) d_Mo_begin_119 ?_
        refine g_iload_n ok d_Mo_begin_121 rfl 3 rfl ?_
        refine h_iast ok _ a_245 (by omega) d_Mo_begin_122 ?_
        refine g_aload_n ok d_Mo_begin_123 rfl 0 rfl ?_
        refine gI_Mo_told ok _ rfl k_992 d_Mo_begin_124 ?_
        refine g_bipush ok (by decide) d_Mo_begin_127 ?_
        refine g_iload ok d_Mo_begin_129 4 rfl ?_
        refine h_iast ok _ a_245 (by omega) d_Mo_begin_131 ?_
        refine g_iconst ok d_Mo_begin_132 ?_
        refine g_istore (lv' := [(6, .int (iI 0)), (0, .ref (ad 244)), (1, .int (iI c0)), (2, .int (iI f0)), (3, .int (iI sp)), (4, .int (iI d)), (5, .int (iI wv))]) ok d_Mo_begin_133 (by decide) rfl ?_
        refine g_iload ok d_Mo_begin_135 0 rfl ?_
        refine g_iconst ok d_Mo_begin_137 ?_
        refine g_icmp_ge ok 158 d_Mo_begin_138 (by decide) (by omega) (by omega) (fun h2 => ?_) (fun h2 => ?_)
        · exact absurd h2 (by decide)
        · refine g_aload_n ok d_Mo_begin_141 rfl 1 rfl ?_
          refine gI_Mo_corners ok _ rfl k_993 d_Mo_begin_142 ?_
          refine g_bipush ok (by decide) d_Mo_begin_145 ?_
          refine g_iload ok d_Mo_begin_147 0 rfl ?_
          refine g_iadd ok d_Mo_begin_149 ?_
          refine g_top (y := 40) rfl ?_
          refine g_iconst ok d_Mo_begin_150 ?_
          refine h_iast ok _ a_246 (by omega) d_Mo_begin_151 ?_
          refine g_iinc (lv' := [(6, .int (iI 1)), (0, .ref (ad 244)), (1, .int (iI c0)), (2, .int (iI f0)), (3, .int (iI sp)), (4, .int (iI d)), (5, .int (iI wv))]) ok d_Mo_begin_152 0 rfl (by decide) rfl ?_
          refine g_goto ok 135 d_Mo_begin_155 (by decide) ?_
          refine g_iload ok d_Mo_begin_135 0 rfl ?_
          refine g_iconst ok d_Mo_begin_137 ?_
          refine g_icmp_ge ok 158 d_Mo_begin_138 (by decide) (by omega) (by omega) (fun h3 => ?_) (fun h3 => ?_)
          · exact absurd h3 (by decide)
          · refine g_aload_n ok d_Mo_begin_141 rfl 1 rfl ?_
            refine gI_Mo_corners ok _ rfl k_993 d_Mo_begin_142 ?_
            refine g_bipush ok (by decide) d_Mo_begin_145 ?_
            refine g_iload ok d_Mo_begin_147 0 rfl ?_
            refine g_iadd ok d_Mo_begin_149 ?_
            refine g_top (y := 41) rfl ?_
            refine g_iconst ok d_Mo_begin_150 ?_
            refine h_iast ok _ a_246 (by omega) d_Mo_begin_151 ?_
            refine g_iinc (lv' := [(6, .int (iI 2)), (0, .ref (ad 244)), (1, .int (iI c0)), (2, .int (iI f0)), (3, .int (iI sp)), (4, .int (iI d)), (5, .int (iI wv))]) ok d_Mo_begin_152 0 rfl (by decide) rfl ?_
            refine g_goto ok 135 d_Mo_begin_155 (by decide) ?_
            refine g_iload ok d_Mo_begin_135 0 rfl ?_
            refine g_iconst ok d_Mo_begin_137 ?_
            refine g_icmp_ge ok 158 d_Mo_begin_138 (by decide) (by omega) (by omega) (fun h4 => ?_) (fun h4 => ?_)
            · exact absurd h4 (by decide)
            · refine g_aload_n ok d_Mo_begin_141 rfl 1 rfl ?_
              refine gI_Mo_corners ok _ rfl k_993 d_Mo_begin_142 ?_
              refine g_bipush ok (by decide) d_Mo_begin_145 ?_
              refine g_iload ok d_Mo_begin_147 0 rfl ?_
              refine g_iadd ok d_Mo_begin_149 ?_
              refine g_top (y := 42) rfl ?_
              refine g_iconst ok d_Mo_begin_150 ?_
              refine h_iast ok _ a_246 (by omega) d_Mo_begin_151 ?_
              refine g_iinc (lv' := [(6, .int (iI 3)), (0, .ref (ad 244)), (1, .int (iI c0)), (2, .int (iI f0)), (3, .int (iI sp)), (4, .int (iI d)), (5, .int (iI wv))]) ok d_Mo_begin_152 0 rfl (by decide) rfl ?_
              refine g_goto ok 135 d_Mo_begin_155 (by decide) ?_
              refine g_iload ok d_Mo_begin_135 0 rfl ?_
              refine g_iconst ok d_Mo_begin_137 ?_
              refine g_icmp_ge ok 158 d_Mo_begin_138 (by decide) (by omega) (by omega) (fun h5 => ?_) (fun h5 => ?_)
              · exact absurd h5 (by decide)
              · refine g_aload_n ok d_Mo_begin_141 rfl 1 rfl ?_
                refine gI_Mo_corners ok _ rfl k_993 d_Mo_begin_142 ?_
                refine g_bipush ok (by decide) d_Mo_begin_145 ?_
                refine g_iload ok d_Mo_begin_147 0 rfl ?_
                refine g_iadd ok d_Mo_begin_149 ?_
                refine g_top (y := 43) rfl ?_
                refine g_iconst ok d_Mo_begin_150 ?_
                refine h_iast ok _ a_246 (by omega) d_Mo_begin_151 ?_
                refine g_iinc (lv' := [(6, .int (iI 4)), (0, .ref (ad 244)), (1, .int (iI c0)), (2, .int (iI f0)), (3, .int (iI sp)), (4, .int (iI d)), (5, .int (iI wv))]) ok d_Mo_begin_152 0 rfl (by decide) rfl ?_
                refine g_goto ok 135 d_Mo_begin_155 (by decide) ?_
                refine g_iload ok d_Mo_begin_135 0 rfl ?_
                refine g_iconst ok d_Mo_begin_137 ?_
                refine g_icmp_ge ok 158 d_Mo_begin_138 (by decide) (by omega) (by omega) (fun h6 => ?_) (fun h6 => ?_)
                · exact g_vret ok d_Mo_begin_158 ⟨_, _, rfl, tcv, htc, Or.inr ⟨by omega, by rw [show tcv = 0 by omega], rfl⟩⟩
                · exact absurd h6 (by decide)
      · exact g_vret ok d_Mo_begin_93 ⟨_, _, rfl, tcv, htc, Or.inl ⟨by omega, rfl, rfl⟩⟩
    refine g_aload_n ok d_Mo_begin_48 rfl 1 rfl ?_
    refine g_aload_n ok d_Mo_begin_49 rfl 1 rfl ?_
    refine gI_Mo_open ok _ rfl k_991 d_Mo_begin_50 ?_
    refine g_if_eq ok 60 d_Mo_begin_53 (by decide) (by omega) (fun h7 => ?_) (fun h7 => ?_)
    · refine g_aload_n ok d_Mo_begin_60 rfl 1 rfl ?_
      refine gI_Mo_shapes ok _ rfl k_990 d_Mo_begin_61 ?_
      refine g_bipush ok (by decide) d_Mo_begin_64 ?_
      refine g_icmp_ne ok 73 d_Mo_begin_66 (by decide) (by omega) (by omega) (fun h8 => ?_) (fun h8 => ?_)
      · refine g_iload ok d_Mo_begin_73 0 rfl ?_
        refine g_if_eq ok 82 d_Mo_begin_75 (by decide) (by omega) (fun h9 => ?_) (fun h9 => ?_)
        · refine g_iconst ok d_Mo_begin_82 ?_
          refine g_lv [1, 2, 3, 4, 5, 0] rfl ?_
          exact J_t 0 (by unfold bgM; exact Or.inr (Or.inr (Or.inr ⟨rfl, by omega, by omega, by rcases hwv with z | z; omega; exact z.2⟩)))
        · refine g_iconst ok d_Mo_begin_78 ?_
          refine g_goto ok 83 d_Mo_begin_79 (by decide) ?_
          refine g_lv [1, 2, 3, 4, 5, 0] rfl ?_
          exact J_t 3 (by unfold bgM; exact Or.inr (Or.inr (Or.inl ⟨rfl, by omega, by omega, by rcases hwv with z | z; exact z.2; omega⟩)))
      · refine g_iconst ok d_Mo_begin_69 ?_
        refine g_goto ok 83 d_Mo_begin_70 (by decide) ?_
        refine g_lv [1, 2, 3, 4, 5, 0] rfl ?_
        exact J_t 2 (by unfold bgM; exact Or.inr (Or.inl ⟨rfl, by omega, by omega⟩))
    · refine g_iconst ok d_Mo_begin_56 ?_
      refine g_goto ok 83 d_Mo_begin_57 (by decide) ?_
      refine g_lv [1, 2, 3, 4, 5, 0] rfl ?_
      exact J_t 1 (by unfold bgM; exact Or.inl ⟨rfl, by omega⟩)
  refine g_iload_n ok d_Mo_begin_0 rfl 1 rfl ?_
  refine g_if_lt ok 41 d_Mo_begin_1 (by decide) (by omega) (fun h10 => ?_) (fun h10 => ?_)
  · refine g_iconst ok d_Mo_begin_41 ?_
    refine g_goto ok 46 d_Mo_begin_42 (by decide) ?_
    exact J_w 1 (Or.inl ⟨rfl, by unfold bgOk; omega⟩)
  · refine g_iload_n ok d_Mo_begin_4 rfl 1 rfl ?_
    refine g_bipush ok (by decide) d_Mo_begin_5 ?_
    refine g_icmp_gt ok 41 d_Mo_begin_7 (by decide) (by omega) (by omega) (fun h11 => ?_) (fun h11 => ?_)
    · refine g_iconst ok d_Mo_begin_41 ?_
      refine g_goto ok 46 d_Mo_begin_42 (by decide) ?_
      exact J_w 1 (Or.inl ⟨rfl, by unfold bgOk; omega⟩)
    · refine g_iload_n ok d_Mo_begin_10 rfl 2 rfl ?_
      refine g_if_lt ok 41 d_Mo_begin_11 (by decide) (by omega) (fun h12 => ?_) (fun h12 => ?_)
      · refine g_iconst ok d_Mo_begin_41 ?_
        refine g_goto ok 46 d_Mo_begin_42 (by decide) ?_
        exact J_w 1 (Or.inl ⟨rfl, by unfold bgOk; omega⟩)
      · refine g_iload_n ok d_Mo_begin_14 rfl 2 rfl ?_
        refine g_iconst ok d_Mo_begin_15 ?_
        refine g_icmp_gt ok 41 d_Mo_begin_16 (by decide) (by omega) (by omega) (fun h13 => ?_) (fun h13 => ?_)
        · refine g_iconst ok d_Mo_begin_41 ?_
          refine g_goto ok 46 d_Mo_begin_42 (by decide) ?_
          exact J_w 1 (Or.inl ⟨rfl, by unfold bgOk; omega⟩)
        · refine g_iload_n ok d_Mo_begin_19 rfl 3 rfl ?_
          refine g_iconst ok d_Mo_begin_20 ?_
          refine g_icmp_lt ok 41 d_Mo_begin_21 (by decide) (by omega) (by omega) (fun h14 => ?_) (fun h14 => ?_)
          · refine g_iconst ok d_Mo_begin_41 ?_
            refine g_goto ok 46 d_Mo_begin_42 (by decide) ?_
            exact J_w 1 (Or.inl ⟨rfl, by unfold bgOk; omega⟩)
          · refine g_iload_n ok d_Mo_begin_24 rfl 3 rfl ?_
            refine g_bipush ok (by decide) d_Mo_begin_25 ?_
            refine g_icmp_gt ok 41 d_Mo_begin_27 (by decide) (by omega) (by omega) (fun h15 => ?_) (fun h15 => ?_)
            · refine g_iconst ok d_Mo_begin_41 ?_
              refine g_goto ok 46 d_Mo_begin_42 (by decide) ?_
              exact J_w 1 (Or.inl ⟨rfl, by unfold bgOk; omega⟩)
            · refine g_iload ok d_Mo_begin_30 4 rfl ?_
              refine g_if_lt ok 41 d_Mo_begin_32 (by decide) (by omega) (fun h16 => ?_) (fun h16 => ?_)
              · refine g_iconst ok d_Mo_begin_41 ?_
                refine g_goto ok 46 d_Mo_begin_42 (by decide) ?_
                exact J_w 1 (Or.inl ⟨rfl, by unfold bgOk; omega⟩)
              · refine g_iload ok d_Mo_begin_35 4 rfl ?_
                refine g_iconst ok d_Mo_begin_37 ?_
                refine g_icmp_le ok 45 d_Mo_begin_38 (by decide) (by omega) (by omega) (fun h17 => ?_) (fun h17 => ?_)
                · refine g_iconst ok d_Mo_begin_45 ?_
                  exact J_w 0 (Or.inr ⟨rfl, by unfold bgOk; omega⟩)
                · refine g_iconst ok d_Mo_begin_41 ?_
                  refine g_goto ok 46 d_Mo_begin_42 (by decide) ?_
                  exact J_w 1 (Or.inl ⟨rfl, by unfold bgOk; omega⟩)
theorem d_Mo_corner_0 : decode b_Mo_corner 0 = .ok (.aload_n 0, 1) := by decide +kernel
theorem d_Mo_corner_1 : decode b_Mo_corner 1 = .ok (.aload_n 0, 1) := by decide +kernel
theorem d_Mo_corner_2 : decode b_Mo_corner 2 = .ok (.getfield 16, 3) := by decide +kernel
theorem d_Mo_corner_5 : decode b_Mo_corner 5 = .ok (.ifCond .eq 14, 3) := by decide +kernel
theorem d_Mo_corner_8 : decode b_Mo_corner 8 = .ok (.aload_n 0, 1) := by decide +kernel
theorem d_Mo_corner_9 : decode b_Mo_corner 9 = .ok (.getfield 20, 3) := by decide +kernel
theorem d_Mo_corner_12 : decode b_Mo_corner 12 = .ok (.bipush 41, 2) := by decide +kernel
theorem d_Mo_corner_14 : decode b_Mo_corner 14 = .ok (.iaload, 1) := by decide +kernel
theorem d_Mo_corner_15 : decode b_Mo_corner 15 = .ok (.iconst 1, 1) := by decide +kernel
theorem d_Mo_corner_16 : decode b_Mo_corner 16 = .ok (.if_icmp .ne 7, 3) := by decide +kernel
theorem d_Mo_corner_19 : decode b_Mo_corner 19 = .ok (.iconst 1, 1) := by decide +kernel
theorem d_Mo_corner_20 : decode b_Mo_corner 20 = .ok (.goto 43, 3) := by decide +kernel
theorem d_Mo_corner_23 : decode b_Mo_corner 23 = .ok (.iload_n 1, 1) := by decide +kernel
theorem d_Mo_corner_24 : decode b_Mo_corner 24 = .ok (.ifCond .lt 16, 3) := by decide +kernel
theorem d_Mo_corner_27 : decode b_Mo_corner 27 = .ok (.iload_n 1, 1) := by decide +kernel
theorem d_Mo_corner_28 : decode b_Mo_corner 28 = .ok (.iconst 3, 1) := by decide +kernel
theorem d_Mo_corner_29 : decode b_Mo_corner 29 = .ok (.if_icmp .gt 11, 3) := by decide +kernel
theorem d_Mo_corner_32 : decode b_Mo_corner 32 = .ok (.iload_n 2, 1) := by decide +kernel
theorem d_Mo_corner_33 : decode b_Mo_corner 33 = .ok (.iload_n 3, 1) := by decide +kernel
theorem d_Mo_corner_34 : decode b_Mo_corner 34 = .ok (.invokestatic 202, 3) := by decide +kernel
theorem d_Mo_corner_37 : decode b_Mo_corner 37 = .ok (.ifCond .ne 7, 3) := by decide +kernel
theorem d_Mo_corner_40 : decode b_Mo_corner 40 = .ok (.iconst 2, 1) := by decide +kernel
theorem d_Mo_corner_41 : decode b_Mo_corner 41 = .ok (.goto 22, 3) := by decide +kernel
theorem d_Mo_corner_44 : decode b_Mo_corner 44 = .ok (.aload_n 0, 1) := by decide +kernel
theorem d_Mo_corner_45 : decode b_Mo_corner 45 = .ok (.getfield 24, 3) := by decide +kernel
theorem d_Mo_corner_48 : decode b_Mo_corner 48 = .ok (.bipush 40, 2) := by decide +kernel
theorem d_Mo_corner_50 : decode b_Mo_corner 50 = .ok (.iload_n 1, 1) := by decide +kernel
theorem d_Mo_corner_51 : decode b_Mo_corner 51 = .ok (.iadd, 1) := by decide +kernel
theorem d_Mo_corner_52 : decode b_Mo_corner 52 = .ok (.iaload, 1) := by decide +kernel
theorem d_Mo_corner_53 : decode b_Mo_corner 53 = .ok (.bipush 24, 2) := by decide +kernel
theorem d_Mo_corner_55 : decode b_Mo_corner 55 = .ok (.if_icmp .ne 7, 3) := by decide +kernel
theorem d_Mo_corner_58 : decode b_Mo_corner 58 = .ok (.iconst 3, 1) := by decide +kernel
theorem d_Mo_corner_59 : decode b_Mo_corner 59 = .ok (.goto 4, 3) := by decide +kernel
theorem d_Mo_corner_62 : decode b_Mo_corner 62 = .ok (.iconst 0, 1) := by decide +kernel
theorem d_Mo_corner_63 : decode b_Mo_corner 63 = .ok (.putfield 7, 3) := by decide +kernel
theorem d_Mo_corner_66 : decode b_Mo_corner 66 = .ok (.aload_n 0, 1) := by decide +kernel
theorem d_Mo_corner_67 : decode b_Mo_corner 67 = .ok (.getfield 7, 3) := by decide +kernel
theorem d_Mo_corner_70 : decode b_Mo_corner 70 = .ok (.ifCond .eq 7, 3) := by decide +kernel
theorem d_Mo_corner_73 : decode b_Mo_corner 73 = .ok (.iconst 0, 1) := by decide +kernel
theorem d_Mo_corner_74 : decode b_Mo_corner 74 = .ok (.goto 10, 3) := by decide +kernel
theorem d_Mo_corner_77 : decode b_Mo_corner 77 = .ok (.aload_n 0, 1) := by decide +kernel
theorem d_Mo_corner_78 : decode b_Mo_corner 78 = .ok (.iload_n 1, 1) := by decide +kernel
theorem d_Mo_corner_79 : decode b_Mo_corner 79 = .ok (.iload_n 2, 1) := by decide +kernel
theorem d_Mo_corner_80 : decode b_Mo_corner 80 = .ok (.iload_n 3, 1) := by decide +kernel
theorem d_Mo_corner_81 : decode b_Mo_corner 81 = .ok (.invokevirtual 223, 3) := by decide +kernel
theorem d_Mo_corner_84 : decode b_Mo_corner 84 = .ok (.ireturn, 1) := by decide +kernel
set_option maxHeartbeats 1000000 in
set_option maxRecDepth 100000 in
theorem c_Mo_corner (F : Nat → Nat → Int) (G : Nat → Int → Int) (r x y : Int) (hr : -2147483648 ≤ r ∧ r < 2147483648) (hx : -2147483648 ≤ x ∧ x < 2147483648) (hy : -2147483648 ≤ y ∧ y < 2147483648) (ho : F 244 2 = 0 ∨ F 244 2 = 1) (hfl : 0 ≤ G 245 41 ∧ G 245 41 ≤ 2) (hc4 : ∀ r : Int, 0 ≤ r → r ≤ 3 → 0 ≤ G 246 (40 + r) ∧ G 246 (40 + r) ≤ 24) : cI y_Mo_corner b_Mo_corner 4 (some .int) 1 24 F G (fun ad => [.ref (ad 244), .int (iI r), .int (iI x), .int (iI y)]) (fun z F' G' => ∃ tc, coM F G r x y tc ∧ ((tc ≠ 0 ∧ F' = fU F 244 0 tc ∧ G' = G ∧ z = 0) ∨ (tc = 0 ∧ F' = fU F 244 0 0 ∧ z = G 246 (40 + r) + 1 ∧ G' = gU (gU (gU G 247 (960 + 24 * r + G 246 (40 + r)) x) 248 (960 + 24 * r + G 246 (40 + r)) y) 246 (40 + r) (G 246 (40 + r) + 1)))) := by
  intro s0 a0 D t ad
  refine g_startI (by decide +kernel) (Nat.le_of_ble_eq_true rfl) (fun p l e R s m args below meth c A ok => ?_)
  show gW p l e R s m args below meth c _ D A 4 (gZ0 s) 0 0 ad 265 (mem ad t F G) 0 [(0, .ref (ad 244)), (1, .int (iI r)), (2, .int (iI x)), (3, .int (iI y))] []
  have J_t : ∀ (tcv : Int), (coM F G r x y tcv) → gW p l e R s m args below meth c (MQ below (gQi D A ad 265 (fun z ce' => ∃ F' G', ce' = mem ad t F' G' ∧ (fun z F' G' => ∃ tc, coM F G r x y tc ∧ ((tc ≠ 0 ∧ F' = fU F 244 0 tc ∧ G' = G ∧ z = 0) ∨ (tc = 0 ∧ F' = fU F 244 0 0 ∧ z = G 246 (40 + r) + 1 ∧ G' = gU (gU (gU G 247 (960 + 24 * r + G 246 (40 + r)) x) 248 (960 + 24 * r + G 246 (40 + r)) y) 246 (40 + r) (G 246 (40 + r) + 1)))) z F' G')) args s 0 0 A) D A 4 (gZ0 s) 0 0 ad 265 (mem ad t F G) 63 [(0, .ref (ad 244)), (1, .int (iI r)), (2, .int (iI x)), (3, .int (iI y))] [.int (iI tcv), .ref (ad 244)] := by
    intro tcv htc
    have htr : 0 ≤ tcv ∧ tcv ≤ 3 := by unfold coM at htc; omega
    refine pI_Mo_thrownCode ok _ rfl k_989 d_Mo_corner_63 ?_
    refine g_aload_n ok d_Mo_corner_66 rfl 0 rfl ?_
    refine gI_Mo_thrownCode ok _ rfl k_989 d_Mo_corner_67 ?_
    refine g_top (y := tcv) (by show (fU F 244 0 tcv) 244 0 = _; rw [fU_hit]) ?_
    refine g_if_eq ok 77 d_Mo_corner_70 (by decide) (by omega) (fun h1 => ?_) (fun h1 => ?_)
    · refine g_aload_n ok d_Mo_corner_77 rfl 0 rfl ?_
      refine g_iload_n ok d_Mo_corner_78 rfl 1 rfl ?_
      refine g_iload_n ok d_Mo_corner_79 rfl 2 rfl ?_
      refine g_iload_n ok d_Mo_corner_80 rfl 3 rfl ?_
      have h0 : F 244 2 = 1 ∧ (0 ≤ r ∧ r ≤ 3) ∧ ¬ G 246 (40 + r) = 24 := by unfold coM at htc; omega
      have hcr := hc4 r (by omega) (by omega)
      refine g_callIV (As := [.int (iI r), .int (iI x), .int (iI y)]) (st := []) ok _ (c_Mo_oneMore (fU F 244 0 tcv) G _ _ _ (by omega) (by omega) s0 a0 D t ad) k_1111 k_11 k_1108 cl_Mo (m_Mo (ad := ad) (t := t) (F := (fU F 244 0 tcv)) (G := G) rfl).1 (m_Mo rfl).2 k_1110 s_Mo_oneMore q_Mo_oneMore (by decide) (Nat.le_of_ble_eq_true rfl) (by decide) d_Mo_corner_81 (fun zo ce1 hc2 => ?_)
      obtain ⟨F1, G1, rfl, hz1, hF1, hG1⟩ := hc2
      exact g_iret ok d_Mo_corner_84 ⟨_, _, rfl, tcv, htc, Or.inr ⟨by omega, by rw [hF1, show tcv = 0 by omega], hz1, hG1⟩⟩
    · refine g_iconst ok d_Mo_corner_73 ?_
      refine g_goto ok 84 d_Mo_corner_74 (by decide) ?_
      exact g_iret ok d_Mo_corner_84 ⟨_, _, rfl, tcv, htc, Or.inl ⟨by omega, rfl, rfl, rfl⟩⟩
  refine g_aload_n ok d_Mo_corner_0 rfl 0 rfl ?_
  refine g_aload_n ok d_Mo_corner_1 rfl 0 rfl ?_
  refine gI_Mo_open ok _ rfl k_991 d_Mo_corner_2 ?_
  refine g_if_eq ok 19 d_Mo_corner_5 (by decide) (by omega) (fun h3 => ?_) (fun h3 => ?_)
  · refine g_iconst ok d_Mo_corner_19 ?_
    refine g_goto ok 63 d_Mo_corner_20 (by decide) ?_
    exact J_t 1 (Or.inl ⟨rfl, by omega⟩)
  · refine g_aload_n ok d_Mo_corner_8 rfl 0 rfl ?_
    refine gI_Mo_told ok _ rfl k_992 d_Mo_corner_9 ?_
    refine g_bipush ok (by decide) d_Mo_corner_12 ?_
    refine h_iald ok _ a_245 (by omega) d_Mo_corner_14 ?_
    refine g_iconst ok d_Mo_corner_15 ?_
    refine g_icmp_ne ok 23 d_Mo_corner_16 (by decide) (by omega) (by omega) (fun h4 => ?_) (fun h4 => ?_)
    · refine g_iload_n ok d_Mo_corner_23 rfl 1 rfl ?_
      refine g_if_lt ok 40 d_Mo_corner_24 (by decide) (by omega) (fun h5 => ?_) (fun h5 => ?_)
      · refine g_iconst ok d_Mo_corner_40 ?_
        refine g_goto ok 63 d_Mo_corner_41 (by decide) ?_
        exact J_t 2 (Or.inr (Or.inl ⟨rfl, by omega, by omega, fun q => by omega⟩))
      · refine g_iload_n ok d_Mo_corner_27 rfl 1 rfl ?_
        refine g_iconst ok d_Mo_corner_28 ?_
        refine g_icmp_gt ok 40 d_Mo_corner_29 (by decide) (by omega) (by omega) (fun h6 => ?_) (fun h6 => ?_)
        · refine g_iconst ok d_Mo_corner_40 ?_
          refine g_goto ok 63 d_Mo_corner_41 (by decide) ?_
          exact J_t 2 (Or.inr (Or.inl ⟨rfl, by omega, by omega, fun q => by omega⟩))
        · refine g_iload_n ok d_Mo_corner_32 rfl 2 rfl ?_
          refine g_iload_n ok d_Mo_corner_33 rfl 3 rfl ?_
          refine g_callPS (As := [.int (iI x), .int (iI y)]) (st := [.ref (ad 244)]) ok (c_Mo_isPlace F G _ _ hx hy s0 a0 D t ad) k_1107 k_11 k_1105 k_1106 q_Mo_isPlace (by decide) (Nat.le_of_ble_eq_true rfl) (by decide) d_Mo_corner_34 (fun z7 hc7 => ?_)
          have hpl : (z7 = 1 ∧ inR x y) ∨ (z7 = 0 ∧ ¬ inR x y) := by rw [hc7]; unfold inR; split <;> omega
          refine g_if_ne ok 44 d_Mo_corner_37 (by decide) (by omega) (fun h8 => ?_) (fun h8 => ?_)
          · have hcr2 := hc4 r (by omega) (by omega)
            refine g_aload_n ok d_Mo_corner_44 rfl 0 rfl ?_
            refine gI_Mo_corners ok _ rfl k_993 d_Mo_corner_45 ?_
            refine g_bipush ok (by decide) d_Mo_corner_48 ?_
            refine g_iload_n ok d_Mo_corner_50 rfl 1 rfl ?_
            refine g_iadd ok d_Mo_corner_51 ?_
            refine h_iald ok _ a_246 (by omega) d_Mo_corner_52 ?_
            refine g_bipush ok (by decide) d_Mo_corner_53 ?_
            refine g_icmp_ne ok 62 d_Mo_corner_55 (by decide) (by omega) (by omega) (fun h9 => ?_) (fun h9 => ?_)
            · refine g_iconst ok d_Mo_corner_62 ?_
              exact J_t 0 (Or.inr (Or.inr (Or.inr ⟨rfl, by omega, by omega, ⟨by omega, by rcases hpl with z | z; exact z.2; omega⟩, by omega⟩)))
            · refine g_iconst ok d_Mo_corner_58 ?_
              refine g_goto ok 63 d_Mo_corner_59 (by decide) ?_
              exact J_t 3 (Or.inr (Or.inr (Or.inl ⟨rfl, by omega, by omega, ⟨by omega, by rcases hpl with z | z; exact z.2; omega⟩, by omega⟩)))
          · refine g_iconst ok d_Mo_corner_40 ?_
            refine g_goto ok 63 d_Mo_corner_41 (by decide) ?_
            exact J_t 2 (Or.inr (Or.inl ⟨rfl, by omega, by omega, fun q => by rcases hpl with z | z; omega; exact z.2 q.2⟩))
    · refine g_iconst ok d_Mo_corner_19 ?_
      refine g_goto ok 63 d_Mo_corner_20 (by decide) ?_
      exact J_t 1 (Or.inl ⟨rfl, by omega⟩)
theorem d_Mo_rail_0 : decode b_Mo_rail 0 = .ok (.aload_n 0, 1) := by decide +kernel
theorem d_Mo_rail_1 : decode b_Mo_rail 1 = .ok (.aload_n 0, 1) := by decide +kernel
theorem d_Mo_rail_2 : decode b_Mo_rail 2 = .ok (.getfield 16, 3) := by decide +kernel
theorem d_Mo_rail_5 : decode b_Mo_rail 5 = .ok (.ifCond .eq 14, 3) := by decide +kernel
theorem d_Mo_rail_8 : decode b_Mo_rail 8 = .ok (.aload_n 0, 1) := by decide +kernel
theorem d_Mo_rail_9 : decode b_Mo_rail 9 = .ok (.getfield 20, 3) := by decide +kernel
theorem d_Mo_rail_12 : decode b_Mo_rail 12 = .ok (.bipush 41, 2) := by decide +kernel
theorem d_Mo_rail_14 : decode b_Mo_rail 14 = .ok (.iaload, 1) := by decide +kernel
theorem d_Mo_rail_15 : decode b_Mo_rail 15 = .ok (.iconst 1, 1) := by decide +kernel
theorem d_Mo_rail_16 : decode b_Mo_rail 16 = .ok (.if_icmp .eq 7, 3) := by decide +kernel
theorem d_Mo_rail_19 : decode b_Mo_rail 19 = .ok (.iconst 1, 1) := by decide +kernel
theorem d_Mo_rail_20 : decode b_Mo_rail 20 = .ok (.goto 43, 3) := by decide +kernel
theorem d_Mo_rail_23 : decode b_Mo_rail 23 = .ok (.iload_n 1, 1) := by decide +kernel
theorem d_Mo_rail_24 : decode b_Mo_rail 24 = .ok (.ifCond .lt 16, 3) := by decide +kernel
theorem d_Mo_rail_27 : decode b_Mo_rail 27 = .ok (.iload_n 1, 1) := by decide +kernel
theorem d_Mo_rail_28 : decode b_Mo_rail 28 = .ok (.iconst 1, 1) := by decide +kernel
theorem d_Mo_rail_29 : decode b_Mo_rail 29 = .ok (.if_icmp .gt 11, 3) := by decide +kernel
theorem d_Mo_rail_32 : decode b_Mo_rail 32 = .ok (.iload_n 2, 1) := by decide +kernel
theorem d_Mo_rail_33 : decode b_Mo_rail 33 = .ok (.iload_n 3, 1) := by decide +kernel
theorem d_Mo_rail_34 : decode b_Mo_rail 34 = .ok (.invokestatic 202, 3) := by decide +kernel
theorem d_Mo_rail_37 : decode b_Mo_rail 37 = .ok (.ifCond .ne 7, 3) := by decide +kernel
theorem d_Mo_rail_40 : decode b_Mo_rail 40 = .ok (.iconst 2, 1) := by decide +kernel
theorem d_Mo_rail_41 : decode b_Mo_rail 41 = .ok (.goto 22, 3) := by decide +kernel
theorem d_Mo_rail_44 : decode b_Mo_rail 44 = .ok (.aload_n 0, 1) := by decide +kernel
theorem d_Mo_rail_45 : decode b_Mo_rail 45 = .ok (.getfield 24, 3) := by decide +kernel
theorem d_Mo_rail_48 : decode b_Mo_rail 48 = .ok (.bipush 40, 2) := by decide +kernel
theorem d_Mo_rail_50 : decode b_Mo_rail 50 = .ok (.iload_n 1, 1) := by decide +kernel
theorem d_Mo_rail_51 : decode b_Mo_rail 51 = .ok (.iadd, 1) := by decide +kernel
theorem d_Mo_rail_52 : decode b_Mo_rail 52 = .ok (.iaload, 1) := by decide +kernel
theorem d_Mo_rail_53 : decode b_Mo_rail 53 = .ok (.bipush 16, 2) := by decide +kernel
theorem d_Mo_rail_55 : decode b_Mo_rail 55 = .ok (.if_icmp .ne 7, 3) := by decide +kernel
theorem d_Mo_rail_58 : decode b_Mo_rail 58 = .ok (.iconst 3, 1) := by decide +kernel
theorem d_Mo_rail_59 : decode b_Mo_rail 59 = .ok (.goto 4, 3) := by decide +kernel
theorem d_Mo_rail_62 : decode b_Mo_rail 62 = .ok (.iconst 0, 1) := by decide +kernel
theorem d_Mo_rail_63 : decode b_Mo_rail 63 = .ok (.putfield 7, 3) := by decide +kernel
theorem d_Mo_rail_66 : decode b_Mo_rail 66 = .ok (.aload_n 0, 1) := by decide +kernel
theorem d_Mo_rail_67 : decode b_Mo_rail 67 = .ok (.getfield 7, 3) := by decide +kernel
theorem d_Mo_rail_70 : decode b_Mo_rail 70 = .ok (.ifCond .eq 7, 3) := by decide +kernel
theorem d_Mo_rail_73 : decode b_Mo_rail 73 = .ok (.iconst 0, 1) := by decide +kernel
theorem d_Mo_rail_74 : decode b_Mo_rail 74 = .ok (.goto 10, 3) := by decide +kernel
theorem d_Mo_rail_77 : decode b_Mo_rail 77 = .ok (.aload_n 0, 1) := by decide +kernel
theorem d_Mo_rail_78 : decode b_Mo_rail 78 = .ok (.iload_n 1, 1) := by decide +kernel
theorem d_Mo_rail_79 : decode b_Mo_rail 79 = .ok (.iload_n 2, 1) := by decide +kernel
theorem d_Mo_rail_80 : decode b_Mo_rail 80 = .ok (.iload_n 3, 1) := by decide +kernel
theorem d_Mo_rail_81 : decode b_Mo_rail 81 = .ok (.invokevirtual 223, 3) := by decide +kernel
theorem d_Mo_rail_84 : decode b_Mo_rail 84 = .ok (.ireturn, 1) := by decide +kernel
set_option maxHeartbeats 1000000 in
set_option maxRecDepth 100000 in
theorem c_Mo_rail (F : Nat → Nat → Int) (G : Nat → Int → Int) (r x y : Int) (hr : -2147483648 ≤ r ∧ r < 2147483648) (hx : -2147483648 ≤ x ∧ x < 2147483648) (hy : -2147483648 ≤ y ∧ y < 2147483648) (ho : F 244 2 = 0 ∨ F 244 2 = 1) (hfl : 0 ≤ G 245 41 ∧ G 245 41 ≤ 2) (hc4 : ∀ r : Int, 0 ≤ r → r ≤ 1 → 0 ≤ G 246 (40 + r) ∧ G 246 (40 + r) ≤ 16) : cI y_Mo_rail b_Mo_rail 4 (some .int) 1 24 F G (fun ad => [.ref (ad 244), .int (iI r), .int (iI x), .int (iI y)]) (fun z F' G' => ∃ tc, raM F G r x y tc ∧ ((tc ≠ 0 ∧ F' = fU F 244 0 tc ∧ G' = G ∧ z = 0) ∨ (tc = 0 ∧ F' = fU F 244 0 0 ∧ z = G 246 (40 + r) + 1 ∧ G' = gU (gU (gU G 247 (960 + 24 * r + G 246 (40 + r)) x) 248 (960 + 24 * r + G 246 (40 + r)) y) 246 (40 + r) (G 246 (40 + r) + 1)))) := by
  intro s0 a0 D t ad
  refine g_startI (by decide +kernel) (Nat.le_of_ble_eq_true rfl) (fun p l e R s m args below meth c A ok => ?_)
  show gW p l e R s m args below meth c _ D A 4 (gZ0 s) 0 0 ad 265 (mem ad t F G) 0 [(0, .ref (ad 244)), (1, .int (iI r)), (2, .int (iI x)), (3, .int (iI y))] []
  have J_t : ∀ (tcv : Int), (raM F G r x y tcv) → gW p l e R s m args below meth c (MQ below (gQi D A ad 265 (fun z ce' => ∃ F' G', ce' = mem ad t F' G' ∧ (fun z F' G' => ∃ tc, raM F G r x y tc ∧ ((tc ≠ 0 ∧ F' = fU F 244 0 tc ∧ G' = G ∧ z = 0) ∨ (tc = 0 ∧ F' = fU F 244 0 0 ∧ z = G 246 (40 + r) + 1 ∧ G' = gU (gU (gU G 247 (960 + 24 * r + G 246 (40 + r)) x) 248 (960 + 24 * r + G 246 (40 + r)) y) 246 (40 + r) (G 246 (40 + r) + 1)))) z F' G')) args s 0 0 A) D A 4 (gZ0 s) 0 0 ad 265 (mem ad t F G) 63 [(0, .ref (ad 244)), (1, .int (iI r)), (2, .int (iI x)), (3, .int (iI y))] [.int (iI tcv), .ref (ad 244)] := by
    intro tcv htc
    have htr : 0 ≤ tcv ∧ tcv ≤ 3 := by unfold raM at htc; omega
    refine pI_Mo_thrownCode ok _ rfl k_989 d_Mo_rail_63 ?_
    refine g_aload_n ok d_Mo_rail_66 rfl 0 rfl ?_
    refine gI_Mo_thrownCode ok _ rfl k_989 d_Mo_rail_67 ?_
    refine g_top (y := tcv) (by show (fU F 244 0 tcv) 244 0 = _; rw [fU_hit]) ?_
    refine g_if_eq ok 77 d_Mo_rail_70 (by decide) (by omega) (fun h1 => ?_) (fun h1 => ?_)
    · refine g_aload_n ok d_Mo_rail_77 rfl 0 rfl ?_
      refine g_iload_n ok d_Mo_rail_78 rfl 1 rfl ?_
      refine g_iload_n ok d_Mo_rail_79 rfl 2 rfl ?_
      refine g_iload_n ok d_Mo_rail_80 rfl 3 rfl ?_
      have h0 : F 244 2 = 1 ∧ (0 ≤ r ∧ r ≤ 1) ∧ ¬ G 246 (40 + r) = 16 := by unfold raM at htc; omega
      have hcr := hc4 r (by omega) (by omega)
      refine g_callIV (As := [.int (iI r), .int (iI x), .int (iI y)]) (st := []) ok _ (c_Mo_oneMore (fU F 244 0 tcv) G _ _ _ (by omega) (by omega) s0 a0 D t ad) k_1111 k_11 k_1108 cl_Mo (m_Mo (ad := ad) (t := t) (F := (fU F 244 0 tcv)) (G := G) rfl).1 (m_Mo rfl).2 k_1110 s_Mo_oneMore q_Mo_oneMore (by decide) (Nat.le_of_ble_eq_true rfl) (by decide) d_Mo_rail_81 (fun zo ce1 hc2 => ?_)
      obtain ⟨F1, G1, rfl, hz1, hF1, hG1⟩ := hc2
      exact g_iret ok d_Mo_rail_84 ⟨_, _, rfl, tcv, htc, Or.inr ⟨by omega, by rw [hF1, show tcv = 0 by omega], hz1, hG1⟩⟩
    · refine g_iconst ok d_Mo_rail_73 ?_
      refine g_goto ok 84 d_Mo_rail_74 (by decide) ?_
      exact g_iret ok d_Mo_rail_84 ⟨_, _, rfl, tcv, htc, Or.inl ⟨by omega, rfl, rfl, rfl⟩⟩
  refine g_aload_n ok d_Mo_rail_0 rfl 0 rfl ?_
  refine g_aload_n ok d_Mo_rail_1 rfl 0 rfl ?_
  refine gI_Mo_open ok _ rfl k_991 d_Mo_rail_2 ?_
  refine g_if_eq ok 19 d_Mo_rail_5 (by decide) (by omega) (fun h3 => ?_) (fun h3 => ?_)
  · refine g_iconst ok d_Mo_rail_19 ?_
    refine g_goto ok 63 d_Mo_rail_20 (by decide) ?_
    exact J_t 1 (Or.inl ⟨rfl, by omega⟩)
  · refine g_aload_n ok d_Mo_rail_8 rfl 0 rfl ?_
    refine gI_Mo_told ok _ rfl k_992 d_Mo_rail_9 ?_
    refine g_bipush ok (by decide) d_Mo_rail_12 ?_
    refine h_iald ok _ a_245 (by omega) d_Mo_rail_14 ?_
    refine g_iconst ok d_Mo_rail_15 ?_
    refine g_icmp_eq ok 23 d_Mo_rail_16 (by decide) (by omega) (by omega) (fun h4 => ?_) (fun h4 => ?_)
    · refine g_iload_n ok d_Mo_rail_23 rfl 1 rfl ?_
      refine g_if_lt ok 40 d_Mo_rail_24 (by decide) (by omega) (fun h5 => ?_) (fun h5 => ?_)
      · refine g_iconst ok d_Mo_rail_40 ?_
        refine g_goto ok 63 d_Mo_rail_41 (by decide) ?_
        exact J_t 2 (Or.inr (Or.inl ⟨rfl, by omega, by omega, fun q => by omega⟩))
      · refine g_iload_n ok d_Mo_rail_27 rfl 1 rfl ?_
        refine g_iconst ok d_Mo_rail_28 ?_
        refine g_icmp_gt ok 40 d_Mo_rail_29 (by decide) (by omega) (by omega) (fun h6 => ?_) (fun h6 => ?_)
        · refine g_iconst ok d_Mo_rail_40 ?_
          refine g_goto ok 63 d_Mo_rail_41 (by decide) ?_
          exact J_t 2 (Or.inr (Or.inl ⟨rfl, by omega, by omega, fun q => by omega⟩))
        · refine g_iload_n ok d_Mo_rail_32 rfl 2 rfl ?_
          refine g_iload_n ok d_Mo_rail_33 rfl 3 rfl ?_
          refine g_callPS (As := [.int (iI x), .int (iI y)]) (st := [.ref (ad 244)]) ok (c_Mo_isPlace F G _ _ hx hy s0 a0 D t ad) k_1107 k_11 k_1105 k_1106 q_Mo_isPlace (by decide) (Nat.le_of_ble_eq_true rfl) (by decide) d_Mo_rail_34 (fun z7 hc7 => ?_)
          have hpl : (z7 = 1 ∧ inR x y) ∨ (z7 = 0 ∧ ¬ inR x y) := by rw [hc7]; unfold inR; split <;> omega
          refine g_if_ne ok 44 d_Mo_rail_37 (by decide) (by omega) (fun h8 => ?_) (fun h8 => ?_)
          · have hcr2 := hc4 r (by omega) (by omega)
            refine g_aload_n ok d_Mo_rail_44 rfl 0 rfl ?_
            refine gI_Mo_corners ok _ rfl k_993 d_Mo_rail_45 ?_
            refine g_bipush ok (by decide) d_Mo_rail_48 ?_
            refine g_iload_n ok d_Mo_rail_50 rfl 1 rfl ?_
            refine g_iadd ok d_Mo_rail_51 ?_
            refine h_iald ok _ a_246 (by omega) d_Mo_rail_52 ?_
            refine g_bipush ok (by decide) d_Mo_rail_53 ?_
            refine g_icmp_ne ok 62 d_Mo_rail_55 (by decide) (by omega) (by omega) (fun h9 => ?_) (fun h9 => ?_)
            · refine g_iconst ok d_Mo_rail_62 ?_
              exact J_t 0 (Or.inr (Or.inr (Or.inr ⟨rfl, by omega, by omega, ⟨by omega, by rcases hpl with z | z; exact z.2; omega⟩, by omega⟩)))
            · refine g_iconst ok d_Mo_rail_58 ?_
              refine g_goto ok 63 d_Mo_rail_59 (by decide) ?_
              exact J_t 3 (Or.inr (Or.inr (Or.inl ⟨rfl, by omega, by omega, ⟨by omega, by rcases hpl with z | z; exact z.2; omega⟩, by omega⟩)))
          · refine g_iconst ok d_Mo_rail_40 ?_
            refine g_goto ok 63 d_Mo_rail_41 (by decide) ?_
            exact J_t 2 (Or.inr (Or.inl ⟨rfl, by omega, by omega, fun q => by rcases hpl with z | z; omega; exact z.2 q.2⟩))
    · refine g_iconst ok d_Mo_rail_19 ?_
      refine g_goto ok 63 d_Mo_rail_20 (by decide) ?_
      exact J_t 1 (Or.inl ⟨rfl, by omega⟩)
