/-! the reference's end and rail when they throw at once -/
theorem n_Mo_end (F : Nat → Nat → Int) (G : Nat → Int → Int) (ho : F 244 2 = 0) : cI y_Mo_end b_Mo_end 6 (some .int) 5 119 F G (fun ad => [.ref (ad 244)]) (fun _ F' G' => F' = fU F 244 0 1 ∧ G' = G) := by
  intro s0 a0 D t ad
  refine g_startI (by decide +kernel) (Nat.le_of_ble_eq_true rfl) (fun p l e R s m args below meth c A ok => ?_)
  show gW p l e R s m args below meth c _ D A 6 (gZ0 s) 0 0 ad 265 (mem ad t F G) 0 [(0, .ref (ad 244))] []
  refine g_aload_n ok d_Mo_end_0 rfl 0 rfl ?_
  refine g_aload_n ok d_Mo_end_1 rfl 0 rfl ?_
  refine gI_Mo_open ok _ rfl k_991 d_Mo_end_2 ?_
  refine g_if_eq ok 12 d_Mo_end_5 (by decide) (by omega) (fun h1 => ?_) (fun h1 => ?_)
  · refine g_iconst ok d_Mo_end_12 ?_
    refine pI_Mo_thrownCode ok _ rfl k_989 d_Mo_end_13 ?_
    refine g_aload_n ok d_Mo_end_16 rfl 0 rfl ?_
    refine gI_Mo_thrownCode ok _ rfl k_989 d_Mo_end_17 ?_
    refine g_top (y := 1) (by show (fU F 244 0 1) 244 0 = _; rw [fU_hit]) ?_
    refine g_if_eq ok 25 d_Mo_end_20 (by decide) (by omega) (fun h2 => ?_) (fun h2 => ?_)
    · exact absurd h2 (by decide)
    · refine g_iconst ok d_Mo_end_23 ?_
      exact g_iret ok d_Mo_end_24 ⟨_, _, rfl, rfl, rfl⟩
  · exact absurd ho h1
theorem n_Mo_rail (F : Nat → Nat → Int) (G : Nat → Int → Int) (r x y : Int) (ho : F 244 2 = 0 ∨ F 244 2 = 1) (hfl : 0 ≤ G 245 41 ∧ G 245 41 ≤ 2) (hn : F 244 2 = 0 ∨ ¬ G 245 41 = 1) : cI y_Mo_rail b_Mo_rail 4 (some .int) 1 24 F G (fun ad => [.ref (ad 244), .int (iI r), .int (iI x), .int (iI y)]) (fun _ F' G' => F' = fU F 244 0 1 ∧ G' = G) := by
  intro s0 a0 D t ad
  refine g_startI (by decide +kernel) (Nat.le_of_ble_eq_true rfl) (fun p l e R s m args below meth c A ok => ?_)
  show gW p l e R s m args below meth c _ D A 4 (gZ0 s) 0 0 ad 265 (mem ad t F G) 0 [(0, .ref (ad 244)), (1, .int (iI r)), (2, .int (iI x)), (3, .int (iI y))] []
  refine g_aload_n ok d_Mo_rail_0 rfl 0 rfl ?_
  refine g_aload_n ok d_Mo_rail_1 rfl 0 rfl ?_
  refine gI_Mo_open ok _ rfl k_991 d_Mo_rail_2 ?_
  refine g_if_eq ok 19 d_Mo_rail_5 (by decide) (by omega) (fun h3 => ?_) (fun h3 => ?_)
  · refine g_iconst ok d_Mo_rail_19 ?_
    refine g_goto ok 63 d_Mo_rail_20 (by decide) ?_
    refine pI_Mo_thrownCode ok _ rfl k_989 d_Mo_rail_63 ?_
    refine g_aload_n ok d_Mo_rail_66 rfl 0 rfl ?_
    refine gI_Mo_thrownCode ok _ rfl k_989 d_Mo_rail_67 ?_
    refine g_top (y := 1) (by show (fU F 244 0 1) 244 0 = _; rw [fU_hit]) ?_
    refine g_if_eq ok 77 d_Mo_rail_70 (by decide) (by omega) (fun h1 => ?_) (fun h1 => ?_)
    · exact absurd h1 (by decide)
    · refine g_iconst ok d_Mo_rail_73 ?_
      refine g_goto ok 84 d_Mo_rail_74 (by decide) ?_
      exact g_iret ok d_Mo_rail_84 ⟨_, _, rfl, rfl, rfl⟩
  · refine g_aload_n ok d_Mo_rail_8 rfl 0 rfl ?_
    refine gI_Mo_told ok _ rfl k_992 d_Mo_rail_9 ?_
    refine g_bipush ok (by decide) d_Mo_rail_12 ?_
    refine h_iald ok _ a_245 (by omega) d_Mo_rail_14 ?_
    refine g_iconst ok d_Mo_rail_15 ?_
    refine g_icmp_eq ok 23 d_Mo_rail_16 (by decide) (by omega) (by omega) (fun h4 => ?_) (fun h4 => ?_)
    · exact absurd h4 (hn.resolve_left h3)
    · refine g_iconst ok d_Mo_rail_19 ?_
      refine g_goto ok 63 d_Mo_rail_20 (by decide) ?_
      refine pI_Mo_thrownCode ok _ rfl k_989 d_Mo_rail_63 ?_
      refine g_aload_n ok d_Mo_rail_66 rfl 0 rfl ?_
      refine gI_Mo_thrownCode ok _ rfl k_989 d_Mo_rail_67 ?_
      refine g_top (y := 1) (by show (fU F 244 0 1) 244 0 = _; rw [fU_hit]) ?_
      refine g_if_eq ok 77 d_Mo_rail_70 (by decide) (by omega) (fun h1 => ?_) (fun h1 => ?_)
      · exact absurd h1 (by decide)
      · refine g_iconst ok d_Mo_rail_73 ?_
        refine g_goto ok 84 d_Mo_rail_74 (by decide) ?_
        exact g_iret ok d_Mo_rail_84 ⟨_, _, rfl, rfl, rfl⟩
