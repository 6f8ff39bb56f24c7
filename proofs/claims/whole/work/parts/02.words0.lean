set_option maxRecDepth 20000 in
theorem k_0 : (Cond.initialized "StitchDeskLaw") ∈ lw_tbl := List.mem_append_right _ (List.mem_of_getElem? (i := 0) (by decide +kernel))
set_option maxRecDepth 20000 in
theorem k_1 : (Cond.initialized "StitchDesk") ∈ lw_tbl := List.mem_append_right _ (List.mem_of_getElem? (i := 1) (by decide +kernel))
set_option maxRecDepth 20000 in
theorem k_2 : (Cond.initialized "StitchDesk$Shape") ∈ lw_tbl := List.mem_append_right _ (List.mem_of_getElem? (i := 2) (by decide +kernel))
set_option maxRecDepth 20000 in
theorem k_3 : (Cond.initialized "StitchDesk$Ring") ∈ lw_tbl := List.mem_append_right _ (List.mem_of_getElem? (i := 3) (by decide +kernel))
set_option maxRecDepth 20000 in
theorem k_4 : (Cond.initialized "StitchDesk$Tally") ∈ lw_tbl := List.mem_append_right _ (List.mem_of_getElem? (i := 4) (by decide +kernel))
set_option maxRecDepth 20000 in
theorem k_5 : (Cond.initialized "StitchDesk$Inspector") ∈ lw_tbl := List.mem_append_right _ (List.mem_of_getElem? (i := 5) (by decide +kernel))
set_option maxRecDepth 20000 in
theorem k_6 : (Cond.initialized "StitchDesk$RunTeller") ∈ lw_tbl := List.mem_append_right _ (List.mem_of_getElem? (i := 6) (by decide +kernel))
set_option maxRecDepth 20000 in
theorem k_7 : (Cond.initialized "StitchDesk$HatchLine") ∈ lw_tbl := List.mem_append_right _ (List.mem_of_getElem? (i := 7) (by decide +kernel))
set_option maxRecDepth 20000 in
theorem k_8 : (Cond.initialized "StitchDesk$PathMaker") ∈ lw_tbl := List.mem_append_right _ (List.mem_of_getElem? (i := 8) (by decide +kernel))
set_option maxRecDepth 20000 in
theorem k_9 : (Cond.initialized "StitchDesk$Path") ∈ lw_tbl := List.mem_append_right _ (List.mem_of_getElem? (i := 9) (by decide +kernel))
set_option maxRecDepth 20000 in
theorem k_10 : (Cond.initialized "StitchDesk$Planner") ∈ lw_tbl := List.mem_append_right _ (List.mem_of_getElem? (i := 10) (by decide +kernel))
set_option maxRecDepth 20000 in
theorem k_11 : (Cond.initialized "StitchDeskModel") ∈ lw_tbl := List.mem_append_right _ (List.mem_of_getElem? (i := 11) (by decide +kernel))
set_option maxRecDepth 20000 in
theorem k_12 : (Cond.initialized "java/lang/Throwable") ∈ lw_tbl := List.mem_append_right _ (List.mem_of_getElem? (i := 12) (by decide +kernel))
set_option maxRecDepth 20000 in
theorem k_13 : (Cond.initialized "java/lang/Exception") ∈ lw_tbl := List.mem_append_right _ (List.mem_of_getElem? (i := 13) (by decide +kernel))
set_option maxRecDepth 20000 in
theorem k_14 : (Cond.initialized "java/lang/RuntimeException") ∈ lw_tbl := List.mem_append_right _ (List.mem_of_getElem? (i := 14) (by decide +kernel))
set_option maxRecDepth 20000 in
theorem k_15 : (Cond.initialized "java/lang/IllegalStateException") ∈ lw_tbl := List.mem_append_right _ (List.mem_of_getElem? (i := 15) (by decide +kernel))
set_option maxRecDepth 20000 in
theorem k_16 : (Cond.initialized "java/lang/UnsupportedOperationException") ∈ lw_tbl := List.mem_append_right _ (List.mem_of_getElem? (i := 16) (by decide +kernel))
set_option maxRecDepth 20000 in
theorem k_17 : (Cond.initialized "java/lang/IllegalArgumentException") ∈ lw_tbl := List.mem_append_right _ (List.mem_of_getElem? (i := 17) (by decide +kernel))
set_option maxRecDepth 20000 in
theorem k_18 : (Cond.initialized "java/lang/Math") ∈ lw_tbl := List.mem_append_right _ (List.mem_of_getElem? (i := 18) (by decide +kernel))
set_option maxRecDepth 20000 in
theorem k_19 : (Cond.initialized "java/lang/Integer") ∈ lw_tbl := List.mem_append_right _ (List.mem_of_getElem? (i := 19) (by decide +kernel))
set_option maxRecDepth 20000 in
theorem k_20 : (Cond.initialized "java/util/NoSuchElementException") ∈ lw_tbl := List.mem_append_right _ (List.mem_of_getElem? (i := 20) (by decide +kernel))
set_option maxRecDepth 20000 in
theorem k_21 : (Cond.initialized "java/lang/IndexOutOfBoundsException") ∈ lw_tbl := List.mem_append_right _ (List.mem_of_getElem? (i := 21) (by decide +kernel))
set_option maxRecDepth 20000 in
theorem k_22 : (Cond.classLink "StitchDeskLaw" (8 : Nat) "StitchDesk") ∈ lw_tbl := List.mem_append_right _ (List.mem_of_getElem? (i := 22) (by decide +kernel))
set_option maxRecDepth 20000 in
theorem k_23 : (Cond.instantiable "StitchDesk" (11 : Nat)) ∈ lw_tbl := List.mem_append_right _ (List.mem_of_getElem? (i := 23) (by decide +kernel))
set_option maxRecDepth 20000 in
theorem k_24 : (Cond.methodLink "StitchDeskLaw" (54 : Nat) ({ cls := "StitchDesk", name := "<init>", desc := "()V" } : MethodName)) ∈ lw_tbl := List.mem_append_right _ (List.mem_of_getElem? (i := 24) (by decide +kernel))
set_option maxRecDepth 20000 in
theorem k_25 : (Cond.instanceMethod ({ cls := "StitchDesk", name := "<init>", desc := "()V" } : MethodName)) ∈ lw_tbl := List.mem_append_right _ (List.mem_of_getElem? (i := 25) (by decide +kernel))
set_option maxRecDepth 20000 in
theorem k_26 : (Cond.code ({ cls := "StitchDesk", name := "<init>", desc := "()V" } : MethodName) prog_1_method_1_code (2 : Nat) (Option.none : Option ClassFile.FieldType)) ∈ lw_tbl := List.mem_append_right _ (List.mem_of_getElem? (i := 26) (by decide +kernel))
set_option maxRecDepth 20000 in
theorem k_27 : (Cond.methodLink "StitchDesk" (3 : Nat) ({ cls := "java/lang/Object", name := "<init>", desc := "()V" } : MethodName)) ∈ lw_tbl := List.mem_append_right _ (List.mem_of_getElem? (i := 27) (by decide +kernel))
set_option maxRecDepth 20000 in
theorem k_28 : (Cond.instanceMethod ({ cls := "java/lang/Object", name := "<init>", desc := "()V" } : MethodName)) ∈ lw_tbl := List.mem_append_right _ (List.mem_of_getElem? (i := 28) (by decide +kernel))
set_option maxRecDepth 20000 in
theorem k_29 : (Cond.code ({ cls := "java/lang/Object", name := "<init>", desc := "()V" } : MethodName) object_method_1_code (1 : Nat) (Option.none : Option ClassFile.FieldType)) ∈ lw_tbl := List.mem_append_right _ (List.mem_of_getElem? (i := 29) (by decide +kernel))
set_option maxRecDepth 20000 in
theorem k_30 : (Cond.classLink "StitchDesk" (9 : Nat) "StitchDesk$Shape") ∈ lw_tbl := List.mem_append_right _ (List.mem_of_getElem? (i := 30) (by decide +kernel))
set_option maxRecDepth 20000 in
theorem k_31 : (Cond.arrayOver (ClassFile.FieldType.object "StitchDesk$Shape")) ∈ lw_tbl := List.mem_append_right _ (List.mem_of_getElem? (i := 31) (by decide +kernel))
set_option maxRecDepth 20000 in
theorem k_32 : (Cond.instantiable "StitchDesk$Shape" (11 : Nat)) ∈ lw_tbl := List.mem_append_right _ (List.mem_of_getElem? (i := 32) (by decide +kernel))
set_option maxRecDepth 20000 in
theorem k_33 : (Cond.methodLinkNest "StitchDesk" (15 : Nat) ({ cls := "StitchDesk$Shape", name := "<init>", desc := "()V" } : MethodName) "StitchDesk") ∈ lw_tbl := List.mem_append_right _ (List.mem_of_getElem? (i := 33) (by decide +kernel))
set_option maxRecDepth 20000 in
theorem k_34 : (Cond.instanceMethod ({ cls := "StitchDesk$Shape", name := "<init>", desc := "()V" } : MethodName)) ∈ lw_tbl := List.mem_append_right _ (List.mem_of_getElem? (i := 34) (by decide +kernel))
set_option maxRecDepth 20000 in
theorem k_35 : (Cond.code ({ cls := "StitchDesk$Shape", name := "<init>", desc := "()V" } : MethodName) prog_10_method_1_code (2 : Nat) (Option.none : Option ClassFile.FieldType)) ∈ lw_tbl := List.mem_append_right _ (List.mem_of_getElem? (i := 35) (by decide +kernel))
set_option maxRecDepth 20000 in
theorem k_36 : (Cond.methodLink "StitchDesk$Shape" (3 : Nat) ({ cls := "java/lang/Object", name := "<init>", desc := "()V" } : MethodName)) ∈ lw_tbl := List.mem_append_right _ (List.mem_of_getElem? (i := 36) (by decide +kernel))
set_option maxRecDepth 20000 in
theorem k_37 : (Cond.classLink "StitchDesk$Shape" (9 : Nat) "StitchDesk$Ring") ∈ lw_tbl := List.mem_append_right _ (List.mem_of_getElem? (i := 37) (by decide +kernel))
set_option maxRecDepth 20000 in
theorem k_38 : (Cond.arrayOver (ClassFile.FieldType.object "StitchDesk$Ring")) ∈ lw_tbl := List.mem_append_right _ (List.mem_of_getElem? (i := 38) (by decide +kernel))
set_option maxRecDepth 20000 in
theorem k_39 : (Cond.instantiable "StitchDesk$Ring" (3 : Nat)) ∈ lw_tbl := List.mem_append_right _ (List.mem_of_getElem? (i := 39) (by decide +kernel))
set_option maxRecDepth 20000 in
theorem k_40 : (Cond.methodLinkNest "StitchDesk$Shape" (20 : Nat) ({ cls := "StitchDesk$Ring", name := "<init>", desc := "(I)V" } : MethodName) "StitchDesk") ∈ lw_tbl := List.mem_append_right _ (List.mem_of_getElem? (i := 40) (by decide +kernel))
set_option maxRecDepth 20000 in
theorem k_41 : (Cond.instanceMethod ({ cls := "StitchDesk$Ring", name := "<init>", desc := "(I)V" } : MethodName)) ∈ lw_tbl := List.mem_append_right _ (List.mem_of_getElem? (i := 41) (by decide +kernel))
set_option maxRecDepth 20000 in
theorem k_42 : (Cond.code ({ cls := "StitchDesk$Ring", name := "<init>", desc := "(I)V" } : MethodName) prog_7_method_1_code (2 : Nat) (Option.none : Option ClassFile.FieldType)) ∈ lw_tbl := List.mem_append_right _ (List.mem_of_getElem? (i := 42) (by decide +kernel))
set_option maxRecDepth 20000 in
theorem k_43 : (Cond.methodLink "StitchDesk$Ring" (1 : Nat) ({ cls := "java/lang/Object", name := "<init>", desc := "()V" } : MethodName)) ∈ lw_tbl := List.mem_append_right _ (List.mem_of_getElem? (i := 43) (by decide +kernel))
set_option maxRecDepth 20000 in
theorem k_44 : (Cond.fieldLink "StitchDesk$Ring" (7 : Nat) "StitchDesk$Ring" "xs" "[I") ∈ lw_tbl := List.mem_append_right _ (List.mem_of_getElem? (i := 44) (by decide +kernel))
set_option maxRecDepth 20000 in
theorem k_45 : (Cond.fieldLinkNest "StitchDesk$RunTeller" (48 : Nat) "StitchDesk$Ring" "xs" "[I" "StitchDesk") ∈ lw_tbl := List.mem_append_right _ (List.mem_of_getElem? (i := 45) (by decide +kernel))
set_option maxRecDepth 20000 in
theorem k_46 : (Cond.fieldLinkNest "StitchDesk$Shape" (56 : Nat) "StitchDesk$Ring" "xs" "[I" "StitchDesk") ∈ lw_tbl := List.mem_append_right _ (List.mem_of_getElem? (i := 46) (by decide +kernel))
set_option maxRecDepth 20000 in
theorem k_47 : (Cond.fieldLinkNest "StitchDesk$HatchLine" (87 : Nat) "StitchDesk$Ring" "xs" "[I" "StitchDesk") ∈ lw_tbl := List.mem_append_right _ (List.mem_of_getElem? (i := 47) (by decide +kernel))
set_option maxRecDepth 20000 in
theorem k_48 : (Cond.fieldLinkNest "StitchDesk$Inspector" (89 : Nat) "StitchDesk$Ring" "xs" "[I" "StitchDesk") ∈ lw_tbl := List.mem_append_right _ (List.mem_of_getElem? (i := 48) (by decide +kernel))
set_option maxRecDepth 20000 in
theorem k_49 : (Cond.fieldLink "StitchDesk$Ring" (13 : Nat) "StitchDesk$Ring" "ys" "[I") ∈ lw_tbl := List.mem_append_right _ (List.mem_of_getElem? (i := 49) (by decide +kernel))
set_option maxRecDepth 20000 in
theorem k_50 : (Cond.fieldLinkNest "StitchDesk$RunTeller" (52 : Nat) "StitchDesk$Ring" "ys" "[I" "StitchDesk") ∈ lw_tbl := List.mem_append_right _ (List.mem_of_getElem? (i := 50) (by decide +kernel))
set_option maxRecDepth 20000 in
theorem k_51 : (Cond.fieldLinkNest "StitchDesk$Shape" (60 : Nat) "StitchDesk$Ring" "ys" "[I" "StitchDesk") ∈ lw_tbl := List.mem_append_right _ (List.mem_of_getElem? (i := 51) (by decide +kernel))
set_option maxRecDepth 20000 in
theorem k_52 : (Cond.fieldLinkNest "StitchDesk$HatchLine" (90 : Nat) "StitchDesk$Ring" "ys" "[I" "StitchDesk") ∈ lw_tbl := List.mem_append_right _ (List.mem_of_getElem? (i := 52) (by decide +kernel))
set_option maxRecDepth 20000 in
theorem k_53 : (Cond.fieldLinkNest "StitchDesk$Inspector" (92 : Nat) "StitchDesk$Ring" "ys" "[I" "StitchDesk") ∈ lw_tbl := List.mem_append_right _ (List.mem_of_getElem? (i := 53) (by decide +kernel))
set_option maxRecDepth 20000 in
theorem k_54 : (Cond.fieldLink "StitchDesk$Ring" (16 : Nat) "StitchDesk$Ring" "size" "I") ∈ lw_tbl := List.mem_append_right _ (List.mem_of_getElem? (i := 54) (by decide +kernel))
set_option maxRecDepth 20000 in
theorem k_55 : (Cond.fieldLinkNest "StitchDesk$Inspector" (53 : Nat) "StitchDesk$Ring" "size" "I" "StitchDesk") ∈ lw_tbl := List.mem_append_right _ (List.mem_of_getElem? (i := 55) (by decide +kernel))
set_option maxRecDepth 20000 in
theorem k_56 : (Cond.fieldLinkNest "StitchDesk$RunTeller" (38 : Nat) "StitchDesk$Ring" "size" "I" "StitchDesk") ∈ lw_tbl := List.mem_append_right _ (List.mem_of_getElem? (i := 56) (by decide +kernel))
set_option maxRecDepth 20000 in
theorem k_57 : (Cond.fieldLinkNest "StitchDesk" (103 : Nat) "StitchDesk$Ring" "size" "I" "StitchDesk") ∈ lw_tbl := List.mem_append_right _ (List.mem_of_getElem? (i := 57) (by decide +kernel))
set_option maxRecDepth 20000 in
theorem k_58 : (Cond.fieldLinkNest "StitchDesk$Shape" (53 : Nat) "StitchDesk$Ring" "size" "I" "StitchDesk") ∈ lw_tbl := List.mem_append_right _ (List.mem_of_getElem? (i := 58) (by decide +kernel))
set_option maxRecDepth 20000 in
theorem k_59 : (Cond.fieldLinkNest "StitchDesk$HatchLine" (78 : Nat) "StitchDesk$Ring" "size" "I" "StitchDesk") ∈ lw_tbl := List.mem_append_right _ (List.mem_of_getElem? (i := 59) (by decide +kernel))
set_option maxRecDepth 20000 in
theorem k_60 : (Cond.laysFinal "StitchDesk$Ring" "StitchDesk$Ring" "xs" "[I") ∈ lw_tbl := List.mem_append_right _ (List.mem_of_getElem? (i := 60) (by decide +kernel))
set_option maxRecDepth 20000 in
theorem k_61 : (Cond.soleField "StitchDesk$Ring" "xs") ∈ lw_tbl := List.mem_append_right _ (List.mem_of_getElem? (i := 61) (by decide +kernel))
set_option maxRecDepth 20000 in
theorem k_62 : (Cond.laysFinal "StitchDesk$Ring" "StitchDesk$Ring" "ys" "[I") ∈ lw_tbl := List.mem_append_right _ (List.mem_of_getElem? (i := 62) (by decide +kernel))
set_option maxRecDepth 20000 in
theorem k_63 : (Cond.soleField "StitchDesk$Ring" "ys") ∈ lw_tbl := List.mem_append_right _ (List.mem_of_getElem? (i := 63) (by decide +kernel))
set_option maxRecDepth 20000 in
theorem k_64 : (Cond.lays "StitchDesk$Ring" "StitchDesk$Ring" "size" "I") ∈ lw_tbl := List.mem_append_right _ (List.mem_of_getElem? (i := 64) (by decide +kernel))
set_option maxRecDepth 20000 in
theorem k_65 : (Cond.soleField "StitchDesk$Ring" "size") ∈ lw_tbl := List.mem_append_right _ (List.mem_of_getElem? (i := 65) (by decide +kernel))
set_option maxRecDepth 20000 in
theorem k_66 : (Cond.superclass "StitchDesk$Ring" "java/lang/Object") ∈ lw_tbl := List.mem_append_right _ (List.mem_of_getElem? (i := 66) (by decide +kernel))
set_option maxRecDepth 20000 in
theorem k_67 : (Cond.arrayClass ClassFile.FieldType.int) ∈ lw_tbl := List.mem_append_right _ (List.mem_of_getElem? (i := 67) (by decide +kernel))
set_option maxRecDepth 20000 in
theorem k_68 : (Cond.classLink "StitchDesk$Shape" (23 : Nat) "StitchDesk$Tally") ∈ lw_tbl := List.mem_append_right _ (List.mem_of_getElem? (i := 68) (by decide +kernel))
set_option maxRecDepth 20000 in
theorem k_69 : (Cond.instantiable "StitchDesk$Tally" (2 : Nat)) ∈ lw_tbl := List.mem_append_right _ (List.mem_of_getElem? (i := 69) (by decide +kernel))
set_option maxRecDepth 20000 in
theorem k_70 : (Cond.methodLinkNest "StitchDesk$Shape" (25 : Nat) ({ cls := "StitchDesk$Tally", name := "<init>", desc := "()V" } : MethodName) "StitchDesk") ∈ lw_tbl := List.mem_append_right _ (List.mem_of_getElem? (i := 70) (by decide +kernel))
set_option maxRecDepth 20000 in
theorem k_71 : (Cond.instanceMethod ({ cls := "StitchDesk$Tally", name := "<init>", desc := "()V" } : MethodName)) ∈ lw_tbl := List.mem_append_right _ (List.mem_of_getElem? (i := 71) (by decide +kernel))
set_option maxRecDepth 20000 in
theorem k_72 : (Cond.code ({ cls := "StitchDesk$Tally", name := "<init>", desc := "()V" } : MethodName) prog_11_method_1_code (1 : Nat) (Option.none : Option ClassFile.FieldType)) ∈ lw_tbl := List.mem_append_right _ (List.mem_of_getElem? (i := 72) (by decide +kernel))
set_option maxRecDepth 20000 in
theorem k_73 : (Cond.methodLink "StitchDesk$Tally" (1 : Nat) ({ cls := "java/lang/Object", name := "<init>", desc := "()V" } : MethodName)) ∈ lw_tbl := List.mem_append_right _ (List.mem_of_getElem? (i := 73) (by decide +kernel))
set_option maxRecDepth 20000 in
theorem k_74 : (Cond.fieldLink "StitchDesk$Tally" (7 : Nat) "StitchDesk$Tally" "runs" "I") ∈ lw_tbl := List.mem_append_right _ (List.mem_of_getElem? (i := 74) (by decide +kernel))
set_option maxRecDepth 20000 in
theorem k_75 : (Cond.fieldLinkNest "StitchDesk" (173 : Nat) "StitchDesk$Tally" "runs" "I" "StitchDesk") ∈ lw_tbl := List.mem_append_right _ (List.mem_of_getElem? (i := 75) (by decide +kernel))
set_option maxRecDepth 20000 in
theorem k_76 : (Cond.fieldLink "StitchDesk$Tally" (13 : Nat) "StitchDesk$Tally" "places" "I") ∈ lw_tbl := List.mem_append_right _ (List.mem_of_getElem? (i := 76) (by decide +kernel))
set_option maxRecDepth 20000 in
theorem k_77 : (Cond.fieldLinkNest "StitchDesk" (178 : Nat) "StitchDesk$Tally" "places" "I" "StitchDesk") ∈ lw_tbl := List.mem_append_right _ (List.mem_of_getElem? (i := 77) (by decide +kernel))
set_option maxRecDepth 20000 in
theorem k_78 : (Cond.lays "StitchDesk$Tally" "StitchDesk$Tally" "runs" "I") ∈ lw_tbl := List.mem_append_right _ (List.mem_of_getElem? (i := 78) (by decide +kernel))
set_option maxRecDepth 20000 in
theorem k_79 : (Cond.soleField "StitchDesk$Tally" "runs") ∈ lw_tbl := List.mem_append_right _ (List.mem_of_getElem? (i := 79) (by decide +kernel))
set_option maxRecDepth 20000 in
theorem k_80 : (Cond.lays "StitchDesk$Tally" "StitchDesk$Tally" "places" "I") ∈ lw_tbl := List.mem_append_right _ (List.mem_of_getElem? (i := 80) (by decide +kernel))
set_option maxRecDepth 20000 in
theorem k_81 : (Cond.soleField "StitchDesk$Tally" "places") ∈ lw_tbl := List.mem_append_right _ (List.mem_of_getElem? (i := 81) (by decide +kernel))
set_option maxRecDepth 20000 in
theorem k_82 : (Cond.superclass "StitchDesk$Tally" "java/lang/Object") ∈ lw_tbl := List.mem_append_right _ (List.mem_of_getElem? (i := 82) (by decide +kernel))
set_option maxRecDepth 20000 in
theorem k_83 : (Cond.fieldLink "StitchDesk$Shape" (11 : Nat) "StitchDesk$Shape" "rings" "[LStitchDesk$Ring;") ∈ lw_tbl := List.mem_append_right _ (List.mem_of_getElem? (i := 83) (by decide +kernel))
set_option maxRecDepth 20000 in
theorem k_84 : (Cond.fieldLinkNest "StitchDesk$RunTeller" (34 : Nat) "StitchDesk$Shape" "rings" "[LStitchDesk$Ring;" "StitchDesk") ∈ lw_tbl := List.mem_append_right _ (List.mem_of_getElem? (i := 84) (by decide +kernel))
set_option maxRecDepth 20000 in
theorem k_85 : (Cond.fieldLinkNest "StitchDesk" (99 : Nat) "StitchDesk$Shape" "rings" "[LStitchDesk$Ring;" "StitchDesk") ∈ lw_tbl := List.mem_append_right _ (List.mem_of_getElem? (i := 85) (by decide +kernel))
set_option maxRecDepth 20000 in
theorem k_86 : (Cond.fieldLinkNest "StitchDesk$HatchLine" (74 : Nat) "StitchDesk$Shape" "rings" "[LStitchDesk$Ring;" "StitchDesk") ∈ lw_tbl := List.mem_append_right _ (List.mem_of_getElem? (i := 86) (by decide +kernel))
set_option maxRecDepth 20000 in
theorem k_87 : (Cond.fieldLinkNest "StitchDesk$Inspector" (76 : Nat) "StitchDesk$Shape" "rings" "[LStitchDesk$Ring;" "StitchDesk") ∈ lw_tbl := List.mem_append_right _ (List.mem_of_getElem? (i := 87) (by decide +kernel))
set_option maxRecDepth 20000 in
theorem k_88 : (Cond.fieldLink "StitchDesk$Shape" (17 : Nat) "StitchDesk$Shape" "rails" "[LStitchDesk$Ring;") ∈ lw_tbl := List.mem_append_right _ (List.mem_of_getElem? (i := 88) (by decide +kernel))
set_option maxRecDepth 20000 in
theorem k_89 : (Cond.fieldLinkNest "StitchDesk$Inspector" (49 : Nat) "StitchDesk$Shape" "rails" "[LStitchDesk$Ring;" "StitchDesk") ∈ lw_tbl := List.mem_append_right _ (List.mem_of_getElem? (i := 89) (by decide +kernel))
set_option maxRecDepth 20000 in
theorem k_90 : (Cond.fieldLinkNest "StitchDesk$RunTeller" (59 : Nat) "StitchDesk$Shape" "rails" "[LStitchDesk$Ring;" "StitchDesk") ∈ lw_tbl := List.mem_append_right _ (List.mem_of_getElem? (i := 90) (by decide +kernel))
set_option maxRecDepth 20000 in
theorem k_91 : (Cond.fieldLinkNest "StitchDesk" (118 : Nat) "StitchDesk$Shape" "rails" "[LStitchDesk$Ring;" "StitchDesk") ∈ lw_tbl := List.mem_append_right _ (List.mem_of_getElem? (i := 91) (by decide +kernel))
set_option maxRecDepth 20000 in
theorem k_92 : (Cond.fieldLink "StitchDesk$Shape" (26 : Nat) "StitchDesk$Shape" "tally" "LStitchDesk$Tally;") ∈ lw_tbl := List.mem_append_right _ (List.mem_of_getElem? (i := 92) (by decide +kernel))
set_option maxRecDepth 20000 in
theorem k_93 : (Cond.fieldLinkNest "StitchDesk" (132 : Nat) "StitchDesk$Shape" "tally" "LStitchDesk$Tally;" "StitchDesk") ∈ lw_tbl := List.mem_append_right _ (List.mem_of_getElem? (i := 93) (by decide +kernel))
set_option maxRecDepth 20000 in
theorem k_94 : (Cond.fieldLink "StitchDesk$Shape" (34 : Nat) "StitchDesk$Shape" "colour" "I") ∈ lw_tbl := List.mem_append_right _ (List.mem_of_getElem? (i := 94) (by decide +kernel))
set_option maxRecDepth 20000 in
theorem k_95 : (Cond.fieldLinkNest "StitchDesk$Planner" (48 : Nat) "StitchDesk$Shape" "colour" "I" "StitchDesk") ∈ lw_tbl := List.mem_append_right _ (List.mem_of_getElem? (i := 95) (by decide +kernel))
set_option maxRecDepth 20000 in
theorem k_96 : (Cond.fieldLinkNest "StitchDesk$PathMaker" (60 : Nat) "StitchDesk$Shape" "colour" "I" "StitchDesk") ∈ lw_tbl := List.mem_append_right _ (List.mem_of_getElem? (i := 96) (by decide +kernel))
set_option maxRecDepth 20000 in
theorem k_97 : (Cond.fieldLinkNest "StitchDesk" (152 : Nat) "StitchDesk$Shape" "colour" "I" "StitchDesk") ∈ lw_tbl := List.mem_append_right _ (List.mem_of_getElem? (i := 97) (by decide +kernel))
set_option maxRecDepth 20000 in
theorem k_98 : (Cond.fieldLinkNest "StitchDesk$RunTeller" (18 : Nat) "StitchDesk$Shape" "fill" "I" "StitchDesk") ∈ lw_tbl := List.mem_append_right _ (List.mem_of_getElem? (i := 98) (by decide +kernel))
set_option maxRecDepth 20000 in
theorem k_99 : (Cond.fieldLink "StitchDesk$Shape" (37 : Nat) "StitchDesk$Shape" "fill" "I") ∈ lw_tbl := List.mem_append_right _ (List.mem_of_getElem? (i := 99) (by decide +kernel))
set_option maxRecDepth 20000 in
theorem k_100 : (Cond.fieldLinkNest "StitchDesk$Inspector" (34 : Nat) "StitchDesk$Shape" "fill" "I" "StitchDesk") ∈ lw_tbl := List.mem_append_right _ (List.mem_of_getElem? (i := 100) (by decide +kernel))
set_option maxRecDepth 20000 in
theorem k_101 : (Cond.fieldLinkNest "StitchDesk" (89 : Nat) "StitchDesk$Shape" "fill" "I" "StitchDesk") ∈ lw_tbl := List.mem_append_right _ (List.mem_of_getElem? (i := 101) (by decide +kernel))
set_option maxRecDepth 20000 in
theorem k_102 : (Cond.fieldLink "StitchDesk$Shape" (30 : Nat) "StitchDesk$Shape" "spacing" "I") ∈ lw_tbl := List.mem_append_right _ (List.mem_of_getElem? (i := 102) (by decide +kernel))
set_option maxRecDepth 20000 in
theorem k_103 : (Cond.fieldLinkNest "StitchDesk$RunTeller" (75 : Nat) "StitchDesk$Shape" "spacing" "I" "StitchDesk") ∈ lw_tbl := List.mem_append_right _ (List.mem_of_getElem? (i := 103) (by decide +kernel))
set_option maxRecDepth 20000 in
theorem k_104 : (Cond.fieldLinkNest "StitchDesk" (155 : Nat) "StitchDesk$Shape" "spacing" "I" "StitchDesk") ∈ lw_tbl := List.mem_append_right _ (List.mem_of_getElem? (i := 104) (by decide +kernel))
set_option maxRecDepth 20000 in
theorem k_105 : (Cond.fieldLink "StitchDesk$Shape" (40 : Nat) "StitchDesk$Shape" "direction" "I") ∈ lw_tbl := List.mem_append_right _ (List.mem_of_getElem? (i := 105) (by decide +kernel))
set_option maxRecDepth 20000 in
theorem k_106 : (Cond.fieldLinkNest "StitchDesk$HatchLine" (34 : Nat) "StitchDesk$Shape" "direction" "I" "StitchDesk") ∈ lw_tbl := List.mem_append_right _ (List.mem_of_getElem? (i := 106) (by decide +kernel))
set_option maxRecDepth 20000 in
theorem k_107 : (Cond.fieldLinkNest "StitchDesk" (158 : Nat) "StitchDesk$Shape" "direction" "I" "StitchDesk") ∈ lw_tbl := List.mem_append_right _ (List.mem_of_getElem? (i := 107) (by decide +kernel))
set_option maxRecDepth 20000 in
theorem k_108 : (Cond.fieldLinkNest "StitchDesk$RunTeller" (119 : Nat) "StitchDesk$Shape" "direction" "I" "StitchDesk") ∈ lw_tbl := List.mem_append_right _ (List.mem_of_getElem? (i := 108) (by decide +kernel))
set_option maxRecDepth 20000 in
theorem k_109 : (Cond.fieldLinkNest "StitchDesk$HatchLine" (49 : Nat) "StitchDesk$Shape" "left" "I" "StitchDesk") ∈ lw_tbl := List.mem_append_right _ (List.mem_of_getElem? (i := 109) (by decide +kernel))
set_option maxRecDepth 20000 in
theorem k_110 : (Cond.fieldLink "StitchDesk$Shape" (67 : Nat) "StitchDesk$Shape" "left" "I") ∈ lw_tbl := List.mem_append_right _ (List.mem_of_getElem? (i := 110) (by decide +kernel))
set_option maxRecDepth 20000 in
theorem k_111 : (Cond.fieldLinkNest "StitchDesk" (161 : Nat) "StitchDesk$Shape" "left" "I" "StitchDesk") ∈ lw_tbl := List.mem_append_right _ (List.mem_of_getElem? (i := 111) (by decide +kernel))
set_option maxRecDepth 20000 in
theorem k_112 : (Cond.fieldLinkNest "StitchDesk$RunTeller" (125 : Nat) "StitchDesk$Shape" "left" "I" "StitchDesk") ∈ lw_tbl := List.mem_append_right _ (List.mem_of_getElem? (i := 112) (by decide +kernel))
set_option maxRecDepth 20000 in
theorem k_113 : (Cond.fieldLinkNest "StitchDesk$HatchLine" (59 : Nat) "StitchDesk$Shape" "top" "I" "StitchDesk") ∈ lw_tbl := List.mem_append_right _ (List.mem_of_getElem? (i := 113) (by decide +kernel))
set_option maxRecDepth 20000 in
theorem k_114 : (Cond.fieldLink "StitchDesk$Shape" (70 : Nat) "StitchDesk$Shape" "top" "I") ∈ lw_tbl := List.mem_append_right _ (List.mem_of_getElem? (i := 114) (by decide +kernel))
set_option maxRecDepth 20000 in
theorem k_115 : (Cond.fieldLinkNest "StitchDesk" (164 : Nat) "StitchDesk$Shape" "top" "I" "StitchDesk") ∈ lw_tbl := List.mem_append_right _ (List.mem_of_getElem? (i := 115) (by decide +kernel))
set_option maxRecDepth 20000 in
theorem k_116 : (Cond.fieldLinkNest "StitchDesk$RunTeller" (122 : Nat) "StitchDesk$Shape" "top" "I" "StitchDesk") ∈ lw_tbl := List.mem_append_right _ (List.mem_of_getElem? (i := 116) (by decide +kernel))
set_option maxRecDepth 20000 in
theorem k_117 : (Cond.fieldLinkNest "StitchDesk$HatchLine" (52 : Nat) "StitchDesk$Shape" "right" "I" "StitchDesk") ∈ lw_tbl := List.mem_append_right _ (List.mem_of_getElem? (i := 117) (by decide +kernel))
set_option maxRecDepth 20000 in
theorem k_118 : (Cond.fieldLink "StitchDesk$Shape" (73 : Nat) "StitchDesk$Shape" "right" "I") ∈ lw_tbl := List.mem_append_right _ (List.mem_of_getElem? (i := 118) (by decide +kernel))
set_option maxRecDepth 20000 in
theorem k_119 : (Cond.fieldLinkNest "StitchDesk" (167 : Nat) "StitchDesk$Shape" "right" "I" "StitchDesk") ∈ lw_tbl := List.mem_append_right _ (List.mem_of_getElem? (i := 119) (by decide +kernel))
set_option maxRecDepth 20000 in
theorem k_120 : (Cond.fieldLinkNest "StitchDesk$RunTeller" (128 : Nat) "StitchDesk$Shape" "right" "I" "StitchDesk") ∈ lw_tbl := List.mem_append_right _ (List.mem_of_getElem? (i := 120) (by decide +kernel))
set_option maxRecDepth 20000 in
theorem k_121 : (Cond.fieldLinkNest "StitchDesk$HatchLine" (62 : Nat) "StitchDesk$Shape" "bottom" "I" "StitchDesk") ∈ lw_tbl := List.mem_append_right _ (List.mem_of_getElem? (i := 121) (by decide +kernel))
set_option maxRecDepth 20000 in
theorem k_122 : (Cond.fieldLink "StitchDesk$Shape" (76 : Nat) "StitchDesk$Shape" "bottom" "I") ∈ lw_tbl := List.mem_append_right _ (List.mem_of_getElem? (i := 122) (by decide +kernel))
set_option maxRecDepth 20000 in
theorem k_123 : (Cond.fieldLinkNest "StitchDesk" (170 : Nat) "StitchDesk$Shape" "bottom" "I" "StitchDesk") ∈ lw_tbl := List.mem_append_right _ (List.mem_of_getElem? (i := 123) (by decide +kernel))
set_option maxRecDepth 20000 in
theorem k_124 : (Cond.fieldLinkNest "StitchDesk$RunTeller" (131 : Nat) "StitchDesk$Shape" "bottom" "I" "StitchDesk") ∈ lw_tbl := List.mem_append_right _ (List.mem_of_getElem? (i := 124) (by decide +kernel))
set_option maxRecDepth 20000 in
theorem k_125 : (Cond.laysFinal "StitchDesk$Shape" "StitchDesk$Shape" "rings" "[LStitchDesk$Ring;") ∈ lw_tbl := List.mem_append_right _ (List.mem_of_getElem? (i := 125) (by decide +kernel))
set_option maxRecDepth 20000 in
theorem k_126 : (Cond.soleField "StitchDesk$Shape" "rings") ∈ lw_tbl := List.mem_append_right _ (List.mem_of_getElem? (i := 126) (by decide +kernel))
set_option maxRecDepth 20000 in
theorem k_127 : (Cond.laysFinal "StitchDesk$Shape" "StitchDesk$Shape" "rails" "[LStitchDesk$Ring;") ∈ lw_tbl := List.mem_append_right _ (List.mem_of_getElem? (i := 127) (by decide +kernel))
set_option maxRecDepth 20000 in
theorem k_128 : (Cond.soleField "StitchDesk$Shape" "rails") ∈ lw_tbl := List.mem_append_right _ (List.mem_of_getElem? (i := 128) (by decide +kernel))
set_option maxRecDepth 20000 in
theorem k_129 : (Cond.laysFinal "StitchDesk$Shape" "StitchDesk$Shape" "tally" "LStitchDesk$Tally;") ∈ lw_tbl := List.mem_append_right _ (List.mem_of_getElem? (i := 129) (by decide +kernel))
set_option maxRecDepth 20000 in
theorem k_130 : (Cond.soleField "StitchDesk$Shape" "tally") ∈ lw_tbl := List.mem_append_right _ (List.mem_of_getElem? (i := 130) (by decide +kernel))
set_option maxRecDepth 20000 in
theorem k_131 : (Cond.lays "StitchDesk$Shape" "StitchDesk$Shape" "colour" "I") ∈ lw_tbl := List.mem_append_right _ (List.mem_of_getElem? (i := 131) (by decide +kernel))
set_option maxRecDepth 20000 in
theorem k_132 : (Cond.soleField "StitchDesk$Shape" "colour") ∈ lw_tbl := List.mem_append_right _ (List.mem_of_getElem? (i := 132) (by decide +kernel))
set_option maxRecDepth 20000 in
theorem k_133 : (Cond.lays "StitchDesk$Shape" "StitchDesk$Shape" "fill" "I") ∈ lw_tbl := List.mem_append_right _ (List.mem_of_getElem? (i := 133) (by decide +kernel))
set_option maxRecDepth 20000 in
theorem k_134 : (Cond.soleField "StitchDesk$Shape" "fill") ∈ lw_tbl := List.mem_append_right _ (List.mem_of_getElem? (i := 134) (by decide +kernel))
set_option maxRecDepth 20000 in
theorem k_135 : (Cond.lays "StitchDesk$Shape" "StitchDesk$Shape" "spacing" "I") ∈ lw_tbl := List.mem_append_right _ (List.mem_of_getElem? (i := 135) (by decide +kernel))
set_option maxRecDepth 20000 in
theorem k_136 : (Cond.soleField "StitchDesk$Shape" "spacing") ∈ lw_tbl := List.mem_append_right _ (List.mem_of_getElem? (i := 136) (by decide +kernel))
set_option maxRecDepth 20000 in
theorem k_137 : (Cond.lays "StitchDesk$Shape" "StitchDesk$Shape" "direction" "I") ∈ lw_tbl := List.mem_append_right _ (List.mem_of_getElem? (i := 137) (by decide +kernel))
set_option maxRecDepth 20000 in
theorem k_138 : (Cond.soleField "StitchDesk$Shape" "direction") ∈ lw_tbl := List.mem_append_right _ (List.mem_of_getElem? (i := 138) (by decide +kernel))
set_option maxRecDepth 20000 in
theorem k_139 : (Cond.lays "StitchDesk$Shape" "StitchDesk$Shape" "left" "I") ∈ lw_tbl := List.mem_append_right _ (List.mem_of_getElem? (i := 139) (by decide +kernel))
set_option maxRecDepth 20000 in
theorem k_140 : (Cond.soleField "StitchDesk$Shape" "left") ∈ lw_tbl := List.mem_append_right _ (List.mem_of_getElem? (i := 140) (by decide +kernel))
set_option maxRecDepth 20000 in
theorem k_141 : (Cond.lays "StitchDesk$Shape" "StitchDesk$Shape" "top" "I") ∈ lw_tbl := List.mem_append_right _ (List.mem_of_getElem? (i := 141) (by decide +kernel))
set_option maxRecDepth 20000 in
theorem k_142 : (Cond.soleField "StitchDesk$Shape" "top") ∈ lw_tbl := List.mem_append_right _ (List.mem_of_getElem? (i := 142) (by decide +kernel))
set_option maxRecDepth 20000 in
theorem k_143 : (Cond.lays "StitchDesk$Shape" "StitchDesk$Shape" "right" "I") ∈ lw_tbl := List.mem_append_right _ (List.mem_of_getElem? (i := 143) (by decide +kernel))
set_option maxRecDepth 20000 in
theorem k_144 : (Cond.soleField "StitchDesk$Shape" "right") ∈ lw_tbl := List.mem_append_right _ (List.mem_of_getElem? (i := 144) (by decide +kernel))
set_option maxRecDepth 20000 in
theorem k_145 : (Cond.lays "StitchDesk$Shape" "StitchDesk$Shape" "bottom" "I") ∈ lw_tbl := List.mem_append_right _ (List.mem_of_getElem? (i := 145) (by decide +kernel))
set_option maxRecDepth 20000 in
theorem k_146 : (Cond.soleField "StitchDesk$Shape" "bottom") ∈ lw_tbl := List.mem_append_right _ (List.mem_of_getElem? (i := 146) (by decide +kernel))
set_option maxRecDepth 20000 in
theorem k_147 : (Cond.superclass "StitchDesk$Shape" "java/lang/Object") ∈ lw_tbl := List.mem_append_right _ (List.mem_of_getElem? (i := 147) (by decide +kernel))
set_option maxRecDepth 20000 in
theorem k_148 : (Cond.classLink "StitchDesk" (23 : Nat) "StitchDesk$Inspector") ∈ lw_tbl := List.mem_append_right _ (List.mem_of_getElem? (i := 148) (by decide +kernel))
set_option maxRecDepth 20000 in
theorem k_149 : (Cond.instantiable "StitchDesk$Inspector" (9 : Nat)) ∈ lw_tbl := List.mem_append_right _ (List.mem_of_getElem? (i := 149) (by decide +kernel))
set_option maxRecDepth 20000 in
theorem k_150 : (Cond.methodLinkNest "StitchDesk" (25 : Nat) ({ cls := "StitchDesk$Inspector", name := "<init>", desc := "()V" } : MethodName) "StitchDesk") ∈ lw_tbl := List.mem_append_right _ (List.mem_of_getElem? (i := 150) (by decide +kernel))
set_option maxRecDepth 20000 in
theorem k_151 : (Cond.instanceMethod ({ cls := "StitchDesk$Inspector", name := "<init>", desc := "()V" } : MethodName)) ∈ lw_tbl := List.mem_append_right _ (List.mem_of_getElem? (i := 151) (by decide +kernel))
set_option maxRecDepth 20000 in
theorem k_152 : (Cond.code ({ cls := "StitchDesk$Inspector", name := "<init>", desc := "()V" } : MethodName) prog_3_method_1_code (1 : Nat) (Option.none : Option ClassFile.FieldType)) ∈ lw_tbl := List.mem_append_right _ (List.mem_of_getElem? (i := 152) (by decide +kernel))
set_option maxRecDepth 20000 in
theorem k_153 : (Cond.methodLink "StitchDesk$Inspector" (3 : Nat) ({ cls := "java/lang/Object", name := "<init>", desc := "()V" } : MethodName)) ∈ lw_tbl := List.mem_append_right _ (List.mem_of_getElem? (i := 153) (by decide +kernel))
set_option maxRecDepth 20000 in
theorem k_154 : (Cond.fieldLink "StitchDesk$Inspector" (9 : Nat) "StitchDesk$Inspector" "x1" "[I") ∈ lw_tbl := List.mem_append_right _ (List.mem_of_getElem? (i := 154) (by decide +kernel))
set_option maxRecDepth 20000 in
theorem k_155 : (Cond.fieldLink "StitchDesk$Inspector" (15 : Nat) "StitchDesk$Inspector" "y1" "[I") ∈ lw_tbl := List.mem_append_right _ (List.mem_of_getElem? (i := 155) (by decide +kernel))
set_option maxRecDepth 20000 in
theorem k_156 : (Cond.fieldLink "StitchDesk$Inspector" (18 : Nat) "StitchDesk$Inspector" "x2" "[I") ∈ lw_tbl := List.mem_append_right _ (List.mem_of_getElem? (i := 156) (by decide +kernel))
set_option maxRecDepth 20000 in
theorem k_157 : (Cond.fieldLink "StitchDesk$Inspector" (21 : Nat) "StitchDesk$Inspector" "y2" "[I") ∈ lw_tbl := List.mem_append_right _ (List.mem_of_getElem? (i := 157) (by decide +kernel))
set_option maxRecDepth 20000 in
theorem k_158 : (Cond.fieldLink "StitchDesk$Inspector" (24 : Nat) "StitchDesk$Inspector" "follower" "[I") ∈ lw_tbl := List.mem_append_right _ (List.mem_of_getElem? (i := 158) (by decide +kernel))
set_option maxRecDepth 20000 in
theorem k_159 : (Cond.fieldLink "StitchDesk$Inspector" (82 : Nat) "StitchDesk$Inspector" "edgeTotal" "I") ∈ lw_tbl := List.mem_append_right _ (List.mem_of_getElem? (i := 159) (by decide +kernel))
set_option maxRecDepth 20000 in
theorem k_160 : (Cond.fieldLink "StitchDesk$Inspector" (46 : Nat) "StitchDesk$Inspector" "found" "I") ∈ lw_tbl := List.mem_append_right _ (List.mem_of_getElem? (i := 160) (by decide +kernel))
set_option maxRecDepth 20000 in
theorem k_161 : (Cond.fieldLinkNest "StitchDesk" (140 : Nat) "StitchDesk$Inspector" "found" "I" "StitchDesk") ∈ lw_tbl := List.mem_append_right _ (List.mem_of_getElem? (i := 161) (by decide +kernel))
set_option maxRecDepth 20000 in
theorem k_162 : (Cond.fieldLink "StitchDesk$Inspector" (27 : Nat) "StitchDesk$Inspector" "lesser" "I") ∈ lw_tbl := List.mem_append_right _ (List.mem_of_getElem? (i := 162) (by decide +kernel))
set_option maxRecDepth 20000 in
theorem k_163 : (Cond.fieldLinkNest "StitchDesk" (143 : Nat) "StitchDesk$Inspector" "lesser" "I" "StitchDesk") ∈ lw_tbl := List.mem_append_right _ (List.mem_of_getElem? (i := 163) (by decide +kernel))
set_option maxRecDepth 20000 in
theorem k_164 : (Cond.fieldLink "StitchDesk$Inspector" (31 : Nat) "StitchDesk$Inspector" "other" "I") ∈ lw_tbl := List.mem_append_right _ (List.mem_of_getElem? (i := 164) (by decide +kernel))
set_option maxRecDepth 20000 in
theorem k_165 : (Cond.fieldLinkNest "StitchDesk" (146 : Nat) "StitchDesk$Inspector" "other" "I" "StitchDesk") ∈ lw_tbl := List.mem_append_right _ (List.mem_of_getElem? (i := 165) (by decide +kernel))
set_option maxRecDepth 20000 in
theorem k_166 : (Cond.laysFinal "StitchDesk$Inspector" "StitchDesk$Inspector" "x1" "[I") ∈ lw_tbl := List.mem_append_right _ (List.mem_of_getElem? (i := 166) (by decide +kernel))
set_option maxRecDepth 20000 in
theorem k_167 : (Cond.soleField "StitchDesk$Inspector" "x1") ∈ lw_tbl := List.mem_append_right _ (List.mem_of_getElem? (i := 167) (by decide +kernel))
set_option maxRecDepth 20000 in
theorem k_168 : (Cond.laysFinal "StitchDesk$Inspector" "StitchDesk$Inspector" "y1" "[I") ∈ lw_tbl := List.mem_append_right _ (List.mem_of_getElem? (i := 168) (by decide +kernel))
set_option maxRecDepth 20000 in
theorem k_169 : (Cond.soleField "StitchDesk$Inspector" "y1") ∈ lw_tbl := List.mem_append_right _ (List.mem_of_getElem? (i := 169) (by decide +kernel))
set_option maxRecDepth 20000 in
theorem k_170 : (Cond.laysFinal "StitchDesk$Inspector" "StitchDesk$Inspector" "x2" "[I") ∈ lw_tbl := List.mem_append_right _ (List.mem_of_getElem? (i := 170) (by decide +kernel))
set_option maxRecDepth 20000 in
theorem k_171 : (Cond.soleField "StitchDesk$Inspector" "x2") ∈ lw_tbl := List.mem_append_right _ (List.mem_of_getElem? (i := 171) (by decide +kernel))
set_option maxRecDepth 20000 in
theorem k_172 : (Cond.laysFinal "StitchDesk$Inspector" "StitchDesk$Inspector" "y2" "[I") ∈ lw_tbl := List.mem_append_right _ (List.mem_of_getElem? (i := 172) (by decide +kernel))
set_option maxRecDepth 20000 in
theorem k_173 : (Cond.soleField "StitchDesk$Inspector" "y2") ∈ lw_tbl := List.mem_append_right _ (List.mem_of_getElem? (i := 173) (by decide +kernel))
set_option maxRecDepth 20000 in
theorem k_174 : (Cond.laysFinal "StitchDesk$Inspector" "StitchDesk$Inspector" "follower" "[I") ∈ lw_tbl := List.mem_append_right _ (List.mem_of_getElem? (i := 174) (by decide +kernel))
set_option maxRecDepth 20000 in
theorem k_175 : (Cond.soleField "StitchDesk$Inspector" "follower") ∈ lw_tbl := List.mem_append_right _ (List.mem_of_getElem? (i := 175) (by decide +kernel))
set_option maxRecDepth 20000 in
theorem k_176 : (Cond.lays "StitchDesk$Inspector" "StitchDesk$Inspector" "edgeTotal" "I") ∈ lw_tbl := List.mem_append_right _ (List.mem_of_getElem? (i := 176) (by decide +kernel))
set_option maxRecDepth 20000 in
theorem k_177 : (Cond.soleField "StitchDesk$Inspector" "edgeTotal") ∈ lw_tbl := List.mem_append_right _ (List.mem_of_getElem? (i := 177) (by decide +kernel))
set_option maxRecDepth 20000 in
theorem k_178 : (Cond.lays "StitchDesk$Inspector" "StitchDesk$Inspector" "found" "I") ∈ lw_tbl := List.mem_append_right _ (List.mem_of_getElem? (i := 178) (by decide +kernel))
set_option maxRecDepth 20000 in
theorem k_179 : (Cond.soleField "StitchDesk$Inspector" "found") ∈ lw_tbl := List.mem_append_right _ (List.mem_of_getElem? (i := 179) (by decide +kernel))
set_option maxRecDepth 20000 in
theorem k_180 : (Cond.lays "StitchDesk$Inspector" "StitchDesk$Inspector" "lesser" "I") ∈ lw_tbl := List.mem_append_right _ (List.mem_of_getElem? (i := 180) (by decide +kernel))
set_option maxRecDepth 20000 in
theorem k_181 : (Cond.soleField "StitchDesk$Inspector" "lesser") ∈ lw_tbl := List.mem_append_right _ (List.mem_of_getElem? (i := 181) (by decide +kernel))
set_option maxRecDepth 20000 in
theorem k_182 : (Cond.lays "StitchDesk$Inspector" "StitchDesk$Inspector" "other" "I") ∈ lw_tbl := List.mem_append_right _ (List.mem_of_getElem? (i := 182) (by decide +kernel))
set_option maxRecDepth 20000 in
theorem k_183 : (Cond.soleField "StitchDesk$Inspector" "other") ∈ lw_tbl := List.mem_append_right _ (List.mem_of_getElem? (i := 183) (by decide +kernel))
set_option maxRecDepth 20000 in
theorem k_184 : (Cond.superclass "StitchDesk$Inspector" "java/lang/Object") ∈ lw_tbl := List.mem_append_right _ (List.mem_of_getElem? (i := 184) (by decide +kernel))
set_option maxRecDepth 20000 in
theorem k_185 : (Cond.classLink "StitchDesk" (30 : Nat) "StitchDesk$RunTeller") ∈ lw_tbl := List.mem_append_right _ (List.mem_of_getElem? (i := 185) (by decide +kernel))
set_option maxRecDepth 20000 in
theorem k_186 : (Cond.instantiable "StitchDesk$RunTeller" (1 : Nat)) ∈ lw_tbl := List.mem_append_right _ (List.mem_of_getElem? (i := 186) (by decide +kernel))
set_option maxRecDepth 20000 in
theorem k_187 : (Cond.methodLinkNest "StitchDesk" (32 : Nat) ({ cls := "StitchDesk$RunTeller", name := "<init>", desc := "()V" } : MethodName) "StitchDesk") ∈ lw_tbl := List.mem_append_right _ (List.mem_of_getElem? (i := 187) (by decide +kernel))
set_option maxRecDepth 20000 in
theorem k_188 : (Cond.instanceMethod ({ cls := "StitchDesk$RunTeller", name := "<init>", desc := "()V" } : MethodName)) ∈ lw_tbl := List.mem_append_right _ (List.mem_of_getElem? (i := 188) (by decide +kernel))
set_option maxRecDepth 20000 in
theorem k_189 : (Cond.code ({ cls := "StitchDesk$RunTeller", name := "<init>", desc := "()V" } : MethodName) prog_9_method_1_code (1 : Nat) (Option.none : Option ClassFile.FieldType)) ∈ lw_tbl := List.mem_append_right _ (List.mem_of_getElem? (i := 189) (by decide +kernel))
set_option maxRecDepth 20000 in
theorem k_190 : (Cond.methodLink "StitchDesk$RunTeller" (3 : Nat) ({ cls := "java/lang/Object", name := "<init>", desc := "()V" } : MethodName)) ∈ lw_tbl := List.mem_append_right _ (List.mem_of_getElem? (i := 190) (by decide +kernel))
set_option maxRecDepth 20000 in
theorem k_191 : (Cond.classLink "StitchDesk$RunTeller" (9 : Nat) "StitchDesk$HatchLine") ∈ lw_tbl := List.mem_append_right _ (List.mem_of_getElem? (i := 191) (by decide +kernel))
set_option maxRecDepth 20000 in
theorem k_192 : (Cond.instantiable "StitchDesk$HatchLine" (13 : Nat)) ∈ lw_tbl := List.mem_append_right _ (List.mem_of_getElem? (i := 192) (by decide +kernel))
set_option maxRecDepth 20000 in
theorem k_193 : (Cond.methodLinkNest "StitchDesk$RunTeller" (11 : Nat) ({ cls := "StitchDesk$HatchLine", name := "<init>", desc := "()V" } : MethodName) "StitchDesk") ∈ lw_tbl := List.mem_append_right _ (List.mem_of_getElem? (i := 193) (by decide +kernel))
set_option maxRecDepth 20000 in
theorem k_194 : (Cond.instanceMethod ({ cls := "StitchDesk$HatchLine", name := "<init>", desc := "()V" } : MethodName)) ∈ lw_tbl := List.mem_append_right _ (List.mem_of_getElem? (i := 194) (by decide +kernel))
set_option maxRecDepth 20000 in
theorem k_195 : (Cond.code ({ cls := "StitchDesk$HatchLine", name := "<init>", desc := "()V" } : MethodName) prog_2_method_1_code (1 : Nat) (Option.none : Option ClassFile.FieldType)) ∈ lw_tbl := List.mem_append_right _ (List.mem_of_getElem? (i := 195) (by decide +kernel))
set_option maxRecDepth 20000 in
theorem k_196 : (Cond.methodLink "StitchDesk$HatchLine" (3 : Nat) ({ cls := "java/lang/Object", name := "<init>", desc := "()V" } : MethodName)) ∈ lw_tbl := List.mem_append_right _ (List.mem_of_getElem? (i := 196) (by decide +kernel))
set_option maxRecDepth 20000 in
theorem k_197 : (Cond.fieldLink "StitchDesk$HatchLine" (9 : Nat) "StitchDesk$HatchLine" "events" "[I") ∈ lw_tbl := List.mem_append_right _ (List.mem_of_getElem? (i := 197) (by decide +kernel))
set_option maxRecDepth 20000 in
theorem k_198 : (Cond.fieldLink "StitchDesk$HatchLine" (15 : Nat) "StitchDesk$HatchLine" "starts" "[I") ∈ lw_tbl := List.mem_append_right _ (List.mem_of_getElem? (i := 198) (by decide +kernel))
set_option maxRecDepth 20000 in
theorem k_199 : (Cond.fieldLinkNest "StitchDesk$RunTeller" (107 : Nat) "StitchDesk$HatchLine" "starts" "[I" "StitchDesk") ∈ lw_tbl := List.mem_append_right _ (List.mem_of_getElem? (i := 199) (by decide +kernel))
set_option maxRecDepth 20000 in
theorem k_200 : (Cond.fieldLink "StitchDesk$HatchLine" (18 : Nat) "StitchDesk$HatchLine" "ends" "[I") ∈ lw_tbl := List.mem_append_right _ (List.mem_of_getElem? (i := 200) (by decide +kernel))
set_option maxRecDepth 20000 in
theorem k_201 : (Cond.fieldLinkNest "StitchDesk$RunTeller" (110 : Nat) "StitchDesk$HatchLine" "ends" "[I" "StitchDesk") ∈ lw_tbl := List.mem_append_right _ (List.mem_of_getElem? (i := 201) (by decide +kernel))
set_option maxRecDepth 20000 in
theorem k_202 : (Cond.fieldLink "StitchDesk$HatchLine" (71 : Nat) "StitchDesk$HatchLine" "eventTotal" "I") ∈ lw_tbl := List.mem_append_right _ (List.mem_of_getElem? (i := 202) (by decide +kernel))
set_option maxRecDepth 20000 in
theorem k_203 : (Cond.fieldLinkNest "StitchDesk$RunTeller" (104 : Nat) "StitchDesk$HatchLine" "partTotal" "I" "StitchDesk") ∈ lw_tbl := List.mem_append_right _ (List.mem_of_getElem? (i := 203) (by decide +kernel))
set_option maxRecDepth 20000 in
theorem k_204 : (Cond.fieldLink "StitchDesk$HatchLine" (133 : Nat) "StitchDesk$HatchLine" "partTotal" "I") ∈ lw_tbl := List.mem_append_right _ (List.mem_of_getElem? (i := 204) (by decide +kernel))
set_option maxRecDepth 20000 in
theorem k_205 : (Cond.fieldLink "StitchDesk$HatchLine" (21 : Nat) "StitchDesk$HatchLine" "xStep" "I") ∈ lw_tbl := List.mem_append_right _ (List.mem_of_getElem? (i := 205) (by decide +kernel))
set_option maxRecDepth 20000 in
theorem k_206 : (Cond.fieldLink "StitchDesk$HatchLine" (25 : Nat) "StitchDesk$HatchLine" "xBase" "I") ∈ lw_tbl := List.mem_append_right _ (List.mem_of_getElem? (i := 206) (by decide +kernel))
set_option maxRecDepth 20000 in
theorem k_207 : (Cond.fieldLink "StitchDesk$HatchLine" (28 : Nat) "StitchDesk$HatchLine" "yStep" "I") ∈ lw_tbl := List.mem_append_right _ (List.mem_of_getElem? (i := 207) (by decide +kernel))
set_option maxRecDepth 20000 in
theorem k_208 : (Cond.fieldLink "StitchDesk$HatchLine" (31 : Nat) "StitchDesk$HatchLine" "yBase" "I") ∈ lw_tbl := List.mem_append_right _ (List.mem_of_getElem? (i := 208) (by decide +kernel))
set_option maxRecDepth 20000 in
theorem k_209 : (Cond.fieldLink "StitchDesk$HatchLine" (65 : Nat) "StitchDesk$HatchLine" "first" "I") ∈ lw_tbl := List.mem_append_right _ (List.mem_of_getElem? (i := 209) (by decide +kernel))
set_option maxRecDepth 20000 in
theorem k_210 : (Cond.fieldLink "StitchDesk$HatchLine" (68 : Nat) "StitchDesk$HatchLine" "last" "I") ∈ lw_tbl := List.mem_append_right _ (List.mem_of_getElem? (i := 210) (by decide +kernel))
set_option maxRecDepth 20000 in
theorem k_211 : (Cond.fieldLink "StitchDesk$HatchLine" (43 : Nat) "StitchDesk$HatchLine" "low" "I") ∈ lw_tbl := List.mem_append_right _ (List.mem_of_getElem? (i := 211) (by decide +kernel))
set_option maxRecDepth 20000 in
theorem k_212 : (Cond.fieldLink "StitchDesk$HatchLine" (46 : Nat) "StitchDesk$HatchLine" "high" "I") ∈ lw_tbl := List.mem_append_right _ (List.mem_of_getElem? (i := 212) (by decide +kernel))
set_option maxRecDepth 20000 in
theorem k_213 : (Cond.laysFinal "StitchDesk$HatchLine" "StitchDesk$HatchLine" "events" "[I") ∈ lw_tbl := List.mem_append_right _ (List.mem_of_getElem? (i := 213) (by decide +kernel))
set_option maxRecDepth 20000 in
theorem k_214 : (Cond.soleField "StitchDesk$HatchLine" "events") ∈ lw_tbl := List.mem_append_right _ (List.mem_of_getElem? (i := 214) (by decide +kernel))
set_option maxRecDepth 20000 in
theorem k_215 : (Cond.laysFinal "StitchDesk$HatchLine" "StitchDesk$HatchLine" "starts" "[I") ∈ lw_tbl := List.mem_append_right _ (List.mem_of_getElem? (i := 215) (by decide +kernel))
set_option maxRecDepth 20000 in
theorem k_216 : (Cond.soleField "StitchDesk$HatchLine" "starts") ∈ lw_tbl := List.mem_append_right _ (List.mem_of_getElem? (i := 216) (by decide +kernel))
set_option maxRecDepth 20000 in
theorem k_217 : (Cond.laysFinal "StitchDesk$HatchLine" "StitchDesk$HatchLine" "ends" "[I") ∈ lw_tbl := List.mem_append_right _ (List.mem_of_getElem? (i := 217) (by decide +kernel))
set_option maxRecDepth 20000 in
theorem k_218 : (Cond.soleField "StitchDesk$HatchLine" "ends") ∈ lw_tbl := List.mem_append_right _ (List.mem_of_getElem? (i := 218) (by decide +kernel))
set_option maxRecDepth 20000 in
theorem k_219 : (Cond.lays "StitchDesk$HatchLine" "StitchDesk$HatchLine" "eventTotal" "I") ∈ lw_tbl := List.mem_append_right _ (List.mem_of_getElem? (i := 219) (by decide +kernel))
set_option maxRecDepth 20000 in
theorem k_220 : (Cond.soleField "StitchDesk$HatchLine" "eventTotal") ∈ lw_tbl := List.mem_append_right _ (List.mem_of_getElem? (i := 220) (by decide +kernel))
set_option maxRecDepth 20000 in
theorem k_221 : (Cond.lays "StitchDesk$HatchLine" "StitchDesk$HatchLine" "partTotal" "I") ∈ lw_tbl := List.mem_append_right _ (List.mem_of_getElem? (i := 221) (by decide +kernel))
set_option maxRecDepth 20000 in
theorem k_222 : (Cond.soleField "StitchDesk$HatchLine" "partTotal") ∈ lw_tbl := List.mem_append_right _ (List.mem_of_getElem? (i := 222) (by decide +kernel))
set_option maxRecDepth 20000 in
theorem k_223 : (Cond.lays "StitchDesk$HatchLine" "StitchDesk$HatchLine" "xStep" "I") ∈ lw_tbl := List.mem_append_right _ (List.mem_of_getElem? (i := 223) (by decide +kernel))
set_option maxRecDepth 20000 in
theorem k_224 : (Cond.soleField "StitchDesk$HatchLine" "xStep") ∈ lw_tbl := List.mem_append_right _ (List.mem_of_getElem? (i := 224) (by decide +kernel))
set_option maxRecDepth 20000 in
theorem k_225 : (Cond.lays "StitchDesk$HatchLine" "StitchDesk$HatchLine" "xBase" "I") ∈ lw_tbl := List.mem_append_right _ (List.mem_of_getElem? (i := 225) (by decide +kernel))
set_option maxRecDepth 20000 in
theorem k_226 : (Cond.soleField "StitchDesk$HatchLine" "xBase") ∈ lw_tbl := List.mem_append_right _ (List.mem_of_getElem? (i := 226) (by decide +kernel))
set_option maxRecDepth 20000 in
theorem k_227 : (Cond.lays "StitchDesk$HatchLine" "StitchDesk$HatchLine" "yStep" "I") ∈ lw_tbl := List.mem_append_right _ (List.mem_of_getElem? (i := 227) (by decide +kernel))
set_option maxRecDepth 20000 in
theorem k_228 : (Cond.soleField "StitchDesk$HatchLine" "yStep") ∈ lw_tbl := List.mem_append_right _ (List.mem_of_getElem? (i := 228) (by decide +kernel))
set_option maxRecDepth 20000 in
theorem k_229 : (Cond.lays "StitchDesk$HatchLine" "StitchDesk$HatchLine" "yBase" "I") ∈ lw_tbl := List.mem_append_right _ (List.mem_of_getElem? (i := 229) (by decide +kernel))
set_option maxRecDepth 20000 in
theorem k_230 : (Cond.soleField "StitchDesk$HatchLine" "yBase") ∈ lw_tbl := List.mem_append_right _ (List.mem_of_getElem? (i := 230) (by decide +kernel))
set_option maxRecDepth 20000 in
theorem k_231 : (Cond.lays "StitchDesk$HatchLine" "StitchDesk$HatchLine" "first" "I") ∈ lw_tbl := List.mem_append_right _ (List.mem_of_getElem? (i := 231) (by decide +kernel))
set_option maxRecDepth 20000 in
theorem k_232 : (Cond.soleField "StitchDesk$HatchLine" "first") ∈ lw_tbl := List.mem_append_right _ (List.mem_of_getElem? (i := 232) (by decide +kernel))
set_option maxRecDepth 20000 in
theorem k_233 : (Cond.lays "StitchDesk$HatchLine" "StitchDesk$HatchLine" "last" "I") ∈ lw_tbl := List.mem_append_right _ (List.mem_of_getElem? (i := 233) (by decide +kernel))
set_option maxRecDepth 20000 in
theorem k_234 : (Cond.soleField "StitchDesk$HatchLine" "last") ∈ lw_tbl := List.mem_append_right _ (List.mem_of_getElem? (i := 234) (by decide +kernel))
set_option maxRecDepth 20000 in
theorem k_235 : (Cond.lays "StitchDesk$HatchLine" "StitchDesk$HatchLine" "low" "I") ∈ lw_tbl := List.mem_append_right _ (List.mem_of_getElem? (i := 235) (by decide +kernel))
set_option maxRecDepth 20000 in
theorem k_236 : (Cond.soleField "StitchDesk$HatchLine" "low") ∈ lw_tbl := List.mem_append_right _ (List.mem_of_getElem? (i := 236) (by decide +kernel))
set_option maxRecDepth 20000 in
theorem k_237 : (Cond.lays "StitchDesk$HatchLine" "StitchDesk$HatchLine" "high" "I") ∈ lw_tbl := List.mem_append_right _ (List.mem_of_getElem? (i := 237) (by decide +kernel))
set_option maxRecDepth 20000 in
theorem k_238 : (Cond.soleField "StitchDesk$HatchLine" "high") ∈ lw_tbl := List.mem_append_right _ (List.mem_of_getElem? (i := 238) (by decide +kernel))
set_option maxRecDepth 20000 in
theorem k_239 : (Cond.superclass "StitchDesk$HatchLine" "java/lang/Object") ∈ lw_tbl := List.mem_append_right _ (List.mem_of_getElem? (i := 239) (by decide +kernel))
set_option maxRecDepth 20000 in
theorem k_240 : (Cond.fieldLink "StitchDesk$RunTeller" (12 : Nat) "StitchDesk$RunTeller" "line" "LStitchDesk$HatchLine;") ∈ lw_tbl := List.mem_append_right _ (List.mem_of_getElem? (i := 240) (by decide +kernel))
set_option maxRecDepth 20000 in
theorem k_241 : (Cond.laysFinal "StitchDesk$RunTeller" "StitchDesk$RunTeller" "line" "LStitchDesk$HatchLine;") ∈ lw_tbl := List.mem_append_right _ (List.mem_of_getElem? (i := 241) (by decide +kernel))
set_option maxRecDepth 20000 in
theorem k_242 : (Cond.soleField "StitchDesk$RunTeller" "line") ∈ lw_tbl := List.mem_append_right _ (List.mem_of_getElem? (i := 242) (by decide +kernel))
set_option maxRecDepth 20000 in
theorem k_243 : (Cond.superclass "StitchDesk$RunTeller" "java/lang/Object") ∈ lw_tbl := List.mem_append_right _ (List.mem_of_getElem? (i := 243) (by decide +kernel))
set_option maxRecDepth 20000 in
theorem k_244 : (Cond.classLink "StitchDesk" (37 : Nat) "StitchDesk$PathMaker") ∈ lw_tbl := List.mem_append_right _ (List.mem_of_getElem? (i := 244) (by decide +kernel))
set_option maxRecDepth 20000 in
theorem k_245 : (Cond.instantiable "StitchDesk$PathMaker" (7 : Nat)) ∈ lw_tbl := List.mem_append_right _ (List.mem_of_getElem? (i := 245) (by decide +kernel))
set_option maxRecDepth 20000 in
theorem k_246 : (Cond.methodLinkNest "StitchDesk" (39 : Nat) ({ cls := "StitchDesk$PathMaker", name := "<init>", desc := "()V" } : MethodName) "StitchDesk") ∈ lw_tbl := List.mem_append_right _ (List.mem_of_getElem? (i := 246) (by decide +kernel))
set_option maxRecDepth 20000 in
theorem k_247 : (Cond.instanceMethod ({ cls := "StitchDesk$PathMaker", name := "<init>", desc := "()V" } : MethodName)) ∈ lw_tbl := List.mem_append_right _ (List.mem_of_getElem? (i := 247) (by decide +kernel))
set_option maxRecDepth 20000 in
theorem k_248 : (Cond.code ({ cls := "StitchDesk$PathMaker", name := "<init>", desc := "()V" } : MethodName) prog_5_method_1_code (1 : Nat) (Option.none : Option ClassFile.FieldType)) ∈ lw_tbl := List.mem_append_right _ (List.mem_of_getElem? (i := 248) (by decide +kernel))
set_option maxRecDepth 20000 in
theorem k_249 : (Cond.methodLink "StitchDesk$PathMaker" (3 : Nat) ({ cls := "java/lang/Object", name := "<init>", desc := "()V" } : MethodName)) ∈ lw_tbl := List.mem_append_right _ (List.mem_of_getElem? (i := 249) (by decide +kernel))
set_option maxRecDepth 20000 in
theorem k_250 : (Cond.classLink "StitchDesk$PathMaker" (9 : Nat) "StitchDesk$Path") ∈ lw_tbl := List.mem_append_right _ (List.mem_of_getElem? (i := 250) (by decide +kernel))
set_option maxRecDepth 20000 in
theorem k_251 : (Cond.instantiable "StitchDesk$Path" (3 : Nat)) ∈ lw_tbl := List.mem_append_right _ (List.mem_of_getElem? (i := 251) (by decide +kernel))
set_option maxRecDepth 20000 in
theorem k_252 : (Cond.methodLinkNest "StitchDesk$PathMaker" (11 : Nat) ({ cls := "StitchDesk$Path", name := "<init>", desc := "()V" } : MethodName) "StitchDesk") ∈ lw_tbl := List.mem_append_right _ (List.mem_of_getElem? (i := 252) (by decide +kernel))
set_option maxRecDepth 20000 in
theorem k_253 : (Cond.instanceMethod ({ cls := "StitchDesk$Path", name := "<init>", desc := "()V" } : MethodName)) ∈ lw_tbl := List.mem_append_right _ (List.mem_of_getElem? (i := 253) (by decide +kernel))
set_option maxRecDepth 20000 in
theorem k_254 : (Cond.code ({ cls := "StitchDesk$Path", name := "<init>", desc := "()V" } : MethodName) prog_4_method_1_code (1 : Nat) (Option.none : Option ClassFile.FieldType)) ∈ lw_tbl := List.mem_append_right _ (List.mem_of_getElem? (i := 254) (by decide +kernel))
set_option maxRecDepth 20000 in
theorem k_255 : (Cond.methodLink "StitchDesk$Path" (3 : Nat) ({ cls := "java/lang/Object", name := "<init>", desc := "()V" } : MethodName)) ∈ lw_tbl := List.mem_append_right _ (List.mem_of_getElem? (i := 255) (by decide +kernel))
set_option maxRecDepth 20000 in
theorem k_256 : (Cond.fieldLink "StitchDesk$Path" (9 : Nat) "StitchDesk$Path" "codes" "[I") ∈ lw_tbl := List.mem_append_right _ (List.mem_of_getElem? (i := 256) (by decide +kernel))
set_option maxRecDepth 20000 in
theorem k_257 : (Cond.fieldLink "StitchDesk$Path" (15 : Nat) "StitchDesk$Path" "size" "I") ∈ lw_tbl := List.mem_append_right _ (List.mem_of_getElem? (i := 257) (by decide +kernel))
set_option maxRecDepth 20000 in
theorem k_258 : (Cond.fieldLinkNest "StitchDesk" (183 : Nat) "StitchDesk$Path" "size" "I" "StitchDesk") ∈ lw_tbl := List.mem_append_right _ (List.mem_of_getElem? (i := 258) (by decide +kernel))
set_option maxRecDepth 20000 in
theorem k_259 : (Cond.fieldLink "StitchDesk$Path" (19 : Nat) "StitchDesk$Path" "overfull" "Z") ∈ lw_tbl := List.mem_append_right _ (List.mem_of_getElem? (i := 259) (by decide +kernel))
set_option maxRecDepth 20000 in
theorem k_260 : (Cond.fieldLinkNest "StitchDesk$PathMaker" (42 : Nat) "StitchDesk$Path" "overfull" "Z" "StitchDesk") ∈ lw_tbl := List.mem_append_right _ (List.mem_of_getElem? (i := 260) (by decide +kernel))
set_option maxRecDepth 20000 in
theorem k_261 : (Cond.fieldLinkNest "StitchDesk" (192 : Nat) "StitchDesk$Path" "overfull" "Z" "StitchDesk") ∈ lw_tbl := List.mem_append_right _ (List.mem_of_getElem? (i := 261) (by decide +kernel))
set_option maxRecDepth 20000 in
theorem k_262 : (Cond.laysFinal "StitchDesk$Path" "StitchDesk$Path" "codes" "[I") ∈ lw_tbl := List.mem_append_right _ (List.mem_of_getElem? (i := 262) (by decide +kernel))
set_option maxRecDepth 20000 in
theorem k_263 : (Cond.soleField "StitchDesk$Path" "codes") ∈ lw_tbl := List.mem_append_right _ (List.mem_of_getElem? (i := 263) (by decide +kernel))
set_option maxRecDepth 20000 in
theorem k_264 : (Cond.lays "StitchDesk$Path" "StitchDesk$Path" "size" "I") ∈ lw_tbl := List.mem_append_right _ (List.mem_of_getElem? (i := 264) (by decide +kernel))
set_option maxRecDepth 20000 in
theorem k_265 : (Cond.soleField "StitchDesk$Path" "size") ∈ lw_tbl := List.mem_append_right _ (List.mem_of_getElem? (i := 265) (by decide +kernel))
set_option maxRecDepth 20000 in
theorem k_266 : (Cond.lays "StitchDesk$Path" "StitchDesk$Path" "overfull" "Z") ∈ lw_tbl := List.mem_append_right _ (List.mem_of_getElem? (i := 266) (by decide +kernel))
set_option maxRecDepth 20000 in
theorem k_267 : (Cond.soleField "StitchDesk$Path" "overfull") ∈ lw_tbl := List.mem_append_right _ (List.mem_of_getElem? (i := 267) (by decide +kernel))
set_option maxRecDepth 20000 in
theorem k_268 : (Cond.superclass "StitchDesk$Path" "java/lang/Object") ∈ lw_tbl := List.mem_append_right _ (List.mem_of_getElem? (i := 268) (by decide +kernel))
set_option maxRecDepth 20000 in
theorem k_269 : (Cond.fieldLink "StitchDesk$PathMaker" (12 : Nat) "StitchDesk$PathMaker" "path" "LStitchDesk$Path;") ∈ lw_tbl := List.mem_append_right _ (List.mem_of_getElem? (i := 269) (by decide +kernel))
set_option maxRecDepth 20000 in
theorem k_270 : (Cond.fieldLinkNest "StitchDesk" (44 : Nat) "StitchDesk$PathMaker" "path" "LStitchDesk$Path;" "StitchDesk") ∈ lw_tbl := List.mem_append_right _ (List.mem_of_getElem? (i := 270) (by decide +kernel))
set_option maxRecDepth 20000 in
theorem k_271 : (Cond.fieldLink "StitchDesk$PathMaker" (31 : Nat) "StitchDesk$PathMaker" "shape" "LStitchDesk$Shape;") ∈ lw_tbl := List.mem_append_right _ (List.mem_of_getElem? (i := 271) (by decide +kernel))
set_option maxRecDepth 20000 in
theorem k_272 : (Cond.fieldLink "StitchDesk$PathMaker" (21 : Nat) "StitchDesk$PathMaker" "x" "I") ∈ lw_tbl := List.mem_append_right _ (List.mem_of_getElem? (i := 272) (by decide +kernel))
set_option maxRecDepth 20000 in
theorem k_273 : (Cond.fieldLink "StitchDesk$PathMaker" (25 : Nat) "StitchDesk$PathMaker" "y" "I") ∈ lw_tbl := List.mem_append_right _ (List.mem_of_getElem? (i := 273) (by decide +kernel))
set_option maxRecDepth 20000 in
theorem k_274 : (Cond.fieldLink "StitchDesk$PathMaker" (28 : Nat) "StitchDesk$PathMaker" "threaded" "I") ∈ lw_tbl := List.mem_append_right _ (List.mem_of_getElem? (i := 274) (by decide +kernel))
set_option maxRecDepth 20000 in
theorem k_275 : (Cond.fieldLink "StitchDesk$PathMaker" (35 : Nat) "StitchDesk$PathMaker" "entering" "Z") ∈ lw_tbl := List.mem_append_right _ (List.mem_of_getElem? (i := 275) (by decide +kernel))
set_option maxRecDepth 20000 in
theorem k_276 : (Cond.fieldLink "StitchDesk$PathMaker" (39 : Nat) "StitchDesk$PathMaker" "atRunStart" "Z") ∈ lw_tbl := List.mem_append_right _ (List.mem_of_getElem? (i := 276) (by decide +kernel))
set_option maxRecDepth 20000 in
theorem k_277 : (Cond.laysFinal "StitchDesk$PathMaker" "StitchDesk$PathMaker" "path" "LStitchDesk$Path;") ∈ lw_tbl := List.mem_append_right _ (List.mem_of_getElem? (i := 277) (by decide +kernel))
set_option maxRecDepth 20000 in
theorem k_278 : (Cond.soleField "StitchDesk$PathMaker" "path") ∈ lw_tbl := List.mem_append_right _ (List.mem_of_getElem? (i := 278) (by decide +kernel))
set_option maxRecDepth 20000 in
theorem k_279 : (Cond.lays "StitchDesk$PathMaker" "StitchDesk$PathMaker" "shape" "LStitchDesk$Shape;") ∈ lw_tbl := List.mem_append_right _ (List.mem_of_getElem? (i := 279) (by decide +kernel))
set_option maxRecDepth 20000 in
theorem k_280 : (Cond.soleField "StitchDesk$PathMaker" "shape") ∈ lw_tbl := List.mem_append_right _ (List.mem_of_getElem? (i := 280) (by decide +kernel))
set_option maxRecDepth 20000 in
theorem k_281 : (Cond.lays "StitchDesk$PathMaker" "StitchDesk$PathMaker" "x" "I") ∈ lw_tbl := List.mem_append_right _ (List.mem_of_getElem? (i := 281) (by decide +kernel))
set_option maxRecDepth 20000 in
theorem k_282 : (Cond.soleField "StitchDesk$PathMaker" "x") ∈ lw_tbl := List.mem_append_right _ (List.mem_of_getElem? (i := 282) (by decide +kernel))
set_option maxRecDepth 20000 in
theorem k_283 : (Cond.lays "StitchDesk$PathMaker" "StitchDesk$PathMaker" "y" "I") ∈ lw_tbl := List.mem_append_right _ (List.mem_of_getElem? (i := 283) (by decide +kernel))
set_option maxRecDepth 20000 in
theorem k_284 : (Cond.soleField "StitchDesk$PathMaker" "y") ∈ lw_tbl := List.mem_append_right _ (List.mem_of_getElem? (i := 284) (by decide +kernel))
set_option maxRecDepth 20000 in
theorem k_285 : (Cond.lays "StitchDesk$PathMaker" "StitchDesk$PathMaker" "threaded" "I") ∈ lw_tbl := List.mem_append_right _ (List.mem_of_getElem? (i := 285) (by decide +kernel))
set_option maxRecDepth 20000 in
theorem k_286 : (Cond.soleField "StitchDesk$PathMaker" "threaded") ∈ lw_tbl := List.mem_append_right _ (List.mem_of_getElem? (i := 286) (by decide +kernel))
set_option maxRecDepth 20000 in
theorem k_287 : (Cond.lays "StitchDesk$PathMaker" "StitchDesk$PathMaker" "entering" "Z") ∈ lw_tbl := List.mem_append_right _ (List.mem_of_getElem? (i := 287) (by decide +kernel))
set_option maxRecDepth 20000 in
theorem k_288 : (Cond.soleField "StitchDesk$PathMaker" "entering") ∈ lw_tbl := List.mem_append_right _ (List.mem_of_getElem? (i := 288) (by decide +kernel))
set_option maxRecDepth 20000 in
theorem k_289 : (Cond.lays "StitchDesk$PathMaker" "StitchDesk$PathMaker" "atRunStart" "Z") ∈ lw_tbl := List.mem_append_right _ (List.mem_of_getElem? (i := 289) (by decide +kernel))
set_option maxRecDepth 20000 in
theorem k_290 : (Cond.soleField "StitchDesk$PathMaker" "atRunStart") ∈ lw_tbl := List.mem_append_right _ (List.mem_of_getElem? (i := 290) (by decide +kernel))
set_option maxRecDepth 20000 in
theorem k_291 : (Cond.superclass "StitchDesk$PathMaker" "java/lang/Object") ∈ lw_tbl := List.mem_append_right _ (List.mem_of_getElem? (i := 291) (by decide +kernel))
set_option maxRecDepth 20000 in
theorem k_292 : (Cond.classLink "StitchDesk" (49 : Nat) "StitchDesk$Planner") ∈ lw_tbl := List.mem_append_right _ (List.mem_of_getElem? (i := 292) (by decide +kernel))
set_option maxRecDepth 20000 in
theorem k_293 : (Cond.instantiable "StitchDesk$Planner" (6 : Nat)) ∈ lw_tbl := List.mem_append_right _ (List.mem_of_getElem? (i := 293) (by decide +kernel))
set_option maxRecDepth 20000 in
theorem k_294 : (Cond.methodLinkNest "StitchDesk" (51 : Nat) ({ cls := "StitchDesk$Planner", name := "<init>", desc := "()V" } : MethodName) "StitchDesk") ∈ lw_tbl := List.mem_append_right _ (List.mem_of_getElem? (i := 294) (by decide +kernel))
set_option maxRecDepth 20000 in
theorem k_295 : (Cond.instanceMethod ({ cls := "StitchDesk$Planner", name := "<init>", desc := "()V" } : MethodName)) ∈ lw_tbl := List.mem_append_right _ (List.mem_of_getElem? (i := 295) (by decide +kernel))
set_option maxRecDepth 20000 in
theorem k_296 : (Cond.code ({ cls := "StitchDesk$Planner", name := "<init>", desc := "()V" } : MethodName) prog_6_method_1_code (1 : Nat) (Option.none : Option ClassFile.FieldType)) ∈ lw_tbl := List.mem_append_right _ (List.mem_of_getElem? (i := 296) (by decide +kernel))
set_option maxRecDepth 20000 in
theorem k_297 : (Cond.methodLink "StitchDesk$Planner" (3 : Nat) ({ cls := "java/lang/Object", name := "<init>", desc := "()V" } : MethodName)) ∈ lw_tbl := List.mem_append_right _ (List.mem_of_getElem? (i := 297) (by decide +kernel))
set_option maxRecDepth 20000 in
theorem k_298 : (Cond.fieldLink "StitchDesk$Planner" (9 : Nat) "StitchDesk$Planner" "fewest" "[I") ∈ lw_tbl := List.mem_append_right _ (List.mem_of_getElem? (i := 298) (by decide +kernel))
set_option maxRecDepth 20000 in
theorem k_299 : (Cond.fieldLink "StitchDesk$Planner" (15 : Nat) "StitchDesk$Planner" "friendly" "[I") ∈ lw_tbl := List.mem_append_right _ (List.mem_of_getElem? (i := 299) (by decide +kernel))
set_option maxRecDepth 20000 in
theorem k_300 : (Cond.fieldLink "StitchDesk$Planner" (18 : Nat) "StitchDesk$Planner" "ahead" "[I") ∈ lw_tbl := List.mem_append_right _ (List.mem_of_getElem? (i := 300) (by decide +kernel))
set_option maxRecDepth 20000 in
theorem k_301 : (Cond.fieldLink "StitchDesk$Planner" (21 : Nat) "StitchDesk$Planner" "colours" "[I") ∈ lw_tbl := List.mem_append_right _ (List.mem_of_getElem? (i := 301) (by decide +kernel))
set_option maxRecDepth 20000 in
theorem k_302 : (Cond.fieldLink "StitchDesk$Planner" (24 : Nat) "StitchDesk$Planner" "planned" "[I") ∈ lw_tbl := List.mem_append_right _ (List.mem_of_getElem? (i := 302) (by decide +kernel))
set_option maxRecDepth 20000 in
theorem k_303 : (Cond.fieldLink "StitchDesk$Planner" (33 : Nat) "StitchDesk$Planner" "total" "I") ∈ lw_tbl := List.mem_append_right _ (List.mem_of_getElem? (i := 303) (by decide +kernel))
set_option maxRecDepth 20000 in
theorem k_304 : (Cond.laysFinal "StitchDesk$Planner" "StitchDesk$Planner" "fewest" "[I") ∈ lw_tbl := List.mem_append_right _ (List.mem_of_getElem? (i := 304) (by decide +kernel))
set_option maxRecDepth 20000 in
theorem k_305 : (Cond.soleField "StitchDesk$Planner" "fewest") ∈ lw_tbl := List.mem_append_right _ (List.mem_of_getElem? (i := 305) (by decide +kernel))
set_option maxRecDepth 20000 in
theorem k_306 : (Cond.laysFinal "StitchDesk$Planner" "StitchDesk$Planner" "friendly" "[I") ∈ lw_tbl := List.mem_append_right _ (List.mem_of_getElem? (i := 306) (by decide +kernel))
set_option maxRecDepth 20000 in
theorem k_307 : (Cond.soleField "StitchDesk$Planner" "friendly") ∈ lw_tbl := List.mem_append_right _ (List.mem_of_getElem? (i := 307) (by decide +kernel))
set_option maxRecDepth 20000 in
theorem k_308 : (Cond.laysFinal "StitchDesk$Planner" "StitchDesk$Planner" "ahead" "[I") ∈ lw_tbl := List.mem_append_right _ (List.mem_of_getElem? (i := 308) (by decide +kernel))
set_option maxRecDepth 20000 in
theorem k_309 : (Cond.soleField "StitchDesk$Planner" "ahead") ∈ lw_tbl := List.mem_append_right _ (List.mem_of_getElem? (i := 309) (by decide +kernel))
set_option maxRecDepth 20000 in
theorem k_310 : (Cond.laysFinal "StitchDesk$Planner" "StitchDesk$Planner" "colours" "[I") ∈ lw_tbl := List.mem_append_right _ (List.mem_of_getElem? (i := 310) (by decide +kernel))
set_option maxRecDepth 20000 in
theorem k_311 : (Cond.soleField "StitchDesk$Planner" "colours") ∈ lw_tbl := List.mem_append_right _ (List.mem_of_getElem? (i := 311) (by decide +kernel))
set_option maxRecDepth 20000 in
theorem k_312 : (Cond.laysFinal "StitchDesk$Planner" "StitchDesk$Planner" "planned" "[I") ∈ lw_tbl := List.mem_append_right _ (List.mem_of_getElem? (i := 312) (by decide +kernel))
set_option maxRecDepth 20000 in
theorem k_313 : (Cond.soleField "StitchDesk$Planner" "planned") ∈ lw_tbl := List.mem_append_right _ (List.mem_of_getElem? (i := 313) (by decide +kernel))
set_option maxRecDepth 20000 in
theorem k_314 : (Cond.lays "StitchDesk$Planner" "StitchDesk$Planner" "total" "I") ∈ lw_tbl := List.mem_append_right _ (List.mem_of_getElem? (i := 314) (by decide +kernel))
set_option maxRecDepth 20000 in
theorem k_315 : (Cond.soleField "StitchDesk$Planner" "total") ∈ lw_tbl := List.mem_append_right _ (List.mem_of_getElem? (i := 315) (by decide +kernel))
set_option maxRecDepth 20000 in
theorem k_316 : (Cond.superclass "StitchDesk$Planner" "java/lang/Object") ∈ lw_tbl := List.mem_append_right _ (List.mem_of_getElem? (i := 316) (by decide +kernel))
set_option maxRecDepth 20000 in
theorem k_317 : (Cond.fieldLink "StitchDesk" (11 : Nat) "StitchDesk" "shapes" "[LStitchDesk$Shape;") ∈ lw_tbl := List.mem_append_right _ (List.mem_of_getElem? (i := 317) (by decide +kernel))
set_option maxRecDepth 20000 in
theorem k_318 : (Cond.fieldLink "StitchDesk" (16 : Nat) "StitchDesk" "sequence" "[I") ∈ lw_tbl := List.mem_append_right _ (List.mem_of_getElem? (i := 318) (by decide +kernel))
set_option maxRecDepth 20000 in
theorem k_319 : (Cond.fieldLink "StitchDesk" (20 : Nat) "StitchDesk" "loaded" "[I") ∈ lw_tbl := List.mem_append_right _ (List.mem_of_getElem? (i := 319) (by decide +kernel))
set_option maxRecDepth 20000 in
theorem k_320 : (Cond.fieldLink "StitchDesk" (26 : Nat) "StitchDesk" "inspector" "LStitchDesk$Inspector;") ∈ lw_tbl := List.mem_append_right _ (List.mem_of_getElem? (i := 320) (by decide +kernel))
set_option maxRecDepth 20000 in
theorem k_321 : (Cond.fieldLink "StitchDesk" (33 : Nat) "StitchDesk" "teller" "LStitchDesk$RunTeller;") ∈ lw_tbl := List.mem_append_right _ (List.mem_of_getElem? (i := 321) (by decide +kernel))
set_option maxRecDepth 20000 in
theorem k_322 : (Cond.fieldLink "StitchDesk" (48 : Nat) "StitchDesk" "path" "LStitchDesk$Path;") ∈ lw_tbl := List.mem_append_right _ (List.mem_of_getElem? (i := 322) (by decide +kernel))
set_option maxRecDepth 20000 in
theorem k_323 : (Cond.fieldLink "StitchDesk" (40 : Nat) "StitchDesk" "maker" "LStitchDesk$PathMaker;") ∈ lw_tbl := List.mem_append_right _ (List.mem_of_getElem? (i := 323) (by decide +kernel))
set_option maxRecDepth 20000 in
theorem k_324 : (Cond.fieldLink "StitchDesk" (52 : Nat) "StitchDesk" "planner" "LStitchDesk$Planner;") ∈ lw_tbl := List.mem_append_right _ (List.mem_of_getElem? (i := 324) (by decide +kernel))
set_option maxRecDepth 20000 in
theorem k_325 : (Cond.fieldLink "StitchDesk" (67 : Nat) "StitchDesk" "shapeTotal" "I") ∈ lw_tbl := List.mem_append_right _ (List.mem_of_getElem? (i := 325) (by decide +kernel))
set_option maxRecDepth 20000 in
theorem k_326 : (Cond.fieldLink "StitchDesk" (186 : Nat) "StitchDesk" "loadedTotal" "I") ∈ lw_tbl := List.mem_append_right _ (List.mem_of_getElem? (i := 326) (by decide +kernel))
set_option maxRecDepth 20000 in
theorem k_327 : (Cond.fieldLink "StitchDesk" (56 : Nat) "StitchDesk" "open" "Z") ∈ lw_tbl := List.mem_append_right _ (List.mem_of_getElem? (i := 327) (by decide +kernel))
set_option maxRecDepth 20000 in
theorem k_328 : (Cond.laysFinal "StitchDesk" "StitchDesk" "shapes" "[LStitchDesk$Shape;") ∈ lw_tbl := List.mem_append_right _ (List.mem_of_getElem? (i := 328) (by decide +kernel))
set_option maxRecDepth 20000 in
theorem k_329 : (Cond.soleField "StitchDesk" "shapes") ∈ lw_tbl := List.mem_append_right _ (List.mem_of_getElem? (i := 329) (by decide +kernel))
set_option maxRecDepth 20000 in
theorem k_330 : (Cond.laysFinal "StitchDesk" "StitchDesk" "sequence" "[I") ∈ lw_tbl := List.mem_append_right _ (List.mem_of_getElem? (i := 330) (by decide +kernel))
set_option maxRecDepth 20000 in
theorem k_331 : (Cond.soleField "StitchDesk" "sequence") ∈ lw_tbl := List.mem_append_right _ (List.mem_of_getElem? (i := 331) (by decide +kernel))
set_option maxRecDepth 20000 in
theorem k_332 : (Cond.laysFinal "StitchDesk" "StitchDesk" "loaded" "[I") ∈ lw_tbl := List.mem_append_right _ (List.mem_of_getElem? (i := 332) (by decide +kernel))
set_option maxRecDepth 20000 in
theorem k_333 : (Cond.soleField "StitchDesk" "loaded") ∈ lw_tbl := List.mem_append_right _ (List.mem_of_getElem? (i := 333) (by decide +kernel))
set_option maxRecDepth 20000 in
theorem k_334 : (Cond.laysFinal "StitchDesk" "StitchDesk" "inspector" "LStitchDesk$Inspector;") ∈ lw_tbl := List.mem_append_right _ (List.mem_of_getElem? (i := 334) (by decide +kernel))
set_option maxRecDepth 20000 in
theorem k_335 : (Cond.soleField "StitchDesk" "inspector") ∈ lw_tbl := List.mem_append_right _ (List.mem_of_getElem? (i := 335) (by decide +kernel))
set_option maxRecDepth 20000 in
theorem k_336 : (Cond.laysFinal "StitchDesk" "StitchDesk" "teller" "LStitchDesk$RunTeller;") ∈ lw_tbl := List.mem_append_right _ (List.mem_of_getElem? (i := 336) (by decide +kernel))
set_option maxRecDepth 20000 in
theorem k_337 : (Cond.soleField "StitchDesk" "teller") ∈ lw_tbl := List.mem_append_right _ (List.mem_of_getElem? (i := 337) (by decide +kernel))
set_option maxRecDepth 20000 in
theorem k_338 : (Cond.laysFinal "StitchDesk" "StitchDesk" "path" "LStitchDesk$Path;") ∈ lw_tbl := List.mem_append_right _ (List.mem_of_getElem? (i := 338) (by decide +kernel))
set_option maxRecDepth 20000 in
theorem k_339 : (Cond.soleField "StitchDesk" "path") ∈ lw_tbl := List.mem_append_right _ (List.mem_of_getElem? (i := 339) (by decide +kernel))
set_option maxRecDepth 20000 in
theorem k_340 : (Cond.laysFinal "StitchDesk" "StitchDesk" "maker" "LStitchDesk$PathMaker;") ∈ lw_tbl := List.mem_append_right _ (List.mem_of_getElem? (i := 340) (by decide +kernel))
set_option maxRecDepth 20000 in
theorem k_341 : (Cond.soleField "StitchDesk" "maker") ∈ lw_tbl := List.mem_append_right _ (List.mem_of_getElem? (i := 341) (by decide +kernel))
set_option maxRecDepth 20000 in
theorem k_342 : (Cond.laysFinal "StitchDesk" "StitchDesk" "planner" "LStitchDesk$Planner;") ∈ lw_tbl := List.mem_append_right _ (List.mem_of_getElem? (i := 342) (by decide +kernel))
set_option maxRecDepth 20000 in
theorem k_343 : (Cond.soleField "StitchDesk" "planner") ∈ lw_tbl := List.mem_append_right _ (List.mem_of_getElem? (i := 343) (by decide +kernel))
set_option maxRecDepth 20000 in
theorem k_344 : (Cond.lays "StitchDesk" "StitchDesk" "shapeTotal" "I") ∈ lw_tbl := List.mem_append_right _ (List.mem_of_getElem? (i := 344) (by decide +kernel))
set_option maxRecDepth 20000 in
theorem k_345 : (Cond.soleField "StitchDesk" "shapeTotal") ∈ lw_tbl := List.mem_append_right _ (List.mem_of_getElem? (i := 345) (by decide +kernel))
set_option maxRecDepth 20000 in
theorem k_346 : (Cond.lays "StitchDesk" "StitchDesk" "loadedTotal" "I") ∈ lw_tbl := List.mem_append_right _ (List.mem_of_getElem? (i := 346) (by decide +kernel))
set_option maxRecDepth 20000 in
theorem k_347 : (Cond.soleField "StitchDesk" "loadedTotal") ∈ lw_tbl := List.mem_append_right _ (List.mem_of_getElem? (i := 347) (by decide +kernel))
set_option maxRecDepth 20000 in
theorem k_348 : (Cond.lays "StitchDesk" "StitchDesk" "open" "Z") ∈ lw_tbl := List.mem_append_right _ (List.mem_of_getElem? (i := 348) (by decide +kernel))
set_option maxRecDepth 20000 in
theorem k_349 : (Cond.soleField "StitchDesk" "open") ∈ lw_tbl := List.mem_append_right _ (List.mem_of_getElem? (i := 349) (by decide +kernel))
set_option maxRecDepth 20000 in
theorem k_350 : (Cond.superclass "StitchDesk" "java/lang/Object") ∈ lw_tbl := List.mem_append_right _ (List.mem_of_getElem? (i := 350) (by decide +kernel))
set_option maxRecDepth 20000 in
theorem k_351 : (Cond.methodLink "StitchDeskLaw" (78 : Nat) ({ cls := "StitchDesk", name := "fault", desc := "(I)I" } : MethodName)) ∈ lw_tbl := List.mem_append_right _ (List.mem_of_getElem? (i := 351) (by decide +kernel))
set_option maxRecDepth 20000 in
theorem k_352 : (Cond.instanceMethod ({ cls := "StitchDesk", name := "fault", desc := "(I)I" } : MethodName)) ∈ lw_tbl := List.mem_append_right _ (List.mem_of_getElem? (i := 352) (by decide +kernel))
set_option maxRecDepth 20000 in
theorem k_353 : (Cond.selects "StitchDesk" ({ cls := "StitchDesk", name := "fault", desc := "(I)I" } : MethodName) ({ cls := "StitchDesk", name := "fault", desc := "(I)I" } : MethodName)) ∈ lw_tbl := List.mem_append_right _ (List.mem_of_getElem? (i := 353) (by decide +kernel))
set_option maxRecDepth 20000 in
theorem k_354 : (Cond.code ({ cls := "StitchDesk", name := "fault", desc := "(I)I" } : MethodName) prog_1_method_6_code (2 : Nat) (Option.some ClassFile.FieldType.int)) ∈ lw_tbl := List.mem_append_right _ (List.mem_of_getElem? (i := 354) (by decide +kernel))
set_option maxRecDepth 20000 in
theorem k_355 : (Cond.methodLink "StitchDeskLaw" (86 : Nat) ({ cls := "StitchDesk", name := "count", desc := "(I)I" } : MethodName)) ∈ lw_tbl := List.mem_append_right _ (List.mem_of_getElem? (i := 355) (by decide +kernel))
set_option maxRecDepth 20000 in
theorem k_356 : (Cond.instanceMethod ({ cls := "StitchDesk", name := "count", desc := "(I)I" } : MethodName)) ∈ lw_tbl := List.mem_append_right _ (List.mem_of_getElem? (i := 356) (by decide +kernel))
set_option maxRecDepth 20000 in
theorem k_357 : (Cond.selects "StitchDesk" ({ cls := "StitchDesk", name := "count", desc := "(I)I" } : MethodName) ({ cls := "StitchDesk", name := "count", desc := "(I)I" } : MethodName)) ∈ lw_tbl := List.mem_append_right _ (List.mem_of_getElem? (i := 357) (by decide +kernel))
set_option maxRecDepth 20000 in
theorem k_358 : (Cond.code ({ cls := "StitchDesk", name := "count", desc := "(I)I" } : MethodName) prog_1_method_8_code (2 : Nat) (Option.some ClassFile.FieldType.int)) ∈ lw_tbl := List.mem_append_right _ (List.mem_of_getElem? (i := 358) (by decide +kernel))
set_option maxRecDepth 20000 in
theorem k_359 : (Cond.methodLink "StitchDeskLaw" (90 : Nat) ({ cls := "StitchDesk", name := "stitch", desc := "()I" } : MethodName)) ∈ lw_tbl := List.mem_append_right _ (List.mem_of_getElem? (i := 359) (by decide +kernel))
set_option maxRecDepth 20000 in
theorem k_360 : (Cond.instanceMethod ({ cls := "StitchDesk", name := "stitch", desc := "()I" } : MethodName)) ∈ lw_tbl := List.mem_append_right _ (List.mem_of_getElem? (i := 360) (by decide +kernel))
set_option maxRecDepth 20000 in
theorem k_361 : (Cond.selects "StitchDesk" ({ cls := "StitchDesk", name := "stitch", desc := "()I" } : MethodName) ({ cls := "StitchDesk", name := "stitch", desc := "()I" } : MethodName)) ∈ lw_tbl := List.mem_append_right _ (List.mem_of_getElem? (i := 361) (by decide +kernel))
set_option maxRecDepth 20000 in
theorem k_362 : (Cond.code ({ cls := "StitchDesk", name := "stitch", desc := "()I" } : MethodName) prog_1_method_9_code (3 : Nat) (Option.some ClassFile.FieldType.int)) ∈ lw_tbl := List.mem_append_right _ (List.mem_of_getElem? (i := 362) (by decide +kernel))
set_option maxRecDepth 20000 in
theorem k_363 : (Cond.methodLinkNest "StitchDesk" (189 : Nat) ({ cls := "StitchDesk$PathMaker", name := "restart", desc := "()V" } : MethodName) "StitchDesk") ∈ lw_tbl := List.mem_append_right _ (List.mem_of_getElem? (i := 363) (by decide +kernel))
set_option maxRecDepth 20000 in
theorem k_364 : (Cond.privateMethod ({ cls := "StitchDesk$PathMaker", name := "restart", desc := "()V" } : MethodName)) ∈ lw_tbl := List.mem_append_right _ (List.mem_of_getElem? (i := 364) (by decide +kernel))
set_option maxRecDepth 20000 in
theorem k_365 : (Cond.instanceMethod ({ cls := "StitchDesk$PathMaker", name := "restart", desc := "()V" } : MethodName)) ∈ lw_tbl := List.mem_append_right _ (List.mem_of_getElem? (i := 365) (by decide +kernel))
set_option maxRecDepth 20000 in
theorem k_366 : (Cond.code ({ cls := "StitchDesk$PathMaker", name := "restart", desc := "()V" } : MethodName) prog_5_method_2_code (1 : Nat) (Option.none : Option ClassFile.FieldType)) ∈ lw_tbl := List.mem_append_right _ (List.mem_of_getElem? (i := 366) (by decide +kernel))
set_option maxRecDepth 20000 in
theorem k_367 : (Cond.methodLinkNest "StitchDesk$PathMaker" (18 : Nat) ({ cls := "StitchDesk$Path", name := "clear", desc := "()V" } : MethodName) "StitchDesk") ∈ lw_tbl := List.mem_append_right _ (List.mem_of_getElem? (i := 367) (by decide +kernel))
set_option maxRecDepth 20000 in
theorem k_368 : (Cond.privateMethod ({ cls := "StitchDesk$Path", name := "clear", desc := "()V" } : MethodName)) ∈ lw_tbl := List.mem_append_right _ (List.mem_of_getElem? (i := 368) (by decide +kernel))
set_option maxRecDepth 20000 in
theorem k_369 : (Cond.instanceMethod ({ cls := "StitchDesk$Path", name := "clear", desc := "()V" } : MethodName)) ∈ lw_tbl := List.mem_append_right _ (List.mem_of_getElem? (i := 369) (by decide +kernel))
set_option maxRecDepth 20000 in
theorem k_370 : (Cond.code ({ cls := "StitchDesk$Path", name := "clear", desc := "()V" } : MethodName) prog_4_method_2_code (1 : Nat) (Option.none : Option ClassFile.FieldType)) ∈ lw_tbl := List.mem_append_right _ (List.mem_of_getElem? (i := 370) (by decide +kernel))
set_option maxRecDepth 20000 in
theorem k_371 : (Cond.methodLinkNest "StitchDesk" (195 : Nat) ({ cls := "StitchDesk$PathMaker", name := "enter", desc := "(LStitchDesk$Shape;)V" } : MethodName) "StitchDesk") ∈ lw_tbl := List.mem_append_right _ (List.mem_of_getElem? (i := 371) (by decide +kernel))
set_option maxRecDepth 20000 in
theorem k_372 : (Cond.privateMethod ({ cls := "StitchDesk$PathMaker", name := "enter", desc := "(LStitchDesk$Shape;)V" } : MethodName)) ∈ lw_tbl := List.mem_append_right _ (List.mem_of_getElem? (i := 372) (by decide +kernel))
set_option maxRecDepth 20000 in
theorem k_373 : (Cond.instanceMethod ({ cls := "StitchDesk$PathMaker", name := "enter", desc := "(LStitchDesk$Shape;)V" } : MethodName)) ∈ lw_tbl := List.mem_append_right _ (List.mem_of_getElem? (i := 373) (by decide +kernel))
set_option maxRecDepth 20000 in
theorem k_374 : (Cond.code ({ cls := "StitchDesk$PathMaker", name := "enter", desc := "(LStitchDesk$Shape;)V" } : MethodName) prog_5_method_3_code (2 : Nat) (Option.none : Option ClassFile.FieldType)) ∈ lw_tbl := List.mem_append_right _ (List.mem_of_getElem? (i := 374) (by decide +kernel))
set_option maxRecDepth 20000 in
theorem k_375 : (Cond.methodLinkNest "StitchDesk" (136 : Nat) ({ cls := "StitchDesk$RunTeller", name := "tell", desc := "(LStitchDesk$Shape;LStitchDesk$RunTaker;)V" } : MethodName) "StitchDesk") ∈ lw_tbl := List.mem_append_right _ (List.mem_of_getElem? (i := 375) (by decide +kernel))
set_option maxRecDepth 20000 in
theorem k_376 : (Cond.privateMethod ({ cls := "StitchDesk$RunTeller", name := "tell", desc := "(LStitchDesk$Shape;LStitchDesk$RunTaker;)V" } : MethodName)) ∈ lw_tbl := List.mem_append_right _ (List.mem_of_getElem? (i := 376) (by decide +kernel))
set_option maxRecDepth 20000 in
theorem k_377 : (Cond.instanceMethod ({ cls := "StitchDesk$RunTeller", name := "tell", desc := "(LStitchDesk$Shape;LStitchDesk$RunTaker;)V" } : MethodName)) ∈ lw_tbl := List.mem_append_right _ (List.mem_of_getElem? (i := 377) (by decide +kernel))
set_option maxRecDepth 20000 in
theorem k_378 : (Cond.code ({ cls := "StitchDesk$RunTeller", name := "tell", desc := "(LStitchDesk$Shape;LStitchDesk$RunTaker;)V" } : MethodName) prog_9_method_2_code (3 : Nat) (Option.none : Option ClassFile.FieldType)) ∈ lw_tbl := List.mem_append_right _ (List.mem_of_getElem? (i := 378) (by decide +kernel))
set_option maxRecDepth 20000 in
theorem k_379 : (Cond.methodLink "StitchDesk$RunTeller" (24 : Nat) ({ cls := "StitchDesk$RunTeller", name := "tellHatch", desc := "(LStitchDesk$Shape;LStitchDesk$RunTaker;)V" } : MethodName)) ∈ lw_tbl := List.mem_append_right _ (List.mem_of_getElem? (i := 379) (by decide +kernel))
set_option maxRecDepth 20000 in
theorem k_380 : (Cond.privateMethod ({ cls := "StitchDesk$RunTeller", name := "tellHatch", desc := "(LStitchDesk$Shape;LStitchDesk$RunTaker;)V" } : MethodName)) ∈ lw_tbl := List.mem_append_right _ (List.mem_of_getElem? (i := 380) (by decide +kernel))
set_option maxRecDepth 20000 in
theorem k_381 : (Cond.instanceMethod ({ cls := "StitchDesk$RunTeller", name := "tellHatch", desc := "(LStitchDesk$Shape;LStitchDesk$RunTaker;)V" } : MethodName)) ∈ lw_tbl := List.mem_append_right _ (List.mem_of_getElem? (i := 381) (by decide +kernel))
set_option maxRecDepth 20000 in
theorem k_382 : (Cond.code ({ cls := "StitchDesk$RunTeller", name := "tellHatch", desc := "(LStitchDesk$Shape;LStitchDesk$RunTaker;)V" } : MethodName) prog_9_method_7_code (11 : Nat) (Option.none : Option ClassFile.FieldType)) ∈ lw_tbl := List.mem_append_right _ (List.mem_of_getElem? (i := 382) (by decide +kernel))
set_option maxRecDepth 20000 in
theorem k_383 : (Cond.methodLink "StitchDesk$RunTeller" (90 : Nat) ({ cls := "StitchDesk$RunTeller", name := "leastF", desc := "(LStitchDesk$Shape;)I" } : MethodName)) ∈ lw_tbl := List.mem_append_right _ (List.mem_of_getElem? (i := 383) (by decide +kernel))
set_option maxRecDepth 20000 in
theorem k_384 : (Cond.static ({ cls := "StitchDesk$RunTeller", name := "leastF", desc := "(LStitchDesk$Shape;)I" } : MethodName)) ∈ lw_tbl := List.mem_append_right _ (List.mem_of_getElem? (i := 384) (by decide +kernel))
set_option maxRecDepth 20000 in
theorem k_385 : (Cond.code ({ cls := "StitchDesk$RunTeller", name := "leastF", desc := "(LStitchDesk$Shape;)I" } : MethodName) prog_9_method_8_code (1 : Nat) (Option.some ClassFile.FieldType.int)) ∈ lw_tbl := List.mem_append_right _ (List.mem_of_getElem? (i := 385) (by decide +kernel))
set_option maxRecDepth 20000 in
theorem k_386 : (Cond.methodLink "StitchDesk$RunTeller" (94 : Nat) ({ cls := "java/lang/Math", name := "floorDiv", desc := "(II)I" } : MethodName)) ∈ lw_tbl := List.mem_append_right _ (List.mem_of_getElem? (i := 386) (by decide +kernel))
set_option maxRecDepth 20000 in
theorem k_387 : (Cond.static ({ cls := "java/lang/Math", name := "floorDiv", desc := "(II)I" } : MethodName)) ∈ lw_tbl := List.mem_append_right _ (List.mem_of_getElem? (i := 387) (by decide +kernel))
set_option maxRecDepth 20000 in
theorem k_388 : (Cond.code ({ cls := "java/lang/Math", name := "floorDiv", desc := "(II)I" } : MethodName) prog_19_method_47_code (3 : Nat) (Option.some ClassFile.FieldType.int)) ∈ lw_tbl := List.mem_append_right _ (List.mem_of_getElem? (i := 388) (by decide +kernel))
set_option maxRecDepth 20000 in
theorem k_389 : (Cond.methodLink "StitchDesk$RunTeller" (97 : Nat) ({ cls := "StitchDesk$RunTeller", name := "greatestF", desc := "(LStitchDesk$Shape;)I" } : MethodName)) ∈ lw_tbl := List.mem_append_right _ (List.mem_of_getElem? (i := 389) (by decide +kernel))
set_option maxRecDepth 20000 in
theorem k_390 : (Cond.static ({ cls := "StitchDesk$RunTeller", name := "greatestF", desc := "(LStitchDesk$Shape;)I" } : MethodName)) ∈ lw_tbl := List.mem_append_right _ (List.mem_of_getElem? (i := 390) (by decide +kernel))
set_option maxRecDepth 20000 in
theorem k_391 : (Cond.code ({ cls := "StitchDesk$RunTeller", name := "greatestF", desc := "(LStitchDesk$Shape;)I" } : MethodName) prog_9_method_9_code (1 : Nat) (Option.some ClassFile.FieldType.int)) ∈ lw_tbl := List.mem_append_right _ (List.mem_of_getElem? (i := 391) (by decide +kernel))
set_option maxRecDepth 20000 in
theorem k_392 : (Cond.methodLinkNest "StitchDesk$RunTeller" (100 : Nat) ({ cls := "StitchDesk$HatchLine", name := "lay", desc := "(LStitchDesk$Shape;I)V" } : MethodName) "StitchDesk") ∈ lw_tbl := List.mem_append_right _ (List.mem_of_getElem? (i := 392) (by decide +kernel))
set_option maxRecDepth 20000 in
theorem k_393 : (Cond.privateMethod ({ cls := "StitchDesk$HatchLine", name := "lay", desc := "(LStitchDesk$Shape;I)V" } : MethodName)) ∈ lw_tbl := List.mem_append_right _ (List.mem_of_getElem? (i := 393) (by decide +kernel))
set_option maxRecDepth 20000 in
theorem k_394 : (Cond.instanceMethod ({ cls := "StitchDesk$HatchLine", name := "lay", desc := "(LStitchDesk$Shape;I)V" } : MethodName)) ∈ lw_tbl := List.mem_append_right _ (List.mem_of_getElem? (i := 394) (by decide +kernel))
set_option maxRecDepth 20000 in
theorem k_395 : (Cond.code ({ cls := "StitchDesk$HatchLine", name := "lay", desc := "(LStitchDesk$Shape;I)V" } : MethodName) prog_2_method_4_code (7 : Nat) (Option.none : Option ClassFile.FieldType)) ∈ lw_tbl := List.mem_append_right _ (List.mem_of_getElem? (i := 395) (by decide +kernel))
set_option maxRecDepth 20000 in
theorem k_396 : (Cond.methodLink "StitchDesk$HatchLine" (39 : Nat) ({ cls := "StitchDesk$HatchLine", name := "aim", desc := "(II)V" } : MethodName)) ∈ lw_tbl := List.mem_append_right _ (List.mem_of_getElem? (i := 396) (by decide +kernel))
set_option maxRecDepth 20000 in
theorem k_397 : (Cond.privateMethod ({ cls := "StitchDesk$HatchLine", name := "aim", desc := "(II)V" } : MethodName)) ∈ lw_tbl := List.mem_append_right _ (List.mem_of_getElem? (i := 397) (by decide +kernel))
set_option maxRecDepth 20000 in
theorem k_398 : (Cond.instanceMethod ({ cls := "StitchDesk$HatchLine", name := "aim", desc := "(II)V" } : MethodName)) ∈ lw_tbl := List.mem_append_right _ (List.mem_of_getElem? (i := 398) (by decide +kernel))
set_option maxRecDepth 20000 in
theorem k_399 : (Cond.code ({ cls := "StitchDesk$HatchLine", name := "aim", desc := "(II)V" } : MethodName) prog_2_method_5_code (3 : Nat) (Option.none : Option ClassFile.FieldType)) ∈ lw_tbl := List.mem_append_right _ (List.mem_of_getElem? (i := 399) (by decide +kernel))
set_option maxRecDepth 20000 in
theorem k_400 : (Cond.fieldLink "StitchDesk$HatchLine" (99 : Nat) "StitchDesk$HatchLine" "X_STEPS" "[I") ∈ lw_tbl := List.mem_append_right _ (List.mem_of_getElem? (i := 400) (by decide +kernel))
set_option maxRecDepth 20000 in
theorem k_401 : (Cond.laysStatic "StitchDesk$HatchLine" "X_STEPS" "[I") ∈ lw_tbl := List.mem_append_right _ (List.mem_of_getElem? (i := 401) (by decide +kernel))
set_option maxRecDepth 20000 in
theorem k_402 : (Cond.fieldLink "StitchDesk$HatchLine" (102 : Nat) "StitchDesk$HatchLine" "Y_STEPS" "[I") ∈ lw_tbl := List.mem_append_right _ (List.mem_of_getElem? (i := 402) (by decide +kernel))
set_option maxRecDepth 20000 in
theorem k_403 : (Cond.laysStatic "StitchDesk$HatchLine" "Y_STEPS" "[I") ∈ lw_tbl := List.mem_append_right _ (List.mem_of_getElem? (i := 403) (by decide +kernel))
set_option maxRecDepth 20000 in
theorem k_404 : (Cond.methodLink "StitchDesk$HatchLine" (55 : Nat) ({ cls := "StitchDesk$HatchLine", name := "narrow", desc := "(IIII)V" } : MethodName)) ∈ lw_tbl := List.mem_append_right _ (List.mem_of_getElem? (i := 404) (by decide +kernel))
set_option maxRecDepth 20000 in
theorem k_405 : (Cond.privateMethod ({ cls := "StitchDesk$HatchLine", name := "narrow", desc := "(IIII)V" } : MethodName)) ∈ lw_tbl := List.mem_append_right _ (List.mem_of_getElem? (i := 405) (by decide +kernel))
set_option maxRecDepth 20000 in
theorem k_406 : (Cond.instanceMethod ({ cls := "StitchDesk$HatchLine", name := "narrow", desc := "(IIII)V" } : MethodName)) ∈ lw_tbl := List.mem_append_right _ (List.mem_of_getElem? (i := 406) (by decide +kernel))
set_option maxRecDepth 20000 in
theorem k_407 : (Cond.code ({ cls := "StitchDesk$HatchLine", name := "narrow", desc := "(IIII)V" } : MethodName) prog_2_method_7_code (5 : Nat) (Option.none : Option ClassFile.FieldType)) ∈ lw_tbl := List.mem_append_right _ (List.mem_of_getElem? (i := 407) (by decide +kernel))
set_option maxRecDepth 20000 in
theorem k_408 : (Cond.methodLink "StitchDesk$HatchLine" (123 : Nat) ({ cls := "StitchDesk$HatchLine", name := "empty", desc := "()V" } : MethodName)) ∈ lw_tbl := List.mem_append_right _ (List.mem_of_getElem? (i := 408) (by decide +kernel))
set_option maxRecDepth 20000 in
theorem k_409 : (Cond.privateMethod ({ cls := "StitchDesk$HatchLine", name := "empty", desc := "()V" } : MethodName)) ∈ lw_tbl := List.mem_append_right _ (List.mem_of_getElem? (i := 409) (by decide +kernel))
set_option maxRecDepth 20000 in
theorem k_410 : (Cond.instanceMethod ({ cls := "StitchDesk$HatchLine", name := "empty", desc := "()V" } : MethodName)) ∈ lw_tbl := List.mem_append_right _ (List.mem_of_getElem? (i := 410) (by decide +kernel))
set_option maxRecDepth 20000 in
theorem k_411 : (Cond.code ({ cls := "StitchDesk$HatchLine", name := "empty", desc := "()V" } : MethodName) prog_2_method_10_code (1 : Nat) (Option.none : Option ClassFile.FieldType)) ∈ lw_tbl := List.mem_append_right _ (List.mem_of_getElem? (i := 411) (by decide +kernel))
set_option maxRecDepth 20000 in
theorem k_412 : (Cond.methodLink "StitchDesk$HatchLine" (111 : Nat) ({ cls := "java/lang/Math", name := "max", desc := "(II)I" } : MethodName)) ∈ lw_tbl := List.mem_append_right _ (List.mem_of_getElem? (i := 412) (by decide +kernel))
set_option maxRecDepth 20000 in
theorem k_413 : (Cond.static ({ cls := "java/lang/Math", name := "max", desc := "(II)I" } : MethodName)) ∈ lw_tbl := List.mem_append_right _ (List.mem_of_getElem? (i := 413) (by decide +kernel))
set_option maxRecDepth 20000 in
theorem k_414 : (Cond.code ({ cls := "java/lang/Math", name := "max", desc := "(II)I" } : MethodName) prog_19_method_65_code (2 : Nat) (Option.some ClassFile.FieldType.int)) ∈ lw_tbl := List.mem_append_right _ (List.mem_of_getElem? (i := 414) (by decide +kernel))
set_option maxRecDepth 20000 in
theorem k_415 : (Cond.methodLink "StitchDesk$HatchLine" (105 : Nat) ({ cls := "java/lang/Math", name := "min", desc := "(II)I" } : MethodName)) ∈ lw_tbl := List.mem_append_right _ (List.mem_of_getElem? (i := 415) (by decide +kernel))
set_option maxRecDepth 20000 in
theorem k_416 : (Cond.static ({ cls := "java/lang/Math", name := "min", desc := "(II)I" } : MethodName)) ∈ lw_tbl := List.mem_append_right _ (List.mem_of_getElem? (i := 416) (by decide +kernel))
set_option maxRecDepth 20000 in
theorem k_417 : (Cond.code ({ cls := "java/lang/Math", name := "min", desc := "(II)I" } : MethodName) prog_19_method_69_code (2 : Nat) (Option.some ClassFile.FieldType.int)) ∈ lw_tbl := List.mem_append_right _ (List.mem_of_getElem? (i := 417) (by decide +kernel))
set_option maxRecDepth 20000 in
theorem k_418 : (Cond.methodLinkNest "StitchDesk$HatchLine" (83 : Nat) ({ cls := "StitchDesk$Ring", name := "next", desc := "(I)I" } : MethodName) "StitchDesk") ∈ lw_tbl := List.mem_append_right _ (List.mem_of_getElem? (i := 418) (by decide +kernel))
set_option maxRecDepth 20000 in
theorem k_419 : (Cond.privateMethod ({ cls := "StitchDesk$Ring", name := "next", desc := "(I)I" } : MethodName)) ∈ lw_tbl := List.mem_append_right _ (List.mem_of_getElem? (i := 419) (by decide +kernel))
set_option maxRecDepth 20000 in
theorem k_420 : (Cond.instanceMethod ({ cls := "StitchDesk$Ring", name := "next", desc := "(I)I" } : MethodName)) ∈ lw_tbl := List.mem_append_right _ (List.mem_of_getElem? (i := 420) (by decide +kernel))
set_option maxRecDepth 20000 in
theorem k_421 : (Cond.code ({ cls := "StitchDesk$Ring", name := "next", desc := "(I)I" } : MethodName) prog_7_method_4_code (2 : Nat) (Option.some ClassFile.FieldType.int)) ∈ lw_tbl := List.mem_append_right _ (List.mem_of_getElem? (i := 421) (by decide +kernel))
set_option maxRecDepth 20000 in
theorem k_422 : (Cond.methodLink "StitchDesk$HatchLine" (93 : Nat) ({ cls := "StitchDesk$HatchLine", name := "addEdge", desc := "(IIII)V" } : MethodName)) ∈ lw_tbl := List.mem_append_right _ (List.mem_of_getElem? (i := 422) (by decide +kernel))
set_option maxRecDepth 20000 in
theorem k_423 : (Cond.privateMethod ({ cls := "StitchDesk$HatchLine", name := "addEdge", desc := "(IIII)V" } : MethodName)) ∈ lw_tbl := List.mem_append_right _ (List.mem_of_getElem? (i := 423) (by decide +kernel))
set_option maxRecDepth 20000 in
theorem k_424 : (Cond.instanceMethod ({ cls := "StitchDesk$HatchLine", name := "addEdge", desc := "(IIII)V" } : MethodName)) ∈ lw_tbl := List.mem_append_right _ (List.mem_of_getElem? (i := 424) (by decide +kernel))
set_option maxRecDepth 20000 in
theorem k_425 : (Cond.code ({ cls := "StitchDesk$HatchLine", name := "addEdge", desc := "(IIII)V" } : MethodName) prog_2_method_6_code (9 : Nat) (Option.none : Option ClassFile.FieldType)) ∈ lw_tbl := List.mem_append_right _ (List.mem_of_getElem? (i := 425) (by decide +kernel))
set_option maxRecDepth 20000 in
theorem k_426 : (Cond.methodLink "StitchDesk$HatchLine" (114 : Nat) ({ cls := "StitchDesk$HatchLine", name := "narrowToZero", desc := "(II)V" } : MethodName)) ∈ lw_tbl := List.mem_append_right _ (List.mem_of_getElem? (i := 426) (by decide +kernel))
set_option maxRecDepth 20000 in
theorem k_427 : (Cond.privateMethod ({ cls := "StitchDesk$HatchLine", name := "narrowToZero", desc := "(II)V" } : MethodName)) ∈ lw_tbl := List.mem_append_right _ (List.mem_of_getElem? (i := 427) (by decide +kernel))
set_option maxRecDepth 20000 in
theorem k_428 : (Cond.instanceMethod ({ cls := "StitchDesk$HatchLine", name := "narrowToZero", desc := "(II)V" } : MethodName)) ∈ lw_tbl := List.mem_append_right _ (List.mem_of_getElem? (i := 428) (by decide +kernel))
set_option maxRecDepth 20000 in
theorem k_429 : (Cond.code ({ cls := "StitchDesk$HatchLine", name := "narrowToZero", desc := "(II)V" } : MethodName) prog_2_method_8_code (3 : Nat) (Option.none : Option ClassFile.FieldType)) ∈ lw_tbl := List.mem_append_right _ (List.mem_of_getElem? (i := 429) (by decide +kernel))
set_option maxRecDepth 20000 in
theorem k_430 : (Cond.methodLink "StitchDesk$HatchLine" (117 : Nat) ({ cls := "StitchDesk$HatchLine", name := "addSpan", desc := "(II)V" } : MethodName)) ∈ lw_tbl := List.mem_append_right _ (List.mem_of_getElem? (i := 430) (by decide +kernel))
set_option maxRecDepth 20000 in
theorem k_431 : (Cond.privateMethod ({ cls := "StitchDesk$HatchLine", name := "addSpan", desc := "(II)V" } : MethodName)) ∈ lw_tbl := List.mem_append_right _ (List.mem_of_getElem? (i := 431) (by decide +kernel))
set_option maxRecDepth 20000 in
theorem k_432 : (Cond.instanceMethod ({ cls := "StitchDesk$HatchLine", name := "addSpan", desc := "(II)V" } : MethodName)) ∈ lw_tbl := List.mem_append_right _ (List.mem_of_getElem? (i := 432) (by decide +kernel))
set_option maxRecDepth 20000 in
theorem k_433 : (Cond.code ({ cls := "StitchDesk$HatchLine", name := "addSpan", desc := "(II)V" } : MethodName) prog_2_method_11_code (3 : Nat) (Option.none : Option ClassFile.FieldType)) ∈ lw_tbl := List.mem_append_right _ (List.mem_of_getElem? (i := 433) (by decide +kernel))
set_option maxRecDepth 20000 in
theorem k_434 : (Cond.methodLink "StitchDesk$HatchLine" (129 : Nat) ({ cls := "StitchDesk$HatchLine", name := "insert", desc := "(I)V" } : MethodName)) ∈ lw_tbl := List.mem_append_right _ (List.mem_of_getElem? (i := 434) (by decide +kernel))
set_option maxRecDepth 20000 in
theorem k_435 : (Cond.privateMethod ({ cls := "StitchDesk$HatchLine", name := "insert", desc := "(I)V" } : MethodName)) ∈ lw_tbl := List.mem_append_right _ (List.mem_of_getElem? (i := 435) (by decide +kernel))
set_option maxRecDepth 20000 in
theorem k_436 : (Cond.instanceMethod ({ cls := "StitchDesk$HatchLine", name := "insert", desc := "(I)V" } : MethodName)) ∈ lw_tbl := List.mem_append_right _ (List.mem_of_getElem? (i := 436) (by decide +kernel))
set_option maxRecDepth 20000 in
theorem k_437 : (Cond.code ({ cls := "StitchDesk$HatchLine", name := "insert", desc := "(I)V" } : MethodName) prog_2_method_12_code (3 : Nat) (Option.none : Option ClassFile.FieldType)) ∈ lw_tbl := List.mem_append_right _ (List.mem_of_getElem? (i := 437) (by decide +kernel))
set_option maxRecDepth 20000 in
theorem k_438 : (Cond.methodLink "StitchDesk$HatchLine" (120 : Nat) ({ cls := "StitchDesk$HatchLine", name := "narrowToAboveZero", desc := "(II)V" } : MethodName)) ∈ lw_tbl := List.mem_append_right _ (List.mem_of_getElem? (i := 438) (by decide +kernel))
set_option maxRecDepth 20000 in
theorem k_439 : (Cond.privateMethod ({ cls := "StitchDesk$HatchLine", name := "narrowToAboveZero", desc := "(II)V" } : MethodName)) ∈ lw_tbl := List.mem_append_right _ (List.mem_of_getElem? (i := 439) (by decide +kernel))
set_option maxRecDepth 20000 in
theorem k_440 : (Cond.instanceMethod ({ cls := "StitchDesk$HatchLine", name := "narrowToAboveZero", desc := "(II)V" } : MethodName)) ∈ lw_tbl := List.mem_append_right _ (List.mem_of_getElem? (i := 440) (by decide +kernel))
set_option maxRecDepth 20000 in
theorem k_441 : (Cond.code ({ cls := "StitchDesk$HatchLine", name := "narrowToAboveZero", desc := "(II)V" } : MethodName) prog_2_method_9_code (3 : Nat) (Option.none : Option ClassFile.FieldType)) ∈ lw_tbl := List.mem_append_right _ (List.mem_of_getElem? (i := 441) (by decide +kernel))
set_option maxRecDepth 20000 in
theorem k_442 : (Cond.methodLink "StitchDesk$HatchLine" (126 : Nat) ({ cls := "java/lang/Math", name := "floorDiv", desc := "(II)I" } : MethodName)) ∈ lw_tbl := List.mem_append_right _ (List.mem_of_getElem? (i := 442) (by decide +kernel))
set_option maxRecDepth 20000 in
theorem k_443 : (Cond.methodLink "StitchDesk$HatchLine" (96 : Nat) ({ cls := "StitchDesk$HatchLine", name := "gatherParts", desc := "()V" } : MethodName)) ∈ lw_tbl := List.mem_append_right _ (List.mem_of_getElem? (i := 443) (by decide +kernel))
set_option maxRecDepth 20000 in
theorem k_444 : (Cond.privateMethod ({ cls := "StitchDesk$HatchLine", name := "gatherParts", desc := "()V" } : MethodName)) ∈ lw_tbl := List.mem_append_right _ (List.mem_of_getElem? (i := 444) (by decide +kernel))
set_option maxRecDepth 20000 in
theorem k_445 : (Cond.instanceMethod ({ cls := "StitchDesk$HatchLine", name := "gatherParts", desc := "()V" } : MethodName)) ∈ lw_tbl := List.mem_append_right _ (List.mem_of_getElem? (i := 445) (by decide +kernel))
set_option maxRecDepth 20000 in
theorem k_446 : (Cond.code ({ cls := "StitchDesk$HatchLine", name := "gatherParts", desc := "()V" } : MethodName) prog_2_method_13_code (8 : Nat) (Option.none : Option ClassFile.FieldType)) ∈ lw_tbl := List.mem_append_right _ (List.mem_of_getElem? (i := 446) (by decide +kernel))
set_option maxRecDepth 20000 in
theorem k_447 : (Cond.methodLink "StitchDesk$HatchLine" (136 : Nat) ({ cls := "StitchDesk$HatchLine", name := "addPart", desc := "(II)V" } : MethodName)) ∈ lw_tbl := List.mem_append_right _ (List.mem_of_getElem? (i := 447) (by decide +kernel))
set_option maxRecDepth 20000 in
theorem k_448 : (Cond.privateMethod ({ cls := "StitchDesk$HatchLine", name := "addPart", desc := "(II)V" } : MethodName)) ∈ lw_tbl := List.mem_append_right _ (List.mem_of_getElem? (i := 448) (by decide +kernel))
set_option maxRecDepth 20000 in
theorem k_449 : (Cond.instanceMethod ({ cls := "StitchDesk$HatchLine", name := "addPart", desc := "(II)V" } : MethodName)) ∈ lw_tbl := List.mem_append_right _ (List.mem_of_getElem? (i := 449) (by decide +kernel))
