set_option maxRecDepth 20000 in
theorem k_450 : (Cond.code ({ cls := "StitchDesk$HatchLine", name := "addPart", desc := "(II)V" } : MethodName) prog_2_method_14_code (3 : Nat) (Option.none : Option ClassFile.FieldType)) ∈ lw_tbl := List.mem_append_right _ (List.mem_of_getElem? (i := 450) (by decide +kernel))
set_option maxRecDepth 20000 in
theorem k_451 : (Cond.interfaceEntry "StitchDesk$RunTeller" (43 : Nat)) ∈ lw_tbl := List.mem_append_right _ (List.mem_of_getElem? (i := 451) (by decide +kernel))
set_option maxRecDepth 20000 in
theorem k_452 : (Cond.methodLink "StitchDesk$RunTeller" (43 : Nat) ({ cls := "StitchDesk$RunTaker", name := "beginRun", desc := "()V" } : MethodName)) ∈ lw_tbl := List.mem_append_right _ (List.mem_of_getElem? (i := 452) (by decide +kernel))
set_option maxRecDepth 20000 in
theorem k_453 : (Cond.interfaceMethod "StitchDesk$RunTaker" "StitchDesk$RunTaker" "beginRun" "()V") ∈ lw_tbl := List.mem_append_right _ (List.mem_of_getElem? (i := 453) (by decide +kernel))
set_option maxRecDepth 20000 in
theorem k_454 : (Cond.declares ({ cls := "StitchDesk$RunTaker", name := "beginRun", desc := "()V" } : MethodName)) ∈ lw_tbl := List.mem_append_right _ (List.mem_of_getElem? (i := 454) (by decide +kernel))
set_option maxRecDepth 20000 in
theorem k_455 : (Cond.castable "StitchDesk$PathMaker" "StitchDesk$RunTaker") ∈ lw_tbl := List.mem_append_right _ (List.mem_of_getElem? (i := 455) (by decide +kernel))
set_option maxRecDepth 20000 in
theorem k_456 : (Cond.selects "StitchDesk$PathMaker" ({ cls := "StitchDesk$RunTaker", name := "beginRun", desc := "()V" } : MethodName) ({ cls := "StitchDesk$PathMaker", name := "beginRun", desc := "()V" } : MethodName)) ∈ lw_tbl := List.mem_append_right _ (List.mem_of_getElem? (i := 456) (by decide +kernel))
set_option maxRecDepth 20000 in
theorem k_457 : (Cond.unhidden "StitchDesk$PathMaker" "beginRun" "()V") ∈ lw_tbl := List.mem_append_right _ (List.mem_of_getElem? (i := 457) (by decide +kernel))
set_option maxRecDepth 20000 in
theorem k_458 : (Cond.instanceMethod ({ cls := "StitchDesk$PathMaker", name := "beginRun", desc := "()V" } : MethodName)) ∈ lw_tbl := List.mem_append_right _ (List.mem_of_getElem? (i := 458) (by decide +kernel))
set_option maxRecDepth 20000 in
theorem k_459 : (Cond.publicMethod ({ cls := "StitchDesk$PathMaker", name := "beginRun", desc := "()V" } : MethodName)) ∈ lw_tbl := List.mem_append_right _ (List.mem_of_getElem? (i := 459) (by decide +kernel))
set_option maxRecDepth 20000 in
theorem k_460 : (Cond.code ({ cls := "StitchDesk$PathMaker", name := "beginRun", desc := "()V" } : MethodName) prog_5_method_4_code (1 : Nat) (Option.none : Option ClassFile.FieldType)) ∈ lw_tbl := List.mem_append_right _ (List.mem_of_getElem? (i := 460) (by decide +kernel))
set_option maxRecDepth 20000 in
theorem k_461 : (Cond.castable "StitchDesk$Tally" "StitchDesk$RunTaker") ∈ lw_tbl := List.mem_append_right _ (List.mem_of_getElem? (i := 461) (by decide +kernel))
set_option maxRecDepth 20000 in
theorem k_462 : (Cond.selects "StitchDesk$Tally" ({ cls := "StitchDesk$RunTaker", name := "beginRun", desc := "()V" } : MethodName) ({ cls := "StitchDesk$Tally", name := "beginRun", desc := "()V" } : MethodName)) ∈ lw_tbl := List.mem_append_right _ (List.mem_of_getElem? (i := 462) (by decide +kernel))
set_option maxRecDepth 20000 in
theorem k_463 : (Cond.unhidden "StitchDesk$Tally" "beginRun" "()V") ∈ lw_tbl := List.mem_append_right _ (List.mem_of_getElem? (i := 463) (by decide +kernel))
set_option maxRecDepth 20000 in
theorem k_464 : (Cond.instanceMethod ({ cls := "StitchDesk$Tally", name := "beginRun", desc := "()V" } : MethodName)) ∈ lw_tbl := List.mem_append_right _ (List.mem_of_getElem? (i := 464) (by decide +kernel))
set_option maxRecDepth 20000 in
theorem k_465 : (Cond.publicMethod ({ cls := "StitchDesk$Tally", name := "beginRun", desc := "()V" } : MethodName)) ∈ lw_tbl := List.mem_append_right _ (List.mem_of_getElem? (i := 465) (by decide +kernel))
set_option maxRecDepth 20000 in
theorem k_466 : (Cond.code ({ cls := "StitchDesk$Tally", name := "beginRun", desc := "()V" } : MethodName) prog_11_method_3_code (1 : Nat) (Option.none : Option ClassFile.FieldType)) ∈ lw_tbl := List.mem_append_right _ (List.mem_of_getElem? (i := 466) (by decide +kernel))
set_option maxRecDepth 20000 in
theorem k_467 : (Cond.methodLinkNest "StitchDesk$RunTeller" (113 : Nat) ({ cls := "StitchDesk$HatchLine", name := "xAt", desc := "(I)I" } : MethodName) "StitchDesk") ∈ lw_tbl := List.mem_append_right _ (List.mem_of_getElem? (i := 467) (by decide +kernel))
set_option maxRecDepth 20000 in
theorem k_468 : (Cond.privateMethod ({ cls := "StitchDesk$HatchLine", name := "xAt", desc := "(I)I" } : MethodName)) ∈ lw_tbl := List.mem_append_right _ (List.mem_of_getElem? (i := 468) (by decide +kernel))
set_option maxRecDepth 20000 in
theorem k_469 : (Cond.instanceMethod ({ cls := "StitchDesk$HatchLine", name := "xAt", desc := "(I)I" } : MethodName)) ∈ lw_tbl := List.mem_append_right _ (List.mem_of_getElem? (i := 469) (by decide +kernel))
set_option maxRecDepth 20000 in
theorem k_470 : (Cond.code ({ cls := "StitchDesk$HatchLine", name := "xAt", desc := "(I)I" } : MethodName) prog_2_method_2_code (2 : Nat) (Option.some ClassFile.FieldType.int)) ∈ lw_tbl := List.mem_append_right _ (List.mem_of_getElem? (i := 470) (by decide +kernel))
set_option maxRecDepth 20000 in
theorem k_471 : (Cond.methodLinkNest "StitchDesk$RunTeller" (116 : Nat) ({ cls := "StitchDesk$HatchLine", name := "yAt", desc := "(I)I" } : MethodName) "StitchDesk") ∈ lw_tbl := List.mem_append_right _ (List.mem_of_getElem? (i := 471) (by decide +kernel))
set_option maxRecDepth 20000 in
theorem k_472 : (Cond.privateMethod ({ cls := "StitchDesk$HatchLine", name := "yAt", desc := "(I)I" } : MethodName)) ∈ lw_tbl := List.mem_append_right _ (List.mem_of_getElem? (i := 472) (by decide +kernel))
set_option maxRecDepth 20000 in
theorem k_473 : (Cond.instanceMethod ({ cls := "StitchDesk$HatchLine", name := "yAt", desc := "(I)I" } : MethodName)) ∈ lw_tbl := List.mem_append_right _ (List.mem_of_getElem? (i := 473) (by decide +kernel))
set_option maxRecDepth 20000 in
theorem k_474 : (Cond.code ({ cls := "StitchDesk$HatchLine", name := "yAt", desc := "(I)I" } : MethodName) prog_2_method_3_code (2 : Nat) (Option.some ClassFile.FieldType.int)) ∈ lw_tbl := List.mem_append_right _ (List.mem_of_getElem? (i := 474) (by decide +kernel))
set_option maxRecDepth 20000 in
theorem k_475 : (Cond.interfaceEntry "StitchDesk$RunTeller" (55 : Nat)) ∈ lw_tbl := List.mem_append_right _ (List.mem_of_getElem? (i := 475) (by decide +kernel))
set_option maxRecDepth 20000 in
theorem k_476 : (Cond.methodLink "StitchDesk$RunTeller" (55 : Nat) ({ cls := "StitchDesk$RunTaker", name := "take", desc := "(II)V" } : MethodName)) ∈ lw_tbl := List.mem_append_right _ (List.mem_of_getElem? (i := 476) (by decide +kernel))
set_option maxRecDepth 20000 in
theorem k_477 : (Cond.interfaceMethod "StitchDesk$RunTaker" "StitchDesk$RunTaker" "take" "(II)V") ∈ lw_tbl := List.mem_append_right _ (List.mem_of_getElem? (i := 477) (by decide +kernel))
set_option maxRecDepth 20000 in
theorem k_478 : (Cond.declares ({ cls := "StitchDesk$RunTaker", name := "take", desc := "(II)V" } : MethodName)) ∈ lw_tbl := List.mem_append_right _ (List.mem_of_getElem? (i := 478) (by decide +kernel))
set_option maxRecDepth 20000 in
theorem k_479 : (Cond.selects "StitchDesk$PathMaker" ({ cls := "StitchDesk$RunTaker", name := "take", desc := "(II)V" } : MethodName) ({ cls := "StitchDesk$PathMaker", name := "take", desc := "(II)V" } : MethodName)) ∈ lw_tbl := List.mem_append_right _ (List.mem_of_getElem? (i := 479) (by decide +kernel))
set_option maxRecDepth 20000 in
theorem k_480 : (Cond.unhidden "StitchDesk$PathMaker" "take" "(II)V") ∈ lw_tbl := List.mem_append_right _ (List.mem_of_getElem? (i := 480) (by decide +kernel))
set_option maxRecDepth 20000 in
theorem k_481 : (Cond.instanceMethod ({ cls := "StitchDesk$PathMaker", name := "take", desc := "(II)V" } : MethodName)) ∈ lw_tbl := List.mem_append_right _ (List.mem_of_getElem? (i := 481) (by decide +kernel))
set_option maxRecDepth 20000 in
theorem k_482 : (Cond.publicMethod ({ cls := "StitchDesk$PathMaker", name := "take", desc := "(II)V" } : MethodName)) ∈ lw_tbl := List.mem_append_right _ (List.mem_of_getElem? (i := 482) (by decide +kernel))
set_option maxRecDepth 20000 in
theorem k_483 : (Cond.code ({ cls := "StitchDesk$PathMaker", name := "take", desc := "(II)V" } : MethodName) prog_5_method_5_code (3 : Nat) (Option.none : Option ClassFile.FieldType)) ∈ lw_tbl := List.mem_append_right _ (List.mem_of_getElem? (i := 483) (by decide +kernel))
set_option maxRecDepth 20000 in
theorem k_484 : (Cond.methodLink "StitchDesk$PathMaker" (45 : Nat) ({ cls := "StitchDesk$PathMaker", name := "move", desc := "(III)V" } : MethodName)) ∈ lw_tbl := List.mem_append_right _ (List.mem_of_getElem? (i := 484) (by decide +kernel))
set_option maxRecDepth 20000 in
theorem k_485 : (Cond.privateMethod ({ cls := "StitchDesk$PathMaker", name := "move", desc := "(III)V" } : MethodName)) ∈ lw_tbl := List.mem_append_right _ (List.mem_of_getElem? (i := 485) (by decide +kernel))
set_option maxRecDepth 20000 in
theorem k_486 : (Cond.instanceMethod ({ cls := "StitchDesk$PathMaker", name := "move", desc := "(III)V" } : MethodName)) ∈ lw_tbl := List.mem_append_right _ (List.mem_of_getElem? (i := 486) (by decide +kernel))
set_option maxRecDepth 20000 in
theorem k_487 : (Cond.code ({ cls := "StitchDesk$PathMaker", name := "move", desc := "(III)V" } : MethodName) prog_5_method_8_code (10 : Nat) (Option.none : Option ClassFile.FieldType)) ∈ lw_tbl := List.mem_append_right _ (List.mem_of_getElem? (i := 487) (by decide +kernel))
set_option maxRecDepth 20000 in
theorem k_488 : (Cond.methodLink "StitchDesk$PathMaker" (78 : Nat) ({ cls := "StitchDesk$PathMaker", name := "stepsTo", desc := "(II)I" } : MethodName)) ∈ lw_tbl := List.mem_append_right _ (List.mem_of_getElem? (i := 488) (by decide +kernel))
set_option maxRecDepth 20000 in
theorem k_489 : (Cond.privateMethod ({ cls := "StitchDesk$PathMaker", name := "stepsTo", desc := "(II)I" } : MethodName)) ∈ lw_tbl := List.mem_append_right _ (List.mem_of_getElem? (i := 489) (by decide +kernel))
set_option maxRecDepth 20000 in
theorem k_490 : (Cond.instanceMethod ({ cls := "StitchDesk$PathMaker", name := "stepsTo", desc := "(II)I" } : MethodName)) ∈ lw_tbl := List.mem_append_right _ (List.mem_of_getElem? (i := 490) (by decide +kernel))
set_option maxRecDepth 20000 in
theorem k_491 : (Cond.code ({ cls := "StitchDesk$PathMaker", name := "stepsTo", desc := "(II)I" } : MethodName) prog_5_method_10_code (4 : Nat) (Option.some ClassFile.FieldType.int)) ∈ lw_tbl := List.mem_append_right _ (List.mem_of_getElem? (i := 491) (by decide +kernel))
set_option maxRecDepth 20000 in
theorem k_492 : (Cond.methodLink "StitchDesk$PathMaker" (68 : Nat) ({ cls := "java/lang/Math", name := "abs", desc := "(I)I" } : MethodName)) ∈ lw_tbl := List.mem_append_right _ (List.mem_of_getElem? (i := 492) (by decide +kernel))
set_option maxRecDepth 20000 in
theorem k_493 : (Cond.static ({ cls := "java/lang/Math", name := "abs", desc := "(I)I" } : MethodName)) ∈ lw_tbl := List.mem_append_right _ (List.mem_of_getElem? (i := 493) (by decide +kernel))
set_option maxRecDepth 20000 in
theorem k_494 : (Cond.code ({ cls := "java/lang/Math", name := "abs", desc := "(I)I" } : MethodName) prog_19_method_59_code (1 : Nat) (Option.some ClassFile.FieldType.int)) ∈ lw_tbl := List.mem_append_right _ (List.mem_of_getElem? (i := 494) (by decide +kernel))
set_option maxRecDepth 20000 in
theorem k_495 : (Cond.methodLink "StitchDesk$PathMaker" (74 : Nat) ({ cls := "java/lang/Math", name := "max", desc := "(II)I" } : MethodName)) ∈ lw_tbl := List.mem_append_right _ (List.mem_of_getElem? (i := 495) (by decide +kernel))
set_option maxRecDepth 20000 in
theorem k_496 : (Cond.methodLinkNest "StitchDesk$PathMaker" (81 : Nat) ({ cls := "StitchDesk", name := "along", desc := "(IIII)I" } : MethodName) "StitchDesk") ∈ lw_tbl := List.mem_append_right _ (List.mem_of_getElem? (i := 496) (by decide +kernel))
set_option maxRecDepth 20000 in
theorem k_497 : (Cond.static ({ cls := "StitchDesk", name := "along", desc := "(IIII)I" } : MethodName)) ∈ lw_tbl := List.mem_append_right _ (List.mem_of_getElem? (i := 497) (by decide +kernel))
set_option maxRecDepth 20000 in
theorem k_498 : (Cond.code ({ cls := "StitchDesk", name := "along", desc := "(IIII)I" } : MethodName) prog_1_method_23_code (4 : Nat) (Option.some ClassFile.FieldType.int)) ∈ lw_tbl := List.mem_append_right _ (List.mem_of_getElem? (i := 498) (by decide +kernel))
set_option maxRecDepth 20000 in
theorem k_499 : (Cond.methodLink "StitchDesk" (256 : Nat) ({ cls := "java/lang/Math", name := "floorDiv", desc := "(II)I" } : MethodName)) ∈ lw_tbl := List.mem_append_right _ (List.mem_of_getElem? (i := 499) (by decide +kernel))
set_option maxRecDepth 20000 in
theorem k_500 : (Cond.methodLinkNest "StitchDesk$PathMaker" (65 : Nat) ({ cls := "StitchDesk$Path", name := "add", desc := "(III)V" } : MethodName) "StitchDesk") ∈ lw_tbl := List.mem_append_right _ (List.mem_of_getElem? (i := 500) (by decide +kernel))
set_option maxRecDepth 20000 in
theorem k_501 : (Cond.privateMethod ({ cls := "StitchDesk$Path", name := "add", desc := "(III)V" } : MethodName)) ∈ lw_tbl := List.mem_append_right _ (List.mem_of_getElem? (i := 501) (by decide +kernel))
set_option maxRecDepth 20000 in
theorem k_502 : (Cond.instanceMethod ({ cls := "StitchDesk$Path", name := "add", desc := "(III)V" } : MethodName)) ∈ lw_tbl := List.mem_append_right _ (List.mem_of_getElem? (i := 502) (by decide +kernel))
set_option maxRecDepth 20000 in
theorem k_503 : (Cond.code ({ cls := "StitchDesk$Path", name := "add", desc := "(III)V" } : MethodName) prog_4_method_3_code (4 : Nat) (Option.none : Option ClassFile.FieldType)) ∈ lw_tbl := List.mem_append_right _ (List.mem_of_getElem? (i := 503) (by decide +kernel))
set_option maxRecDepth 20000 in
theorem k_504 : (Cond.methodLink "StitchDesk$PathMaker" (49 : Nat) ({ cls := "StitchDesk$PathMaker", name := "changeThread", desc := "()V" } : MethodName)) ∈ lw_tbl := List.mem_append_right _ (List.mem_of_getElem? (i := 504) (by decide +kernel))
set_option maxRecDepth 20000 in
theorem k_505 : (Cond.privateMethod ({ cls := "StitchDesk$PathMaker", name := "changeThread", desc := "()V" } : MethodName)) ∈ lw_tbl := List.mem_append_right _ (List.mem_of_getElem? (i := 505) (by decide +kernel))
set_option maxRecDepth 20000 in
theorem k_506 : (Cond.instanceMethod ({ cls := "StitchDesk$PathMaker", name := "changeThread", desc := "()V" } : MethodName)) ∈ lw_tbl := List.mem_append_right _ (List.mem_of_getElem? (i := 506) (by decide +kernel))
set_option maxRecDepth 20000 in
theorem k_507 : (Cond.code ({ cls := "StitchDesk$PathMaker", name := "changeThread", desc := "()V" } : MethodName) prog_5_method_6_code (1 : Nat) (Option.none : Option ClassFile.FieldType)) ∈ lw_tbl := List.mem_append_right _ (List.mem_of_getElem? (i := 507) (by decide +kernel))
set_option maxRecDepth 20000 in
theorem k_508 : (Cond.methodLink "StitchDesk$PathMaker" (52 : Nat) ({ cls := "StitchDesk$PathMaker", name := "leap", desc := "(II)V" } : MethodName)) ∈ lw_tbl := List.mem_append_right _ (List.mem_of_getElem? (i := 508) (by decide +kernel))
set_option maxRecDepth 20000 in
theorem k_509 : (Cond.privateMethod ({ cls := "StitchDesk$PathMaker", name := "leap", desc := "(II)V" } : MethodName)) ∈ lw_tbl := List.mem_append_right _ (List.mem_of_getElem? (i := 509) (by decide +kernel))
set_option maxRecDepth 20000 in
theorem k_510 : (Cond.instanceMethod ({ cls := "StitchDesk$PathMaker", name := "leap", desc := "(II)V" } : MethodName)) ∈ lw_tbl := List.mem_append_right _ (List.mem_of_getElem? (i := 510) (by decide +kernel))
set_option maxRecDepth 20000 in
theorem k_511 : (Cond.code ({ cls := "StitchDesk$PathMaker", name := "leap", desc := "(II)V" } : MethodName) prog_5_method_7_code (3 : Nat) (Option.none : Option ClassFile.FieldType)) ∈ lw_tbl := List.mem_append_right _ (List.mem_of_getElem? (i := 511) (by decide +kernel))
set_option maxRecDepth 20000 in
theorem k_512 : (Cond.methodLink "StitchDesk$PathMaker" (56 : Nat) ({ cls := "StitchDesk$PathMaker", name := "staysInShape", desc := "(II)Z" } : MethodName)) ∈ lw_tbl := List.mem_append_right _ (List.mem_of_getElem? (i := 512) (by decide +kernel))
set_option maxRecDepth 20000 in
theorem k_513 : (Cond.privateMethod ({ cls := "StitchDesk$PathMaker", name := "staysInShape", desc := "(II)Z" } : MethodName)) ∈ lw_tbl := List.mem_append_right _ (List.mem_of_getElem? (i := 513) (by decide +kernel))
set_option maxRecDepth 20000 in
theorem k_514 : (Cond.instanceMethod ({ cls := "StitchDesk$PathMaker", name := "staysInShape", desc := "(II)Z" } : MethodName)) ∈ lw_tbl := List.mem_append_right _ (List.mem_of_getElem? (i := 514) (by decide +kernel))
set_option maxRecDepth 20000 in
theorem k_515 : (Cond.code ({ cls := "StitchDesk$PathMaker", name := "staysInShape", desc := "(II)Z" } : MethodName) prog_5_method_9_code (5 : Nat) (Option.some ClassFile.FieldType.boolean)) ∈ lw_tbl := List.mem_append_right _ (List.mem_of_getElem? (i := 515) (by decide +kernel))
set_option maxRecDepth 20000 in
theorem k_516 : (Cond.methodLinkNest "StitchDesk$PathMaker" (85 : Nat) ({ cls := "StitchDesk$Shape", name := "has", desc := "(II)Z" } : MethodName) "StitchDesk") ∈ lw_tbl := List.mem_append_right _ (List.mem_of_getElem? (i := 516) (by decide +kernel))
set_option maxRecDepth 20000 in
theorem k_517 : (Cond.privateMethod ({ cls := "StitchDesk$Shape", name := "has", desc := "(II)Z" } : MethodName)) ∈ lw_tbl := List.mem_append_right _ (List.mem_of_getElem? (i := 517) (by decide +kernel))
set_option maxRecDepth 20000 in
theorem k_518 : (Cond.instanceMethod ({ cls := "StitchDesk$Shape", name := "has", desc := "(II)Z" } : MethodName)) ∈ lw_tbl := List.mem_append_right _ (List.mem_of_getElem? (i := 518) (by decide +kernel))
set_option maxRecDepth 20000 in
theorem k_519 : (Cond.code ({ cls := "StitchDesk$Shape", name := "has", desc := "(II)Z" } : MethodName) prog_10_method_6_code (6 : Nat) (Option.some ClassFile.FieldType.boolean)) ∈ lw_tbl := List.mem_append_right _ (List.mem_of_getElem? (i := 519) (by decide +kernel))
set_option maxRecDepth 20000 in
theorem k_520 : (Cond.methodLinkNest "StitchDesk$Shape" (88 : Nat) ({ cls := "StitchDesk$Ring", name := "sideOf", desc := "(II)I" } : MethodName) "StitchDesk") ∈ lw_tbl := List.mem_append_right _ (List.mem_of_getElem? (i := 520) (by decide +kernel))
set_option maxRecDepth 20000 in
theorem k_521 : (Cond.privateMethod ({ cls := "StitchDesk$Ring", name := "sideOf", desc := "(II)I" } : MethodName)) ∈ lw_tbl := List.mem_append_right _ (List.mem_of_getElem? (i := 521) (by decide +kernel))
set_option maxRecDepth 20000 in
theorem k_522 : (Cond.instanceMethod ({ cls := "StitchDesk$Ring", name := "sideOf", desc := "(II)I" } : MethodName)) ∈ lw_tbl := List.mem_append_right _ (List.mem_of_getElem? (i := 522) (by decide +kernel))
set_option maxRecDepth 20000 in
theorem k_523 : (Cond.code ({ cls := "StitchDesk$Ring", name := "sideOf", desc := "(II)I" } : MethodName) prog_7_method_6_code (12 : Nat) (Option.some ClassFile.FieldType.int)) ∈ lw_tbl := List.mem_append_right _ (List.mem_of_getElem? (i := 523) (by decide +kernel))
set_option maxRecDepth 20000 in
theorem k_524 : (Cond.selects "StitchDesk$Tally" ({ cls := "StitchDesk$RunTaker", name := "take", desc := "(II)V" } : MethodName) ({ cls := "StitchDesk$Tally", name := "take", desc := "(II)V" } : MethodName)) ∈ lw_tbl := List.mem_append_right _ (List.mem_of_getElem? (i := 524) (by decide +kernel))
set_option maxRecDepth 20000 in
theorem k_525 : (Cond.unhidden "StitchDesk$Tally" "take" "(II)V") ∈ lw_tbl := List.mem_append_right _ (List.mem_of_getElem? (i := 525) (by decide +kernel))
set_option maxRecDepth 20000 in
theorem k_526 : (Cond.instanceMethod ({ cls := "StitchDesk$Tally", name := "take", desc := "(II)V" } : MethodName)) ∈ lw_tbl := List.mem_append_right _ (List.mem_of_getElem? (i := 526) (by decide +kernel))
set_option maxRecDepth 20000 in
theorem k_527 : (Cond.publicMethod ({ cls := "StitchDesk$Tally", name := "take", desc := "(II)V" } : MethodName)) ∈ lw_tbl := List.mem_append_right _ (List.mem_of_getElem? (i := 527) (by decide +kernel))
set_option maxRecDepth 20000 in
theorem k_528 : (Cond.code ({ cls := "StitchDesk$Tally", name := "take", desc := "(II)V" } : MethodName) prog_11_method_4_code (3 : Nat) (Option.none : Option ClassFile.FieldType)) ∈ lw_tbl := List.mem_append_right _ (List.mem_of_getElem? (i := 528) (by decide +kernel))
set_option maxRecDepth 20000 in
theorem k_529 : (Cond.methodLink "StitchDesk$RunTeller" (28 : Nat) ({ cls := "StitchDesk$RunTeller", name := "tellSatin", desc := "(LStitchDesk$Shape;LStitchDesk$RunTaker;)V" } : MethodName)) ∈ lw_tbl := List.mem_append_right _ (List.mem_of_getElem? (i := 529) (by decide +kernel))
set_option maxRecDepth 20000 in
theorem k_530 : (Cond.privateMethod ({ cls := "StitchDesk$RunTeller", name := "tellSatin", desc := "(LStitchDesk$Shape;LStitchDesk$RunTaker;)V" } : MethodName)) ∈ lw_tbl := List.mem_append_right _ (List.mem_of_getElem? (i := 530) (by decide +kernel))
set_option maxRecDepth 20000 in
theorem k_531 : (Cond.instanceMethod ({ cls := "StitchDesk$RunTeller", name := "tellSatin", desc := "(LStitchDesk$Shape;LStitchDesk$RunTaker;)V" } : MethodName)) ∈ lw_tbl := List.mem_append_right _ (List.mem_of_getElem? (i := 531) (by decide +kernel))
set_option maxRecDepth 20000 in
theorem k_532 : (Cond.code ({ cls := "StitchDesk$RunTeller", name := "tellSatin", desc := "(LStitchDesk$Shape;LStitchDesk$RunTaker;)V" } : MethodName) prog_9_method_4_code (10 : Nat) (Option.none : Option ClassFile.FieldType)) ∈ lw_tbl := List.mem_append_right _ (List.mem_of_getElem? (i := 532) (by decide +kernel))
set_option maxRecDepth 20000 in
theorem k_533 : (Cond.methodLink "StitchDesk$RunTeller" (62 : Nat) ({ cls := "java/lang/Math", name := "min", desc := "(II)I" } : MethodName)) ∈ lw_tbl := List.mem_append_right _ (List.mem_of_getElem? (i := 533) (by decide +kernel))
set_option maxRecDepth 20000 in
theorem k_534 : (Cond.methodLink "StitchDesk$RunTeller" (68 : Nat) ({ cls := "StitchDesk$RunTeller", name := "reach", desc := "(LStitchDesk$Ring;I)I" } : MethodName)) ∈ lw_tbl := List.mem_append_right _ (List.mem_of_getElem? (i := 534) (by decide +kernel))
set_option maxRecDepth 20000 in
theorem k_535 : (Cond.static ({ cls := "StitchDesk$RunTeller", name := "reach", desc := "(LStitchDesk$Ring;I)I" } : MethodName)) ∈ lw_tbl := List.mem_append_right _ (List.mem_of_getElem? (i := 535) (by decide +kernel))
set_option maxRecDepth 20000 in
theorem k_536 : (Cond.code ({ cls := "StitchDesk$RunTeller", name := "reach", desc := "(LStitchDesk$Ring;I)I" } : MethodName) prog_9_method_5_code (2 : Nat) (Option.some ClassFile.FieldType.int)) ∈ lw_tbl := List.mem_append_right _ (List.mem_of_getElem? (i := 536) (by decide +kernel))
set_option maxRecDepth 20000 in
theorem k_537 : (Cond.methodLink "StitchDesk$RunTeller" (82 : Nat) ({ cls := "java/lang/Math", name := "abs", desc := "(I)I" } : MethodName)) ∈ lw_tbl := List.mem_append_right _ (List.mem_of_getElem? (i := 537) (by decide +kernel))
set_option maxRecDepth 20000 in
theorem k_538 : (Cond.methodLink "StitchDesk$RunTeller" (72 : Nat) ({ cls := "java/lang/Math", name := "max", desc := "(II)I" } : MethodName)) ∈ lw_tbl := List.mem_append_right _ (List.mem_of_getElem? (i := 538) (by decide +kernel))
set_option maxRecDepth 20000 in
theorem k_539 : (Cond.methodLink "StitchDesk$RunTeller" (78 : Nat) ({ cls := "StitchDesk$RunTeller", name := "pointOf", desc := "([IIII)I" } : MethodName)) ∈ lw_tbl := List.mem_append_right _ (List.mem_of_getElem? (i := 539) (by decide +kernel))
set_option maxRecDepth 20000 in
theorem k_540 : (Cond.static ({ cls := "StitchDesk$RunTeller", name := "pointOf", desc := "([IIII)I" } : MethodName)) ∈ lw_tbl := List.mem_append_right _ (List.mem_of_getElem? (i := 540) (by decide +kernel))
set_option maxRecDepth 20000 in
theorem k_541 : (Cond.code ({ cls := "StitchDesk$RunTeller", name := "pointOf", desc := "([IIII)I" } : MethodName) prog_9_method_6_code (4 : Nat) (Option.some ClassFile.FieldType.int)) ∈ lw_tbl := List.mem_append_right _ (List.mem_of_getElem? (i := 541) (by decide +kernel))
set_option maxRecDepth 20000 in
theorem k_542 : (Cond.methodLinkNest "StitchDesk$RunTeller" (86 : Nat) ({ cls := "StitchDesk", name := "along", desc := "(IIII)I" } : MethodName) "StitchDesk") ∈ lw_tbl := List.mem_append_right _ (List.mem_of_getElem? (i := 542) (by decide +kernel))
set_option maxRecDepth 20000 in
theorem k_543 : (Cond.methodLink "StitchDesk$RunTeller" (31 : Nat) ({ cls := "StitchDesk$RunTeller", name := "tellOutline", desc := "(LStitchDesk$Shape;LStitchDesk$RunTaker;)V" } : MethodName)) ∈ lw_tbl := List.mem_append_right _ (List.mem_of_getElem? (i := 543) (by decide +kernel))
set_option maxRecDepth 20000 in
theorem k_544 : (Cond.privateMethod ({ cls := "StitchDesk$RunTeller", name := "tellOutline", desc := "(LStitchDesk$Shape;LStitchDesk$RunTaker;)V" } : MethodName)) ∈ lw_tbl := List.mem_append_right _ (List.mem_of_getElem? (i := 544) (by decide +kernel))
set_option maxRecDepth 20000 in
theorem k_545 : (Cond.instanceMethod ({ cls := "StitchDesk$RunTeller", name := "tellOutline", desc := "(LStitchDesk$Shape;LStitchDesk$RunTaker;)V" } : MethodName)) ∈ lw_tbl := List.mem_append_right _ (List.mem_of_getElem? (i := 545) (by decide +kernel))
set_option maxRecDepth 20000 in
theorem k_546 : (Cond.code ({ cls := "StitchDesk$RunTeller", name := "tellOutline", desc := "(LStitchDesk$Shape;LStitchDesk$RunTaker;)V" } : MethodName) prog_9_method_3_code (6 : Nat) (Option.none : Option ClassFile.FieldType)) ∈ lw_tbl := List.mem_append_right _ (List.mem_of_getElem? (i := 546) (by decide +kernel))
set_option maxRecDepth 20000 in
theorem k_547 : (Cond.methodLinkNest "StitchDesk" (199 : Nat) ({ cls := "StitchDesk$Path", name := "clear", desc := "()V" } : MethodName) "StitchDesk") ∈ lw_tbl := List.mem_append_right _ (List.mem_of_getElem? (i := 547) (by decide +kernel))
set_option maxRecDepth 20000 in
theorem k_548 : (Cond.methodLink "StitchDeskLaw" (104 : Nat) ({ cls := "StitchDesk", name := "decode", desc := "()I" } : MethodName)) ∈ lw_tbl := List.mem_append_right _ (List.mem_of_getElem? (i := 548) (by decide +kernel))
set_option maxRecDepth 20000 in
theorem k_549 : (Cond.instanceMethod ({ cls := "StitchDesk", name := "decode", desc := "()I" } : MethodName)) ∈ lw_tbl := List.mem_append_right _ (List.mem_of_getElem? (i := 549) (by decide +kernel))
set_option maxRecDepth 20000 in
theorem k_550 : (Cond.selects "StitchDesk" ({ cls := "StitchDesk", name := "decode", desc := "()I" } : MethodName) ({ cls := "StitchDesk", name := "decode", desc := "()I" } : MethodName)) ∈ lw_tbl := List.mem_append_right _ (List.mem_of_getElem? (i := 550) (by decide +kernel))
set_option maxRecDepth 20000 in
theorem k_551 : (Cond.code ({ cls := "StitchDesk", name := "decode", desc := "()I" } : MethodName) prog_1_method_13_code (3 : Nat) (Option.some ClassFile.FieldType.int)) ∈ lw_tbl := List.mem_append_right _ (List.mem_of_getElem? (i := 551) (by decide +kernel))
set_option maxRecDepth 20000 in
theorem k_552 : (Cond.methodLink "StitchDesk" (226 : Nat) ({ cls := "StitchDesk", name := "firstWrongGroup", desc := "()I" } : MethodName)) ∈ lw_tbl := List.mem_append_right _ (List.mem_of_getElem? (i := 552) (by decide +kernel))
set_option maxRecDepth 20000 in
theorem k_553 : (Cond.privateMethod ({ cls := "StitchDesk", name := "firstWrongGroup", desc := "()I" } : MethodName)) ∈ lw_tbl := List.mem_append_right _ (List.mem_of_getElem? (i := 553) (by decide +kernel))
set_option maxRecDepth 20000 in
theorem k_554 : (Cond.instanceMethod ({ cls := "StitchDesk", name := "firstWrongGroup", desc := "()I" } : MethodName)) ∈ lw_tbl := List.mem_append_right _ (List.mem_of_getElem? (i := 554) (by decide +kernel))
set_option maxRecDepth 20000 in
theorem k_555 : (Cond.code ({ cls := "StitchDesk", name := "firstWrongGroup", desc := "()I" } : MethodName) prog_1_method_24_code (2 : Nat) (Option.some ClassFile.FieldType.int)) ∈ lw_tbl := List.mem_append_right _ (List.mem_of_getElem? (i := 555) (by decide +kernel))
set_option maxRecDepth 20000 in
theorem k_556 : (Cond.methodLink "StitchDesk" (230 : Nat) ({ cls := "StitchDesk", name := "groupAt", desc := "(I)I" } : MethodName)) ∈ lw_tbl := List.mem_append_right _ (List.mem_of_getElem? (i := 556) (by decide +kernel))
set_option maxRecDepth 20000 in
theorem k_557 : (Cond.privateMethod ({ cls := "StitchDesk", name := "groupAt", desc := "(I)I" } : MethodName)) ∈ lw_tbl := List.mem_append_right _ (List.mem_of_getElem? (i := 557) (by decide +kernel))
set_option maxRecDepth 20000 in
theorem k_558 : (Cond.instanceMethod ({ cls := "StitchDesk", name := "groupAt", desc := "(I)I" } : MethodName)) ∈ lw_tbl := List.mem_append_right _ (List.mem_of_getElem? (i := 558) (by decide +kernel))
set_option maxRecDepth 20000 in
theorem k_559 : (Cond.code ({ cls := "StitchDesk", name := "groupAt", desc := "(I)I" } : MethodName) prog_1_method_25_code (2 : Nat) (Option.some ClassFile.FieldType.int)) ∈ lw_tbl := List.mem_append_right _ (List.mem_of_getElem? (i := 559) (by decide +kernel))
set_option maxRecDepth 20000 in
theorem k_560 : (Cond.methodLinkNest "StitchDesk" (262 : Nat) ({ cls := "StitchDesk$Path", name := "isRecord", desc := "(I)Z" } : MethodName) "StitchDesk") ∈ lw_tbl := List.mem_append_right _ (List.mem_of_getElem? (i := 560) (by decide +kernel))
set_option maxRecDepth 20000 in
theorem k_561 : (Cond.static ({ cls := "StitchDesk$Path", name := "isRecord", desc := "(I)Z" } : MethodName)) ∈ lw_tbl := List.mem_append_right _ (List.mem_of_getElem? (i := 561) (by decide +kernel))
set_option maxRecDepth 20000 in
theorem k_562 : (Cond.code ({ cls := "StitchDesk$Path", name := "isRecord", desc := "(I)Z" } : MethodName) prog_4_method_9_code (2 : Nat) (Option.some ClassFile.FieldType.boolean)) ∈ lw_tbl := List.mem_append_right _ (List.mem_of_getElem? (i := 562) (by decide +kernel))
set_option maxRecDepth 20000 in
theorem k_563 : (Cond.constant "StitchDesk$Path" (43 : Nat) (349525 : Int32)) ∈ lw_tbl := List.mem_append_right _ (List.mem_of_getElem? (i := 563) (by decide +kernel))
set_option maxRecDepth 20000 in
theorem k_564 : (Cond.methodLinkNest "StitchDesk" (233 : Nat) ({ cls := "StitchDesk$Path", name := "addPacked", desc := "(I)V" } : MethodName) "StitchDesk") ∈ lw_tbl := List.mem_append_right _ (List.mem_of_getElem? (i := 564) (by decide +kernel))
set_option maxRecDepth 20000 in
theorem k_565 : (Cond.privateMethod ({ cls := "StitchDesk$Path", name := "addPacked", desc := "(I)V" } : MethodName)) ∈ lw_tbl := List.mem_append_right _ (List.mem_of_getElem? (i := 565) (by decide +kernel))
set_option maxRecDepth 20000 in
theorem k_566 : (Cond.instanceMethod ({ cls := "StitchDesk$Path", name := "addPacked", desc := "(I)V" } : MethodName)) ∈ lw_tbl := List.mem_append_right _ (List.mem_of_getElem? (i := 566) (by decide +kernel))
set_option maxRecDepth 20000 in
theorem k_567 : (Cond.code ({ cls := "StitchDesk$Path", name := "addPacked", desc := "(I)V" } : MethodName) prog_4_method_8_code (2 : Nat) (Option.none : Option ClassFile.FieldType)) ∈ lw_tbl := List.mem_append_right _ (List.mem_of_getElem? (i := 567) (by decide +kernel))
set_option maxRecDepth 20000 in
theorem k_568 : (Cond.methodLink "StitchDesk$Path" (36 : Nat) ({ cls := "StitchDesk$Path", name := "numberOf", desc := "(I)I" } : MethodName)) ∈ lw_tbl := List.mem_append_right _ (List.mem_of_getElem? (i := 568) (by decide +kernel))
set_option maxRecDepth 20000 in
theorem k_569 : (Cond.static ({ cls := "StitchDesk$Path", name := "numberOf", desc := "(I)I" } : MethodName)) ∈ lw_tbl := List.mem_append_right _ (List.mem_of_getElem? (i := 569) (by decide +kernel))
set_option maxRecDepth 20000 in
theorem k_570 : (Cond.code ({ cls := "StitchDesk$Path", name := "numberOf", desc := "(I)I" } : MethodName) prog_4_method_11_code (4 : Nat) (Option.some ClassFile.FieldType.int)) ∈ lw_tbl := List.mem_append_right _ (List.mem_of_getElem? (i := 570) (by decide +kernel))
set_option maxRecDepth 20000 in
theorem k_571 : (Cond.methodLink "StitchDesk$Path" (39 : Nat) ({ cls := "StitchDesk$Path", name := "add", desc := "(III)V" } : MethodName)) ∈ lw_tbl := List.mem_append_right _ (List.mem_of_getElem? (i := 571) (by decide +kernel))
set_option maxRecDepth 20000 in
theorem k_572 : (Cond.methodLink "StitchDeskLaw" (108 : Nat) ({ cls := "StitchDesk", name := "reorder", desc := "()I" } : MethodName)) ∈ lw_tbl := List.mem_append_right _ (List.mem_of_getElem? (i := 572) (by decide +kernel))
set_option maxRecDepth 20000 in
theorem k_573 : (Cond.instanceMethod ({ cls := "StitchDesk", name := "reorder", desc := "()I" } : MethodName)) ∈ lw_tbl := List.mem_append_right _ (List.mem_of_getElem? (i := 573) (by decide +kernel))
set_option maxRecDepth 20000 in
theorem k_574 : (Cond.selects "StitchDesk" ({ cls := "StitchDesk", name := "reorder", desc := "()I" } : MethodName) ({ cls := "StitchDesk", name := "reorder", desc := "()I" } : MethodName)) ∈ lw_tbl := List.mem_append_right _ (List.mem_of_getElem? (i := 574) (by decide +kernel))
set_option maxRecDepth 20000 in
theorem k_575 : (Cond.code ({ cls := "StitchDesk", name := "reorder", desc := "()I" } : MethodName) prog_1_method_14_code (1 : Nat) (Option.some ClassFile.FieldType.int)) ∈ lw_tbl := List.mem_append_right _ (List.mem_of_getElem? (i := 575) (by decide +kernel))
set_option maxRecDepth 20000 in
theorem k_576 : (Cond.methodLinkNest "StitchDesk" (237 : Nat) ({ cls := "StitchDesk$Planner", name := "plan", desc := "([LStitchDesk$Shape;[II)I" } : MethodName) "StitchDesk") ∈ lw_tbl := List.mem_append_right _ (List.mem_of_getElem? (i := 576) (by decide +kernel))
set_option maxRecDepth 20000 in
theorem k_577 : (Cond.privateMethod ({ cls := "StitchDesk$Planner", name := "plan", desc := "([LStitchDesk$Shape;[II)I" } : MethodName)) ∈ lw_tbl := List.mem_append_right _ (List.mem_of_getElem? (i := 577) (by decide +kernel))
set_option maxRecDepth 20000 in
theorem k_578 : (Cond.instanceMethod ({ cls := "StitchDesk$Planner", name := "plan", desc := "([LStitchDesk$Shape;[II)I" } : MethodName)) ∈ lw_tbl := List.mem_append_right _ (List.mem_of_getElem? (i := 578) (by decide +kernel))
set_option maxRecDepth 20000 in
theorem k_579 : (Cond.code ({ cls := "StitchDesk$Planner", name := "plan", desc := "([LStitchDesk$Shape;[II)I" } : MethodName) prog_6_method_2_code (5 : Nat) (Option.some ClassFile.FieldType.int)) ∈ lw_tbl := List.mem_append_right _ (List.mem_of_getElem? (i := 579) (by decide +kernel))
set_option maxRecDepth 20000 in
theorem k_580 : (Cond.methodLink "StitchDesk$Planner" (27 : Nat) ({ cls := "java/lang/Math", name := "min", desc := "(II)I" } : MethodName)) ∈ lw_tbl := List.mem_append_right _ (List.mem_of_getElem? (i := 580) (by decide +kernel))
set_option maxRecDepth 20000 in
theorem k_581 : (Cond.methodLink "StitchDesk$Planner" (37 : Nat) ({ cls := "StitchDesk$Planner", name := "gather", desc := "([LStitchDesk$Shape;[I)V" } : MethodName)) ∈ lw_tbl := List.mem_append_right _ (List.mem_of_getElem? (i := 581) (by decide +kernel))
set_option maxRecDepth 20000 in
theorem k_582 : (Cond.privateMethod ({ cls := "StitchDesk$Planner", name := "gather", desc := "([LStitchDesk$Shape;[I)V" } : MethodName)) ∈ lw_tbl := List.mem_append_right _ (List.mem_of_getElem? (i := 582) (by decide +kernel))
set_option maxRecDepth 20000 in
theorem k_583 : (Cond.instanceMethod ({ cls := "StitchDesk$Planner", name := "gather", desc := "([LStitchDesk$Shape;[I)V" } : MethodName)) ∈ lw_tbl := List.mem_append_right _ (List.mem_of_getElem? (i := 583) (by decide +kernel))
set_option maxRecDepth 20000 in
theorem k_584 : (Cond.code ({ cls := "StitchDesk$Planner", name := "gather", desc := "([LStitchDesk$Shape;[I)V" } : MethodName) prog_6_method_3_code (6 : Nat) (Option.none : Option ClassFile.FieldType)) ∈ lw_tbl := List.mem_append_right _ (List.mem_of_getElem? (i := 584) (by decide +kernel))
set_option maxRecDepth 20000 in
theorem k_585 : (Cond.methodLinkNest "StitchDesk$Planner" (53 : Nat) ({ cls := "StitchDesk$Shape", name := "meets", desc := "(LStitchDesk$Shape;)Z" } : MethodName) "StitchDesk") ∈ lw_tbl := List.mem_append_right _ (List.mem_of_getElem? (i := 585) (by decide +kernel))
set_option maxRecDepth 20000 in
theorem k_586 : (Cond.privateMethod ({ cls := "StitchDesk$Shape", name := "meets", desc := "(LStitchDesk$Shape;)Z" } : MethodName)) ∈ lw_tbl := List.mem_append_right _ (List.mem_of_getElem? (i := 586) (by decide +kernel))
set_option maxRecDepth 20000 in
theorem k_587 : (Cond.instanceMethod ({ cls := "StitchDesk$Shape", name := "meets", desc := "(LStitchDesk$Shape;)Z" } : MethodName)) ∈ lw_tbl := List.mem_append_right _ (List.mem_of_getElem? (i := 587) (by decide +kernel))
set_option maxRecDepth 20000 in
theorem k_588 : (Cond.code ({ cls := "StitchDesk$Shape", name := "meets", desc := "(LStitchDesk$Shape;)Z" } : MethodName) prog_10_method_7_code (2 : Nat) (Option.some ClassFile.FieldType.boolean)) ∈ lw_tbl := List.mem_append_right _ (List.mem_of_getElem? (i := 588) (by decide +kernel))
set_option maxRecDepth 20000 in
theorem k_589 : (Cond.methodLink "StitchDesk$Planner" (41 : Nat) ({ cls := "StitchDesk$Planner", name := "weighSets", desc := "()V" } : MethodName)) ∈ lw_tbl := List.mem_append_right _ (List.mem_of_getElem? (i := 589) (by decide +kernel))
set_option maxRecDepth 20000 in
theorem k_590 : (Cond.privateMethod ({ cls := "StitchDesk$Planner", name := "weighSets", desc := "()V" } : MethodName)) ∈ lw_tbl := List.mem_append_right _ (List.mem_of_getElem? (i := 590) (by decide +kernel))
set_option maxRecDepth 20000 in
theorem k_591 : (Cond.instanceMethod ({ cls := "StitchDesk$Planner", name := "weighSets", desc := "()V" } : MethodName)) ∈ lw_tbl := List.mem_append_right _ (List.mem_of_getElem? (i := 591) (by decide +kernel))
set_option maxRecDepth 20000 in
theorem k_592 : (Cond.code ({ cls := "StitchDesk$Planner", name := "weighSets", desc := "()V" } : MethodName) prog_6_method_4_code (4 : Nat) (Option.none : Option ClassFile.FieldType)) ∈ lw_tbl := List.mem_append_right _ (List.mem_of_getElem? (i := 592) (by decide +kernel))
set_option maxRecDepth 20000 in
theorem k_593 : (Cond.methodLink "StitchDesk$Planner" (57 : Nat) ({ cls := "StitchDesk$Planner", name := "mayFollow", desc := "(II)Z" } : MethodName)) ∈ lw_tbl := List.mem_append_right _ (List.mem_of_getElem? (i := 593) (by decide +kernel))
set_option maxRecDepth 20000 in
theorem k_594 : (Cond.privateMethod ({ cls := "StitchDesk$Planner", name := "mayFollow", desc := "(II)Z" } : MethodName)) ∈ lw_tbl := List.mem_append_right _ (List.mem_of_getElem? (i := 594) (by decide +kernel))
set_option maxRecDepth 20000 in
theorem k_595 : (Cond.instanceMethod ({ cls := "StitchDesk$Planner", name := "mayFollow", desc := "(II)Z" } : MethodName)) ∈ lw_tbl := List.mem_append_right _ (List.mem_of_getElem? (i := 595) (by decide +kernel))
set_option maxRecDepth 20000 in
theorem k_596 : (Cond.code ({ cls := "StitchDesk$Planner", name := "mayFollow", desc := "(II)Z" } : MethodName) prog_6_method_6_code (3 : Nat) (Option.some ClassFile.FieldType.boolean)) ∈ lw_tbl := List.mem_append_right _ (List.mem_of_getElem? (i := 596) (by decide +kernel))
set_option maxRecDepth 20000 in
theorem k_597 : (Cond.methodLink "StitchDesk$Planner" (61 : Nat) ({ cls := "StitchDesk$Planner", name := "changesAfter", desc := "(II)I" } : MethodName)) ∈ lw_tbl := List.mem_append_right _ (List.mem_of_getElem? (i := 597) (by decide +kernel))
set_option maxRecDepth 20000 in
theorem k_598 : (Cond.privateMethod ({ cls := "StitchDesk$Planner", name := "changesAfter", desc := "(II)I" } : MethodName)) ∈ lw_tbl := List.mem_append_right _ (List.mem_of_getElem? (i := 598) (by decide +kernel))
set_option maxRecDepth 20000 in
theorem k_599 : (Cond.instanceMethod ({ cls := "StitchDesk$Planner", name := "changesAfter", desc := "(II)I" } : MethodName)) ∈ lw_tbl := List.mem_append_right _ (List.mem_of_getElem? (i := 599) (by decide +kernel))
set_option maxRecDepth 20000 in
theorem k_600 : (Cond.code ({ cls := "StitchDesk$Planner", name := "changesAfter", desc := "(II)I" } : MethodName) prog_6_method_7_code (3 : Nat) (Option.some ClassFile.FieldType.int)) ∈ lw_tbl := List.mem_append_right _ (List.mem_of_getElem? (i := 600) (by decide +kernel))
set_option maxRecDepth 20000 in
theorem k_601 : (Cond.methodLink "StitchDesk$Planner" (64 : Nat) ({ cls := "StitchDesk$Planner", name := "weigh", desc := "(III)V" } : MethodName)) ∈ lw_tbl := List.mem_append_right _ (List.mem_of_getElem? (i := 601) (by decide +kernel))
set_option maxRecDepth 20000 in
theorem k_602 : (Cond.privateMethod ({ cls := "StitchDesk$Planner", name := "weigh", desc := "(III)V" } : MethodName)) ∈ lw_tbl := List.mem_append_right _ (List.mem_of_getElem? (i := 602) (by decide +kernel))
set_option maxRecDepth 20000 in
theorem k_603 : (Cond.instanceMethod ({ cls := "StitchDesk$Planner", name := "weigh", desc := "(III)V" } : MethodName)) ∈ lw_tbl := List.mem_append_right _ (List.mem_of_getElem? (i := 603) (by decide +kernel))
set_option maxRecDepth 20000 in
theorem k_604 : (Cond.code ({ cls := "StitchDesk$Planner", name := "weigh", desc := "(III)V" } : MethodName) prog_6_method_5_code (4 : Nat) (Option.none : Option ClassFile.FieldType)) ∈ lw_tbl := List.mem_append_right _ (List.mem_of_getElem? (i := 604) (by decide +kernel))
set_option maxRecDepth 20000 in
theorem k_605 : (Cond.methodLink "StitchDesk$Planner" (44 : Nat) ({ cls := "StitchDesk$Planner", name := "choose", desc := "([I)V" } : MethodName)) ∈ lw_tbl := List.mem_append_right _ (List.mem_of_getElem? (i := 605) (by decide +kernel))
set_option maxRecDepth 20000 in
theorem k_606 : (Cond.privateMethod ({ cls := "StitchDesk$Planner", name := "choose", desc := "([I)V" } : MethodName)) ∈ lw_tbl := List.mem_append_right _ (List.mem_of_getElem? (i := 606) (by decide +kernel))
set_option maxRecDepth 20000 in
theorem k_607 : (Cond.instanceMethod ({ cls := "StitchDesk$Planner", name := "choose", desc := "([I)V" } : MethodName)) ∈ lw_tbl := List.mem_append_right _ (List.mem_of_getElem? (i := 607) (by decide +kernel))
set_option maxRecDepth 20000 in
theorem k_608 : (Cond.code ({ cls := "StitchDesk$Planner", name := "choose", desc := "([I)V" } : MethodName) prog_6_method_8_code (8 : Nat) (Option.none : Option ClassFile.FieldType)) ∈ lw_tbl := List.mem_append_right _ (List.mem_of_getElem? (i := 608) (by decide +kernel))
set_option maxRecDepth 20000 in
theorem k_609 : (Cond.methodLink "StitchDeskLaw" (112 : Nat) ({ cls := "StitchDesk", name := "order", desc := "(I)I" } : MethodName)) ∈ lw_tbl := List.mem_append_right _ (List.mem_of_getElem? (i := 609) (by decide +kernel))
set_option maxRecDepth 20000 in
theorem k_610 : (Cond.instanceMethod ({ cls := "StitchDesk", name := "order", desc := "(I)I" } : MethodName)) ∈ lw_tbl := List.mem_append_right _ (List.mem_of_getElem? (i := 610) (by decide +kernel))
set_option maxRecDepth 20000 in
theorem k_611 : (Cond.selects "StitchDesk" ({ cls := "StitchDesk", name := "order", desc := "(I)I" } : MethodName) ({ cls := "StitchDesk", name := "order", desc := "(I)I" } : MethodName)) ∈ lw_tbl := List.mem_append_right _ (List.mem_of_getElem? (i := 611) (by decide +kernel))
set_option maxRecDepth 20000 in
theorem k_612 : (Cond.code ({ cls := "StitchDesk", name := "order", desc := "(I)I" } : MethodName) prog_1_method_15_code (2 : Nat) (Option.some ClassFile.FieldType.int)) ∈ lw_tbl := List.mem_append_right _ (List.mem_of_getElem? (i := 612) (by decide +kernel))
set_option maxRecDepth 20000 in
theorem k_613 : (Cond.methodLink "StitchDesk" (76 : Nat) ({ cls := "StitchDesk", name := "isBelow", desc := "(II)Z" } : MethodName)) ∈ lw_tbl := List.mem_append_right _ (List.mem_of_getElem? (i := 613) (by decide +kernel))
set_option maxRecDepth 20000 in
theorem k_614 : (Cond.static ({ cls := "StitchDesk", name := "isBelow", desc := "(II)Z" } : MethodName)) ∈ lw_tbl := List.mem_append_right _ (List.mem_of_getElem? (i := 614) (by decide +kernel))
set_option maxRecDepth 20000 in
theorem k_615 : (Cond.code ({ cls := "StitchDesk", name := "isBelow", desc := "(II)Z" } : MethodName) prog_1_method_21_code (2 : Nat) (Option.some ClassFile.FieldType.boolean)) ∈ lw_tbl := List.mem_append_right _ (List.mem_of_getElem? (i := 615) (by decide +kernel))
set_option maxRecDepth 20000 in
theorem k_616 : (Cond.methodLink "StitchDeskLaw" (116 : Nat) ({ cls := "StitchDesk", name := "thread", desc := "(I)I" } : MethodName)) ∈ lw_tbl := List.mem_append_right _ (List.mem_of_getElem? (i := 616) (by decide +kernel))
set_option maxRecDepth 20000 in
theorem k_617 : (Cond.instanceMethod ({ cls := "StitchDesk", name := "thread", desc := "(I)I" } : MethodName)) ∈ lw_tbl := List.mem_append_right _ (List.mem_of_getElem? (i := 617) (by decide +kernel))
set_option maxRecDepth 20000 in
theorem k_618 : (Cond.selects "StitchDesk" ({ cls := "StitchDesk", name := "thread", desc := "(I)I" } : MethodName) ({ cls := "StitchDesk", name := "thread", desc := "(I)I" } : MethodName)) ∈ lw_tbl := List.mem_append_right _ (List.mem_of_getElem? (i := 618) (by decide +kernel))
set_option maxRecDepth 20000 in
theorem k_619 : (Cond.code ({ cls := "StitchDesk", name := "thread", desc := "(I)I" } : MethodName) prog_1_method_16_code (2 : Nat) (Option.some ClassFile.FieldType.int)) ∈ lw_tbl := List.mem_append_right _ (List.mem_of_getElem? (i := 619) (by decide +kernel))
set_option maxRecDepth 20000 in
theorem k_620 : (Cond.methodLinkNest "StitchDesk" (241 : Nat) ({ cls := "StitchDesk$Path", name := "threadBehind", desc := "(I)I" } : MethodName) "StitchDesk") ∈ lw_tbl := List.mem_append_right _ (List.mem_of_getElem? (i := 620) (by decide +kernel))
set_option maxRecDepth 20000 in
theorem k_621 : (Cond.privateMethod ({ cls := "StitchDesk$Path", name := "threadBehind", desc := "(I)I" } : MethodName)) ∈ lw_tbl := List.mem_append_right _ (List.mem_of_getElem? (i := 621) (by decide +kernel))
set_option maxRecDepth 20000 in
theorem k_622 : (Cond.instanceMethod ({ cls := "StitchDesk$Path", name := "threadBehind", desc := "(I)I" } : MethodName)) ∈ lw_tbl := List.mem_append_right _ (List.mem_of_getElem? (i := 622) (by decide +kernel))
set_option maxRecDepth 20000 in
theorem k_623 : (Cond.code ({ cls := "StitchDesk$Path", name := "threadBehind", desc := "(I)I" } : MethodName) prog_4_method_12_code (5 : Nat) (Option.some ClassFile.FieldType.int)) ∈ lw_tbl := List.mem_append_right _ (List.mem_of_getElem? (i := 623) (by decide +kernel))
set_option maxRecDepth 20000 in
theorem k_624 : (Cond.methodLink "StitchDesk$Path" (23 : Nat) ({ cls := "StitchDesk$Path", name := "kind", desc := "(I)I" } : MethodName)) ∈ lw_tbl := List.mem_append_right _ (List.mem_of_getElem? (i := 624) (by decide +kernel))
set_option maxRecDepth 20000 in
theorem k_625 : (Cond.privateMethod ({ cls := "StitchDesk$Path", name := "kind", desc := "(I)I" } : MethodName)) ∈ lw_tbl := List.mem_append_right _ (List.mem_of_getElem? (i := 625) (by decide +kernel))
set_option maxRecDepth 20000 in
theorem k_626 : (Cond.instanceMethod ({ cls := "StitchDesk$Path", name := "kind", desc := "(I)I" } : MethodName)) ∈ lw_tbl := List.mem_append_right _ (List.mem_of_getElem? (i := 626) (by decide +kernel))
set_option maxRecDepth 20000 in
theorem k_627 : (Cond.code ({ cls := "StitchDesk$Path", name := "kind", desc := "(I)I" } : MethodName) prog_4_method_6_code (2 : Nat) (Option.some ClassFile.FieldType.int)) ∈ lw_tbl := List.mem_append_right _ (List.mem_of_getElem? (i := 627) (by decide +kernel))
set_option maxRecDepth 20000 in
theorem k_628 : (Cond.methodLink "StitchDesk$Path" (33 : Nat) ({ cls := "StitchDesk$Path", name := "dx", desc := "(I)I" } : MethodName)) ∈ lw_tbl := List.mem_append_right _ (List.mem_of_getElem? (i := 628) (by decide +kernel))
set_option maxRecDepth 20000 in
theorem k_629 : (Cond.privateMethod ({ cls := "StitchDesk$Path", name := "dx", desc := "(I)I" } : MethodName)) ∈ lw_tbl := List.mem_append_right _ (List.mem_of_getElem? (i := 629) (by decide +kernel))
set_option maxRecDepth 20000 in
theorem k_630 : (Cond.instanceMethod ({ cls := "StitchDesk$Path", name := "dx", desc := "(I)I" } : MethodName)) ∈ lw_tbl := List.mem_append_right _ (List.mem_of_getElem? (i := 630) (by decide +kernel))
set_option maxRecDepth 20000 in
theorem k_631 : (Cond.code ({ cls := "StitchDesk$Path", name := "dx", desc := "(I)I" } : MethodName) prog_4_method_4_code (2 : Nat) (Option.some ClassFile.FieldType.int)) ∈ lw_tbl := List.mem_append_right _ (List.mem_of_getElem? (i := 631) (by decide +kernel))
set_option maxRecDepth 20000 in
theorem k_632 : (Cond.methodLink "StitchDesk$Path" (27 : Nat) ({ cls := "StitchDesk$Path", name := "dy", desc := "(I)I" } : MethodName)) ∈ lw_tbl := List.mem_append_right _ (List.mem_of_getElem? (i := 632) (by decide +kernel))
set_option maxRecDepth 20000 in
theorem k_633 : (Cond.privateMethod ({ cls := "StitchDesk$Path", name := "dy", desc := "(I)I" } : MethodName)) ∈ lw_tbl := List.mem_append_right _ (List.mem_of_getElem? (i := 633) (by decide +kernel))
set_option maxRecDepth 20000 in
theorem k_634 : (Cond.instanceMethod ({ cls := "StitchDesk$Path", name := "dy", desc := "(I)I" } : MethodName)) ∈ lw_tbl := List.mem_append_right _ (List.mem_of_getElem? (i := 634) (by decide +kernel))
set_option maxRecDepth 20000 in
theorem k_635 : (Cond.code ({ cls := "StitchDesk$Path", name := "dy", desc := "(I)I" } : MethodName) prog_4_method_5_code (2 : Nat) (Option.some ClassFile.FieldType.int)) ∈ lw_tbl := List.mem_append_right _ (List.mem_of_getElem? (i := 635) (by decide +kernel))
set_option maxRecDepth 20000 in
theorem k_636 : (Cond.methodLink "StitchDesk$Path" (44 : Nat) ({ cls := "StitchDesk$Path", name := "rootUp", desc := "(II)I" } : MethodName)) ∈ lw_tbl := List.mem_append_right _ (List.mem_of_getElem? (i := 636) (by decide +kernel))
set_option maxRecDepth 20000 in
theorem k_637 : (Cond.static ({ cls := "StitchDesk$Path", name := "rootUp", desc := "(II)I" } : MethodName)) ∈ lw_tbl := List.mem_append_right _ (List.mem_of_getElem? (i := 637) (by decide +kernel))
set_option maxRecDepth 20000 in
theorem k_638 : (Cond.code ({ cls := "StitchDesk$Path", name := "rootUp", desc := "(II)I" } : MethodName) prog_4_method_13_code (5 : Nat) (Option.some ClassFile.FieldType.int)) ∈ lw_tbl := List.mem_append_right _ (List.mem_of_getElem? (i := 638) (by decide +kernel))
set_option maxRecDepth 20000 in
theorem k_639 : (Cond.methodLink "StitchDesk$Path" (48 : Nat) ({ cls := "java/lang/Math", name := "abs", desc := "(I)I" } : MethodName)) ∈ lw_tbl := List.mem_append_right _ (List.mem_of_getElem? (i := 639) (by decide +kernel))
set_option maxRecDepth 20000 in
theorem k_640 : (Cond.methodLink "StitchDesk$Path" (53 : Nat) ({ cls := "java/lang/Math", name := "max", desc := "(II)I" } : MethodName)) ∈ lw_tbl := List.mem_append_right _ (List.mem_of_getElem? (i := 640) (by decide +kernel))
set_option maxRecDepth 20000 in
theorem k_641 : (Cond.methodLink "StitchDeskLaw" (126 : Nat) ({ cls := "StitchDesk", name := "hoop", desc := "(II)Z" } : MethodName)) ∈ lw_tbl := List.mem_append_right _ (List.mem_of_getElem? (i := 641) (by decide +kernel))
set_option maxRecDepth 20000 in
theorem k_642 : (Cond.instanceMethod ({ cls := "StitchDesk", name := "hoop", desc := "(II)Z" } : MethodName)) ∈ lw_tbl := List.mem_append_right _ (List.mem_of_getElem? (i := 642) (by decide +kernel))
set_option maxRecDepth 20000 in
theorem k_643 : (Cond.selects "StitchDesk" ({ cls := "StitchDesk", name := "hoop", desc := "(II)Z" } : MethodName) ({ cls := "StitchDesk", name := "hoop", desc := "(II)Z" } : MethodName)) ∈ lw_tbl := List.mem_append_right _ (List.mem_of_getElem? (i := 643) (by decide +kernel))
set_option maxRecDepth 20000 in
theorem k_644 : (Cond.code ({ cls := "StitchDesk", name := "hoop", desc := "(II)Z" } : MethodName) prog_1_method_19_code (3 : Nat) (Option.some ClassFile.FieldType.boolean)) ∈ lw_tbl := List.mem_append_right _ (List.mem_of_getElem? (i := 644) (by decide +kernel))
set_option maxRecDepth 20000 in
theorem k_645 : (Cond.methodLinkNest "StitchDesk" (253 : Nat) ({ cls := "StitchDesk$Path", name := "fits", desc := "(II)Z" } : MethodName) "StitchDesk") ∈ lw_tbl := List.mem_append_right _ (List.mem_of_getElem? (i := 645) (by decide +kernel))
set_option maxRecDepth 20000 in
theorem k_646 : (Cond.privateMethod ({ cls := "StitchDesk$Path", name := "fits", desc := "(II)Z" } : MethodName)) ∈ lw_tbl := List.mem_append_right _ (List.mem_of_getElem? (i := 646) (by decide +kernel))
set_option maxRecDepth 20000 in
theorem k_647 : (Cond.instanceMethod ({ cls := "StitchDesk$Path", name := "fits", desc := "(II)Z" } : MethodName)) ∈ lw_tbl := List.mem_append_right _ (List.mem_of_getElem? (i := 647) (by decide +kernel))
set_option maxRecDepth 20000 in
theorem k_648 : (Cond.code ({ cls := "StitchDesk$Path", name := "fits", desc := "(II)Z" } : MethodName) prog_4_method_14_code (10 : Nat) (Option.some ClassFile.FieldType.boolean)) ∈ lw_tbl := List.mem_append_right _ (List.mem_of_getElem? (i := 648) (by decide +kernel))
set_option maxRecDepth 20000 in
theorem k_649 : (Cond.methodLink "StitchDesk$Path" (56 : Nat) ({ cls := "java/lang/Math", name := "min", desc := "(II)I" } : MethodName)) ∈ lw_tbl := List.mem_append_right _ (List.mem_of_getElem? (i := 649) (by decide +kernel))
set_option maxRecDepth 20000 in
theorem k_650 : (Cond.methodLink "StitchDeskLaw" (131 : Nat) ({ cls := "StitchDesk", name := "stop", desc := "(I)I" } : MethodName)) ∈ lw_tbl := List.mem_append_right _ (List.mem_of_getElem? (i := 650) (by decide +kernel))
set_option maxRecDepth 20000 in
theorem k_651 : (Cond.instanceMethod ({ cls := "StitchDesk", name := "stop", desc := "(I)I" } : MethodName)) ∈ lw_tbl := List.mem_append_right _ (List.mem_of_getElem? (i := 651) (by decide +kernel))
set_option maxRecDepth 20000 in
theorem k_652 : (Cond.selects "StitchDesk" ({ cls := "StitchDesk", name := "stop", desc := "(I)I" } : MethodName) ({ cls := "StitchDesk", name := "stop", desc := "(I)I" } : MethodName)) ∈ lw_tbl := List.mem_append_right _ (List.mem_of_getElem? (i := 652) (by decide +kernel))
set_option maxRecDepth 20000 in
theorem k_653 : (Cond.code ({ cls := "StitchDesk", name := "stop", desc := "(I)I" } : MethodName) prog_1_method_20_code (3 : Nat) (Option.some ClassFile.FieldType.int)) ∈ lw_tbl := List.mem_append_right _ (List.mem_of_getElem? (i := 653) (by decide +kernel))
set_option maxRecDepth 20000 in
theorem k_654 : (Cond.methodLinkNest "StitchDesk" (214 : Nat) ({ cls := "StitchDesk$Path", name := "kind", desc := "(I)I" } : MethodName) "StitchDesk") ∈ lw_tbl := List.mem_append_right _ (List.mem_of_getElem? (i := 654) (by decide +kernel))
set_option maxRecDepth 20000 in
theorem k_655 : (Cond.methodLink "StitchDeskLaw" (58 : Nat) ({ cls := "StitchDeskLaw", name := "begin", desc := "(LStitchDesk;IIII)I" } : MethodName)) ∈ lw_tbl := List.mem_append_right _ (List.mem_of_getElem? (i := 655) (by decide +kernel))
set_option maxRecDepth 20000 in
theorem k_656 : (Cond.static ({ cls := "StitchDeskLaw", name := "begin", desc := "(LStitchDesk;IIII)I" } : MethodName)) ∈ lw_tbl := List.mem_append_right _ (List.mem_of_getElem? (i := 656) (by decide +kernel))
set_option maxRecDepth 20000 in
theorem k_657 : (Cond.codeWith ({ cls := "StitchDeskLaw", name := "begin", desc := "(LStitchDesk;IIII)I" } : MethodName) method_3_code (6 : Nat) (Option.some ClassFile.FieldType.int) [((0 : Nat), (9 : Nat), (12 : Nat), (13 : Nat)), ((0 : Nat), (9 : Nat), (16 : Nat), (15 : Nat)), ((0 : Nat), (9 : Nat), (20 : Nat), (17 : Nat))]) ∈ lw_tbl := List.mem_append_right _ (List.mem_of_getElem? (i := 657) (by decide +kernel))
set_option maxRecDepth 20000 in
theorem k_658 : (Cond.classLink "StitchDeskLaw" (13 : Nat) "java/lang/IllegalStateException") ∈ lw_tbl := List.mem_append_right _ (List.mem_of_getElem? (i := 658) (by decide +kernel))
set_option maxRecDepth 20000 in
theorem k_659 : (Cond.classLink "StitchDeskLaw" (15 : Nat) "java/lang/UnsupportedOperationException") ∈ lw_tbl := List.mem_append_right _ (List.mem_of_getElem? (i := 659) (by decide +kernel))
set_option maxRecDepth 20000 in
theorem k_660 : (Cond.classLink "StitchDeskLaw" (17 : Nat) "java/lang/IllegalArgumentException") ∈ lw_tbl := List.mem_append_right _ (List.mem_of_getElem? (i := 660) (by decide +kernel))
set_option maxRecDepth 20000 in
theorem k_661 : (Cond.methodLink "StitchDeskLaw" (7 : Nat) ({ cls := "StitchDesk", name := "begin", desc := "(IIII)V" } : MethodName)) ∈ lw_tbl := List.mem_append_right _ (List.mem_of_getElem? (i := 661) (by decide +kernel))
set_option maxRecDepth 20000 in
theorem k_662 : (Cond.instanceMethod ({ cls := "StitchDesk", name := "begin", desc := "(IIII)V" } : MethodName)) ∈ lw_tbl := List.mem_append_right _ (List.mem_of_getElem? (i := 662) (by decide +kernel))
set_option maxRecDepth 20000 in
theorem k_663 : (Cond.selects "StitchDesk" ({ cls := "StitchDesk", name := "begin", desc := "(IIII)V" } : MethodName) ({ cls := "StitchDesk", name := "begin", desc := "(IIII)V" } : MethodName)) ∈ lw_tbl := List.mem_append_right _ (List.mem_of_getElem? (i := 663) (by decide +kernel))
set_option maxRecDepth 20000 in
theorem k_664 : (Cond.code ({ cls := "StitchDesk", name := "begin", desc := "(IIII)V" } : MethodName) prog_1_method_2_code (6 : Nat) (Option.none : Option ClassFile.FieldType)) ∈ lw_tbl := List.mem_append_right _ (List.mem_of_getElem? (i := 664) (by decide +kernel))
set_option maxRecDepth 20000 in
theorem k_665 : (Cond.classLink "StitchDesk" (60 : Nat) "java/lang/IllegalStateException") ∈ lw_tbl := List.mem_append_right _ (List.mem_of_getElem? (i := 665) (by decide +kernel))
set_option maxRecDepth 20000 in
theorem k_666 : (Cond.instantiable "java/lang/IllegalStateException" (6 : Nat)) ∈ lw_tbl := List.mem_append_right _ (List.mem_of_getElem? (i := 666) (by decide +kernel))
set_option maxRecDepth 20000 in
theorem k_667 : (Cond.castable "java/lang/IllegalStateException" "java/lang/IllegalStateException") ∈ lw_tbl := List.mem_append_right _ (List.mem_of_getElem? (i := 667) (by decide +kernel))
set_option maxRecDepth 20000 in
theorem k_668 : (Cond.declares ({ cls := "java/lang/RuntimeException", name := "<init>", desc := "()V" } : MethodName)) ∈ lw_tbl := List.mem_append_right _ (List.mem_of_getElem? (i := 668) (by decide +kernel))
set_option maxRecDepth 20000 in
theorem k_669 : (Cond.declares ({ cls := "java/lang/RuntimeException", name := "<init>", desc := "(Ljava/lang/String;)V" } : MethodName)) ∈ lw_tbl := List.mem_append_right _ (List.mem_of_getElem? (i := 669) (by decide +kernel))
set_option maxRecDepth 20000 in
theorem k_670 : (Cond.declares ({ cls := "java/lang/Exception", name := "<init>", desc := "()V" } : MethodName)) ∈ lw_tbl := List.mem_append_right _ (List.mem_of_getElem? (i := 670) (by decide +kernel))
set_option maxRecDepth 20000 in
theorem k_671 : (Cond.declares ({ cls := "java/lang/Exception", name := "<init>", desc := "(Ljava/lang/String;)V" } : MethodName)) ∈ lw_tbl := List.mem_append_right _ (List.mem_of_getElem? (i := 671) (by decide +kernel))
set_option maxRecDepth 20000 in
theorem k_672 : (Cond.declares ({ cls := "java/lang/Throwable", name := "<init>", desc := "()V" } : MethodName)) ∈ lw_tbl := List.mem_append_right _ (List.mem_of_getElem? (i := 672) (by decide +kernel))
set_option maxRecDepth 20000 in
theorem k_673 : (Cond.declares ({ cls := "java/lang/Throwable", name := "<init>", desc := "(Ljava/lang/String;)V" } : MethodName)) ∈ lw_tbl := List.mem_append_right _ (List.mem_of_getElem? (i := 673) (by decide +kernel))
set_option maxRecDepth 20000 in
theorem k_674 : (Cond.selects "java/lang/IllegalStateException" ({ cls := "java/lang/Throwable", name := "fillInStackTrace", desc := "(I)Ljava/lang/Throwable;" } : MethodName) ({ cls := "java/lang/Throwable", name := "fillInStackTrace", desc := "(I)Ljava/lang/Throwable;" } : MethodName)) ∈ lw_tbl := List.mem_append_right _ (List.mem_of_getElem? (i := 674) (by decide +kernel))
set_option maxRecDepth 20000 in
theorem k_675 : (Cond.selects "java/lang/IllegalStateException" ({ cls := "java/lang/Throwable", name := "fillInStackTrace", desc := "()Ljava/lang/Throwable;" } : MethodName) ({ cls := "java/lang/Throwable", name := "fillInStackTrace", desc := "()Ljava/lang/Throwable;" } : MethodName)) ∈ lw_tbl := List.mem_append_right _ (List.mem_of_getElem? (i := 675) (by decide +kernel))
set_option maxRecDepth 20000 in
theorem k_676 : (Cond.lays "java/lang/IllegalStateException" "java/lang/Throwable" "cause" "Ljava/lang/Throwable;") ∈ lw_tbl := List.mem_append_right _ (List.mem_of_getElem? (i := 676) (by decide +kernel))
set_option maxRecDepth 20000 in
theorem k_677 : (Cond.lays "java/lang/Throwable" "java/lang/Throwable" "cause" "Ljava/lang/Throwable;") ∈ lw_tbl := List.mem_append_right _ (List.mem_of_getElem? (i := 677) (by decide +kernel))
set_option maxRecDepth 20000 in
theorem k_678 : (Cond.lays "java/lang/IllegalStateException" "java/lang/Throwable" "stackTrace" "[Ljava/lang/StackTraceElement;") ∈ lw_tbl := List.mem_append_right _ (List.mem_of_getElem? (i := 678) (by decide +kernel))
set_option maxRecDepth 20000 in
theorem k_679 : (Cond.lays "java/lang/Throwable" "java/lang/Throwable" "stackTrace" "[Ljava/lang/StackTraceElement;") ∈ lw_tbl := List.mem_append_right _ (List.mem_of_getElem? (i := 679) (by decide +kernel))
set_option maxRecDepth 20000 in
theorem k_680 : (Cond.lays "java/lang/IllegalStateException" "java/lang/Throwable" "suppressedExceptions" "Ljava/util/List;") ∈ lw_tbl := List.mem_append_right _ (List.mem_of_getElem? (i := 680) (by decide +kernel))
set_option maxRecDepth 20000 in
theorem k_681 : (Cond.lays "java/lang/Throwable" "java/lang/Throwable" "suppressedExceptions" "Ljava/util/List;") ∈ lw_tbl := List.mem_append_right _ (List.mem_of_getElem? (i := 681) (by decide +kernel))
set_option maxRecDepth 20000 in
theorem k_682 : (Cond.lays "java/lang/IllegalStateException" "java/lang/Throwable" "detailMessage" "Ljava/lang/String;") ∈ lw_tbl := List.mem_append_right _ (List.mem_of_getElem? (i := 682) (by decide +kernel))
set_option maxRecDepth 20000 in
theorem k_683 : (Cond.lays "java/lang/Throwable" "java/lang/Throwable" "detailMessage" "Ljava/lang/String;") ∈ lw_tbl := List.mem_append_right _ (List.mem_of_getElem? (i := 683) (by decide +kernel))
set_option maxRecDepth 20000 in
theorem k_684 : (Cond.lays "java/lang/IllegalStateException" "java/lang/Throwable" "backtrace" "Ljava/lang/Object;") ∈ lw_tbl := List.mem_append_right _ (List.mem_of_getElem? (i := 684) (by decide +kernel))
set_option maxRecDepth 20000 in
theorem k_685 : (Cond.lays "java/lang/Throwable" "java/lang/Throwable" "backtrace" "Ljava/lang/Object;") ∈ lw_tbl := List.mem_append_right _ (List.mem_of_getElem? (i := 685) (by decide +kernel))
set_option maxRecDepth 20000 in
theorem k_686 : (Cond.fieldLink "java/lang/Throwable" (198 : Nat) "java/lang/Throwable" "backtrace" "Ljava/lang/Object;") ∈ lw_tbl := List.mem_append_right _ (List.mem_of_getElem? (i := 686) (by decide +kernel))
set_option maxRecDepth 20000 in
theorem k_687 : (Cond.superclass "java/lang/Throwable" "java/lang/Object") ∈ lw_tbl := List.mem_append_right _ (List.mem_of_getElem? (i := 687) (by decide +kernel))
set_option maxRecDepth 20000 in
theorem k_688 : (Cond.instanceMethod ({ cls := "java/lang/Throwable", name := "<init>", desc := "()V" } : MethodName)) ∈ lw_tbl := List.mem_append_right _ (List.mem_of_getElem? (i := 688) (by decide +kernel))
set_option maxRecDepth 20000 in
theorem k_689 : (Cond.code ({ cls := "java/lang/Throwable", name := "<init>", desc := "()V" } : MethodName) prog_22_method_1_code (1 : Nat) (Option.none : Option ClassFile.FieldType)) ∈ lw_tbl := List.mem_append_right _ (List.mem_of_getElem? (i := 689) (by decide +kernel))
set_option maxRecDepth 20000 in
theorem k_690 : (Cond.methodLink "java/lang/Throwable" (1 : Nat) ({ cls := "java/lang/Object", name := "<init>", desc := "()V" } : MethodName)) ∈ lw_tbl := List.mem_append_right _ (List.mem_of_getElem? (i := 690) (by decide +kernel))
set_option maxRecDepth 20000 in
theorem k_691 : (Cond.fieldLink "java/lang/Throwable" (13 : Nat) "java/lang/Throwable" "UNASSIGNED_STACK" "[Ljava/lang/StackTraceElement;") ∈ lw_tbl := List.mem_append_right _ (List.mem_of_getElem? (i := 691) (by decide +kernel))
set_option maxRecDepth 20000 in
theorem k_692 : (Cond.laysStatic "java/lang/Throwable" "UNASSIGNED_STACK" "[Ljava/lang/StackTraceElement;") ∈ lw_tbl := List.mem_append_right _ (List.mem_of_getElem? (i := 692) (by decide +kernel))
set_option maxRecDepth 20000 in
theorem k_693 : (Cond.fieldLink "java/lang/Throwable" (20 : Nat) "java/lang/Throwable" "SUPPRESSED_SENTINEL" "Ljava/util/List;") ∈ lw_tbl := List.mem_append_right _ (List.mem_of_getElem? (i := 693) (by decide +kernel))
set_option maxRecDepth 20000 in
theorem k_694 : (Cond.laysStatic "java/lang/Throwable" "SUPPRESSED_SENTINEL" "Ljava/util/List;") ∈ lw_tbl := List.mem_append_right _ (List.mem_of_getElem? (i := 694) (by decide +kernel))
set_option maxRecDepth 20000 in
theorem k_695 : (Cond.methodLink "java/lang/Throwable" (27 : Nat) ({ cls := "java/lang/Throwable", name := "fillInStackTrace", desc := "()Ljava/lang/Throwable;" } : MethodName)) ∈ lw_tbl := List.mem_append_right _ (List.mem_of_getElem? (i := 695) (by decide +kernel))
set_option maxRecDepth 20000 in
theorem k_696 : (Cond.instanceMethod ({ cls := "java/lang/Throwable", name := "fillInStackTrace", desc := "()Ljava/lang/Throwable;" } : MethodName)) ∈ lw_tbl := List.mem_append_right _ (List.mem_of_getElem? (i := 696) (by decide +kernel))
set_option maxRecDepth 20000 in
theorem k_697 : (Cond.sameMethod "java/lang/Throwable" "java/lang/Throwable" "fillInStackTrace" "()Ljava/lang/Throwable;") ∈ lw_tbl := List.mem_append_right _ (List.mem_of_getElem? (i := 697) (by decide +kernel))
set_option maxRecDepth 20000 in
theorem k_698 : (Cond.selects "java/lang/IllegalArgumentException" ({ cls := "java/lang/Throwable", name := "fillInStackTrace", desc := "()Ljava/lang/Throwable;" } : MethodName) ({ cls := "java/lang/Throwable", name := "fillInStackTrace", desc := "()Ljava/lang/Throwable;" } : MethodName)) ∈ lw_tbl := List.mem_append_right _ (List.mem_of_getElem? (i := 698) (by decide +kernel))
set_option maxRecDepth 20000 in
theorem k_699 : (Cond.selects "java/lang/IndexOutOfBoundsException" ({ cls := "java/lang/Throwable", name := "fillInStackTrace", desc := "()Ljava/lang/Throwable;" } : MethodName) ({ cls := "java/lang/Throwable", name := "fillInStackTrace", desc := "()Ljava/lang/Throwable;" } : MethodName)) ∈ lw_tbl := List.mem_append_right _ (List.mem_of_getElem? (i := 699) (by decide +kernel))
set_option maxRecDepth 20000 in
theorem k_700 : (Cond.selects "java/lang/UnsupportedOperationException" ({ cls := "java/lang/Throwable", name := "fillInStackTrace", desc := "()Ljava/lang/Throwable;" } : MethodName) ({ cls := "java/lang/Throwable", name := "fillInStackTrace", desc := "()Ljava/lang/Throwable;" } : MethodName)) ∈ lw_tbl := List.mem_append_right _ (List.mem_of_getElem? (i := 700) (by decide +kernel))
set_option maxRecDepth 20000 in
theorem k_701 : (Cond.selects "java/util/NoSuchElementException" ({ cls := "java/lang/Throwable", name := "fillInStackTrace", desc := "()Ljava/lang/Throwable;" } : MethodName) ({ cls := "java/lang/Throwable", name := "fillInStackTrace", desc := "()Ljava/lang/Throwable;" } : MethodName)) ∈ lw_tbl := List.mem_append_right _ (List.mem_of_getElem? (i := 701) (by decide +kernel))
set_option maxRecDepth 20000 in
theorem k_702 : (Cond.codeSync ({ cls := "java/lang/Throwable", name := "fillInStackTrace", desc := "()Ljava/lang/Throwable;" } : MethodName) prog_22_method_18_code (1 : Nat) (Option.some (ClassFile.FieldType.object "java/lang/Throwable"))) ∈ lw_tbl := List.mem_append_right _ (List.mem_of_getElem? (i := 702) (by decide +kernel))
set_option maxRecDepth 20000 in
theorem k_703 : (Cond.methodLink "java/lang/Throwable" (202 : Nat) ({ cls := "java/lang/Throwable", name := "fillInStackTrace", desc := "(I)Ljava/lang/Throwable;" } : MethodName)) ∈ lw_tbl := List.mem_append_right _ (List.mem_of_getElem? (i := 703) (by decide +kernel))
set_option maxRecDepth 20000 in
theorem k_704 : (Cond.privateMethod ({ cls := "java/lang/Throwable", name := "fillInStackTrace", desc := "(I)Ljava/lang/Throwable;" } : MethodName)) ∈ lw_tbl := List.mem_append_right _ (List.mem_of_getElem? (i := 704) (by decide +kernel))
set_option maxRecDepth 20000 in
theorem k_705 : (Cond.instanceMethod ({ cls := "java/lang/Throwable", name := "fillInStackTrace", desc := "(I)Ljava/lang/Throwable;" } : MethodName)) ∈ lw_tbl := List.mem_append_right _ (List.mem_of_getElem? (i := 705) (by decide +kernel))
set_option maxRecDepth 20000 in
theorem k_706 : (Cond.instantiable "java/lang/Throwable" (6 : Nat)) ∈ lw_tbl := List.mem_append_right _ (List.mem_of_getElem? (i := 706) (by decide +kernel))
set_option maxRecDepth 20000 in
theorem k_707 : (Cond.native ({ cls := "java/lang/Throwable", name := "fillInStackTrace", desc := "(I)Ljava/lang/Throwable;" } : MethodName)) ∈ lw_tbl := List.mem_append_right _ (List.mem_of_getElem? (i := 707) (by decide +kernel))
set_option maxRecDepth 20000 in
theorem k_708 : (Cond.stringRef "StitchDesk" (62 : Nat) "a shape is open") ∈ lw_tbl := List.mem_append_right _ (List.mem_of_getElem? (i := 708) (by decide +kernel))
set_option maxRecDepth 20000 in
theorem k_709 : (Cond.methodLink "StitchDesk" (64 : Nat) ({ cls := "java/lang/IllegalStateException", name := "<init>", desc := "(Ljava/lang/String;)V" } : MethodName)) ∈ lw_tbl := List.mem_append_right _ (List.mem_of_getElem? (i := 709) (by decide +kernel))
set_option maxRecDepth 20000 in
theorem k_710 : (Cond.instanceMethod ({ cls := "java/lang/IllegalStateException", name := "<init>", desc := "(Ljava/lang/String;)V" } : MethodName)) ∈ lw_tbl := List.mem_append_right _ (List.mem_of_getElem? (i := 710) (by decide +kernel))
set_option maxRecDepth 20000 in
theorem k_711 : (Cond.code ({ cls := "java/lang/IllegalStateException", name := "<init>", desc := "(Ljava/lang/String;)V" } : MethodName) prog_16_method_2_code (2 : Nat) (Option.none : Option ClassFile.FieldType)) ∈ lw_tbl := List.mem_append_right _ (List.mem_of_getElem? (i := 711) (by decide +kernel))
set_option maxRecDepth 20000 in
theorem k_712 : (Cond.methodLink "java/lang/IllegalStateException" (7 : Nat) ({ cls := "java/lang/RuntimeException", name := "<init>", desc := "(Ljava/lang/String;)V" } : MethodName)) ∈ lw_tbl := List.mem_append_right _ (List.mem_of_getElem? (i := 712) (by decide +kernel))
set_option maxRecDepth 20000 in
theorem k_713 : (Cond.instanceMethod ({ cls := "java/lang/RuntimeException", name := "<init>", desc := "(Ljava/lang/String;)V" } : MethodName)) ∈ lw_tbl := List.mem_append_right _ (List.mem_of_getElem? (i := 713) (by decide +kernel))
set_option maxRecDepth 20000 in
theorem k_714 : (Cond.code ({ cls := "java/lang/RuntimeException", name := "<init>", desc := "(Ljava/lang/String;)V" } : MethodName) prog_20_method_2_code (2 : Nat) (Option.none : Option ClassFile.FieldType)) ∈ lw_tbl := List.mem_append_right _ (List.mem_of_getElem? (i := 714) (by decide +kernel))
set_option maxRecDepth 20000 in
theorem k_715 : (Cond.methodLink "java/lang/RuntimeException" (7 : Nat) ({ cls := "java/lang/Exception", name := "<init>", desc := "(Ljava/lang/String;)V" } : MethodName)) ∈ lw_tbl := List.mem_append_right _ (List.mem_of_getElem? (i := 715) (by decide +kernel))
set_option maxRecDepth 20000 in
theorem k_716 : (Cond.instanceMethod ({ cls := "java/lang/Exception", name := "<init>", desc := "(Ljava/lang/String;)V" } : MethodName)) ∈ lw_tbl := List.mem_append_right _ (List.mem_of_getElem? (i := 716) (by decide +kernel))
set_option maxRecDepth 20000 in
theorem k_717 : (Cond.code ({ cls := "java/lang/Exception", name := "<init>", desc := "(Ljava/lang/String;)V" } : MethodName) prog_14_method_2_code (2 : Nat) (Option.none : Option ClassFile.FieldType)) ∈ lw_tbl := List.mem_append_right _ (List.mem_of_getElem? (i := 717) (by decide +kernel))
set_option maxRecDepth 20000 in
theorem k_718 : (Cond.methodLink "java/lang/Exception" (7 : Nat) ({ cls := "java/lang/Throwable", name := "<init>", desc := "(Ljava/lang/String;)V" } : MethodName)) ∈ lw_tbl := List.mem_append_right _ (List.mem_of_getElem? (i := 718) (by decide +kernel))
set_option maxRecDepth 20000 in
theorem k_719 : (Cond.instanceMethod ({ cls := "java/lang/Throwable", name := "<init>", desc := "(Ljava/lang/String;)V" } : MethodName)) ∈ lw_tbl := List.mem_append_right _ (List.mem_of_getElem? (i := 719) (by decide +kernel))
set_option maxRecDepth 20000 in
theorem k_720 : (Cond.code ({ cls := "java/lang/Throwable", name := "<init>", desc := "(Ljava/lang/String;)V" } : MethodName) prog_22_method_2_code (2 : Nat) (Option.none : Option ClassFile.FieldType)) ∈ lw_tbl := List.mem_append_right _ (List.mem_of_getElem? (i := 720) (by decide +kernel))
set_option maxRecDepth 20000 in
theorem k_722 : (Cond.fieldLink "java/lang/Throwable" (31 : Nat) "java/lang/Throwable" "detailMessage" "Ljava/lang/String;") ∈ lw_tbl := List.mem_append_right _ (List.mem_of_getElem? (i := 722) (by decide +kernel))
set_option maxRecDepth 20000 in
theorem k_723 : (Cond.fieldLink "java/lang/Throwable" (7 : Nat) "java/lang/Throwable" "cause" "Ljava/lang/Throwable;") ∈ lw_tbl := List.mem_append_right _ (List.mem_of_getElem? (i := 723) (by decide +kernel))
set_option maxRecDepth 20000 in
theorem k_724 : (Cond.fieldLink "java/lang/Throwable" (17 : Nat) "java/lang/Throwable" "stackTrace" "[Ljava/lang/StackTraceElement;") ∈ lw_tbl := List.mem_append_right _ (List.mem_of_getElem? (i := 724) (by decide +kernel))
set_option maxRecDepth 20000 in
theorem k_725 : (Cond.fieldLink "java/lang/Throwable" (24 : Nat) "java/lang/Throwable" "suppressedExceptions" "Ljava/util/List;") ∈ lw_tbl := List.mem_append_right _ (List.mem_of_getElem? (i := 725) (by decide +kernel))
set_option maxRecDepth 20000 in
theorem k_726 : (Cond.soleField "java/lang/Throwable" "backtrace") ∈ lw_tbl := List.mem_append_right _ (List.mem_of_getElem? (i := 726) (by decide +kernel))
set_option maxRecDepth 20000 in
theorem k_727 : (Cond.soleField "java/lang/Throwable" "detailMessage") ∈ lw_tbl := List.mem_append_right _ (List.mem_of_getElem? (i := 727) (by decide +kernel))
set_option maxRecDepth 20000 in
theorem k_728 : (Cond.soleField "java/lang/Throwable" "cause") ∈ lw_tbl := List.mem_append_right _ (List.mem_of_getElem? (i := 728) (by decide +kernel))
set_option maxRecDepth 20000 in
theorem k_729 : (Cond.soleField "java/lang/Throwable" "stackTrace") ∈ lw_tbl := List.mem_append_right _ (List.mem_of_getElem? (i := 729) (by decide +kernel))
set_option maxRecDepth 20000 in
theorem k_730 : (Cond.lays "java/lang/IllegalStateException" "java/lang/Throwable" "depth" "I") ∈ lw_tbl := List.mem_append_right _ (List.mem_of_getElem? (i := 730) (by decide +kernel))
set_option maxRecDepth 20000 in
theorem k_731 : (Cond.soleField "java/lang/Throwable" "depth") ∈ lw_tbl := List.mem_append_right _ (List.mem_of_getElem? (i := 731) (by decide +kernel))
set_option maxRecDepth 20000 in
theorem k_732 : (Cond.soleField "java/lang/Throwable" "suppressedExceptions") ∈ lw_tbl := List.mem_append_right _ (List.mem_of_getElem? (i := 732) (by decide +kernel))
set_option maxRecDepth 20000 in
theorem k_733 : (Cond.superclass "java/lang/IllegalStateException" "java/lang/RuntimeException") ∈ lw_tbl := List.mem_append_right _ (List.mem_of_getElem? (i := 733) (by decide +kernel))
set_option maxRecDepth 20000 in
theorem k_734 : (Cond.arrayClass ClassFile.FieldType.byte) ∈ lw_tbl := List.mem_append_right _ (List.mem_of_getElem? (i := 734) (by decide +kernel))
set_option maxRecDepth 20000 in
theorem k_735 : (Cond.classLink "StitchDesk" (71 : Nat) "java/lang/UnsupportedOperationException") ∈ lw_tbl := List.mem_append_right _ (List.mem_of_getElem? (i := 735) (by decide +kernel))
set_option maxRecDepth 20000 in
theorem k_736 : (Cond.instantiable "java/lang/UnsupportedOperationException" (6 : Nat)) ∈ lw_tbl := List.mem_append_right _ (List.mem_of_getElem? (i := 736) (by decide +kernel))
set_option maxRecDepth 20000 in
theorem k_737 : (Cond.castable "java/lang/UnsupportedOperationException" "java/lang/UnsupportedOperationException") ∈ lw_tbl := List.mem_append_right _ (List.mem_of_getElem? (i := 737) (by decide +kernel))
set_option maxRecDepth 20000 in
theorem k_738 : (Cond.selects "java/lang/UnsupportedOperationException" ({ cls := "java/lang/Throwable", name := "fillInStackTrace", desc := "(I)Ljava/lang/Throwable;" } : MethodName) ({ cls := "java/lang/Throwable", name := "fillInStackTrace", desc := "(I)Ljava/lang/Throwable;" } : MethodName)) ∈ lw_tbl := List.mem_append_right _ (List.mem_of_getElem? (i := 738) (by decide +kernel))
set_option maxRecDepth 20000 in
theorem k_739 : (Cond.lays "java/lang/UnsupportedOperationException" "java/lang/Throwable" "cause" "Ljava/lang/Throwable;") ∈ lw_tbl := List.mem_append_right _ (List.mem_of_getElem? (i := 739) (by decide +kernel))
set_option maxRecDepth 20000 in
theorem k_740 : (Cond.lays "java/lang/UnsupportedOperationException" "java/lang/Throwable" "stackTrace" "[Ljava/lang/StackTraceElement;") ∈ lw_tbl := List.mem_append_right _ (List.mem_of_getElem? (i := 740) (by decide +kernel))
set_option maxRecDepth 20000 in
theorem k_741 : (Cond.lays "java/lang/UnsupportedOperationException" "java/lang/Throwable" "suppressedExceptions" "Ljava/util/List;") ∈ lw_tbl := List.mem_append_right _ (List.mem_of_getElem? (i := 741) (by decide +kernel))
set_option maxRecDepth 20000 in
theorem k_742 : (Cond.lays "java/lang/UnsupportedOperationException" "java/lang/Throwable" "detailMessage" "Ljava/lang/String;") ∈ lw_tbl := List.mem_append_right _ (List.mem_of_getElem? (i := 742) (by decide +kernel))
set_option maxRecDepth 20000 in
theorem k_743 : (Cond.lays "java/lang/UnsupportedOperationException" "java/lang/Throwable" "backtrace" "Ljava/lang/Object;") ∈ lw_tbl := List.mem_append_right _ (List.mem_of_getElem? (i := 743) (by decide +kernel))
set_option maxRecDepth 20000 in
theorem k_744 : (Cond.stringRef "StitchDesk" (73 : Nat) "there are ten shapes") ∈ lw_tbl := List.mem_append_right _ (List.mem_of_getElem? (i := 744) (by decide +kernel))
set_option maxRecDepth 20000 in
theorem k_745 : (Cond.methodLink "StitchDesk" (75 : Nat) ({ cls := "java/lang/UnsupportedOperationException", name := "<init>", desc := "(Ljava/lang/String;)V" } : MethodName)) ∈ lw_tbl := List.mem_append_right _ (List.mem_of_getElem? (i := 745) (by decide +kernel))
set_option maxRecDepth 20000 in
theorem k_746 : (Cond.instanceMethod ({ cls := "java/lang/UnsupportedOperationException", name := "<init>", desc := "(Ljava/lang/String;)V" } : MethodName)) ∈ lw_tbl := List.mem_append_right _ (List.mem_of_getElem? (i := 746) (by decide +kernel))
set_option maxRecDepth 20000 in
theorem k_747 : (Cond.code ({ cls := "java/lang/UnsupportedOperationException", name := "<init>", desc := "(Ljava/lang/String;)V" } : MethodName) prog_23_method_2_code (2 : Nat) (Option.none : Option ClassFile.FieldType)) ∈ lw_tbl := List.mem_append_right _ (List.mem_of_getElem? (i := 747) (by decide +kernel))
set_option maxRecDepth 20000 in
theorem k_748 : (Cond.methodLink "java/lang/UnsupportedOperationException" (7 : Nat) ({ cls := "java/lang/RuntimeException", name := "<init>", desc := "(Ljava/lang/String;)V" } : MethodName)) ∈ lw_tbl := List.mem_append_right _ (List.mem_of_getElem? (i := 748) (by decide +kernel))
set_option maxRecDepth 20000 in
theorem k_749 : (Cond.lays "java/lang/UnsupportedOperationException" "java/lang/Throwable" "depth" "I") ∈ lw_tbl := List.mem_append_right _ (List.mem_of_getElem? (i := 749) (by decide +kernel))
set_option maxRecDepth 20000 in
theorem k_750 : (Cond.superclass "java/lang/UnsupportedOperationException" "java/lang/RuntimeException") ∈ lw_tbl := List.mem_append_right _ (List.mem_of_getElem? (i := 750) (by decide +kernel))
set_option maxRecDepth 20000 in
theorem k_751 : (Cond.classLink "StitchDesk" (80 : Nat) "java/lang/IllegalArgumentException") ∈ lw_tbl := List.mem_append_right _ (List.mem_of_getElem? (i := 751) (by decide +kernel))
set_option maxRecDepth 20000 in
theorem k_752 : (Cond.instantiable "java/lang/IllegalArgumentException" (6 : Nat)) ∈ lw_tbl := List.mem_append_right _ (List.mem_of_getElem? (i := 752) (by decide +kernel))
set_option maxRecDepth 20000 in
theorem k_753 : (Cond.castable "java/lang/IllegalArgumentException" "java/lang/IllegalArgumentException") ∈ lw_tbl := List.mem_append_right _ (List.mem_of_getElem? (i := 753) (by decide +kernel))
set_option maxRecDepth 20000 in
theorem k_754 : (Cond.selects "java/lang/IllegalArgumentException" ({ cls := "java/lang/Throwable", name := "fillInStackTrace", desc := "(I)Ljava/lang/Throwable;" } : MethodName) ({ cls := "java/lang/Throwable", name := "fillInStackTrace", desc := "(I)Ljava/lang/Throwable;" } : MethodName)) ∈ lw_tbl := List.mem_append_right _ (List.mem_of_getElem? (i := 754) (by decide +kernel))
set_option maxRecDepth 20000 in
theorem k_755 : (Cond.lays "java/lang/IllegalArgumentException" "java/lang/Throwable" "cause" "Ljava/lang/Throwable;") ∈ lw_tbl := List.mem_append_right _ (List.mem_of_getElem? (i := 755) (by decide +kernel))
set_option maxRecDepth 20000 in
theorem k_756 : (Cond.lays "java/lang/IllegalArgumentException" "java/lang/Throwable" "stackTrace" "[Ljava/lang/StackTraceElement;") ∈ lw_tbl := List.mem_append_right _ (List.mem_of_getElem? (i := 756) (by decide +kernel))
set_option maxRecDepth 20000 in
theorem k_757 : (Cond.lays "java/lang/IllegalArgumentException" "java/lang/Throwable" "suppressedExceptions" "Ljava/util/List;") ∈ lw_tbl := List.mem_append_right _ (List.mem_of_getElem? (i := 757) (by decide +kernel))
set_option maxRecDepth 20000 in
theorem k_758 : (Cond.lays "java/lang/IllegalArgumentException" "java/lang/Throwable" "detailMessage" "Ljava/lang/String;") ∈ lw_tbl := List.mem_append_right _ (List.mem_of_getElem? (i := 758) (by decide +kernel))
set_option maxRecDepth 20000 in
theorem k_759 : (Cond.lays "java/lang/IllegalArgumentException" "java/lang/Throwable" "backtrace" "Ljava/lang/Object;") ∈ lw_tbl := List.mem_append_right _ (List.mem_of_getElem? (i := 759) (by decide +kernel))
set_option maxRecDepth 20000 in
theorem k_760 : (Cond.stringRef "StitchDesk" (82 : Nat) "no such shape") ∈ lw_tbl := List.mem_append_right _ (List.mem_of_getElem? (i := 760) (by decide +kernel))
set_option maxRecDepth 20000 in
theorem k_761 : (Cond.methodLink "StitchDesk" (84 : Nat) ({ cls := "java/lang/IllegalArgumentException", name := "<init>", desc := "(Ljava/lang/String;)V" } : MethodName)) ∈ lw_tbl := List.mem_append_right _ (List.mem_of_getElem? (i := 761) (by decide +kernel))
set_option maxRecDepth 20000 in
theorem k_762 : (Cond.instanceMethod ({ cls := "java/lang/IllegalArgumentException", name := "<init>", desc := "(Ljava/lang/String;)V" } : MethodName)) ∈ lw_tbl := List.mem_append_right _ (List.mem_of_getElem? (i := 762) (by decide +kernel))
set_option maxRecDepth 20000 in
theorem k_763 : (Cond.code ({ cls := "java/lang/IllegalArgumentException", name := "<init>", desc := "(Ljava/lang/String;)V" } : MethodName) prog_15_method_2_code (2 : Nat) (Option.none : Option ClassFile.FieldType)) ∈ lw_tbl := List.mem_append_right _ (List.mem_of_getElem? (i := 763) (by decide +kernel))
set_option maxRecDepth 20000 in
theorem k_764 : (Cond.methodLink "java/lang/IllegalArgumentException" (7 : Nat) ({ cls := "java/lang/RuntimeException", name := "<init>", desc := "(Ljava/lang/String;)V" } : MethodName)) ∈ lw_tbl := List.mem_append_right _ (List.mem_of_getElem? (i := 764) (by decide +kernel))
set_option maxRecDepth 20000 in
theorem k_765 : (Cond.lays "java/lang/IllegalArgumentException" "java/lang/Throwable" "depth" "I") ∈ lw_tbl := List.mem_append_right _ (List.mem_of_getElem? (i := 765) (by decide +kernel))
set_option maxRecDepth 20000 in
theorem k_766 : (Cond.superclass "java/lang/IllegalArgumentException" "java/lang/RuntimeException") ∈ lw_tbl := List.mem_append_right _ (List.mem_of_getElem? (i := 766) (by decide +kernel))
set_option maxRecDepth 20000 in
theorem k_767 : (Cond.methodLinkNest "StitchDesk" (85 : Nat) ({ cls := "StitchDesk$Shape", name := "reset", desc := "(IIII)V" } : MethodName) "StitchDesk") ∈ lw_tbl := List.mem_append_right _ (List.mem_of_getElem? (i := 767) (by decide +kernel))
set_option maxRecDepth 20000 in
theorem k_768 : (Cond.privateMethod ({ cls := "StitchDesk$Shape", name := "reset", desc := "(IIII)V" } : MethodName)) ∈ lw_tbl := List.mem_append_right _ (List.mem_of_getElem? (i := 768) (by decide +kernel))
set_option maxRecDepth 20000 in
theorem k_769 : (Cond.instanceMethod ({ cls := "StitchDesk$Shape", name := "reset", desc := "(IIII)V" } : MethodName)) ∈ lw_tbl := List.mem_append_right _ (List.mem_of_getElem? (i := 769) (by decide +kernel))
set_option maxRecDepth 20000 in
theorem k_770 : (Cond.code ({ cls := "StitchDesk$Shape", name := "reset", desc := "(IIII)V" } : MethodName) prog_10_method_2_code (6 : Nat) (Option.none : Option ClassFile.FieldType)) ∈ lw_tbl := List.mem_append_right _ (List.mem_of_getElem? (i := 770) (by decide +kernel))
set_option maxRecDepth 20000 in
theorem k_771 : (Cond.methodLinkNest "StitchDesk$Shape" (43 : Nat) ({ cls := "StitchDesk$Ring", name := "clear", desc := "()V" } : MethodName) "StitchDesk") ∈ lw_tbl := List.mem_append_right _ (List.mem_of_getElem? (i := 771) (by decide +kernel))
set_option maxRecDepth 20000 in
theorem k_772 : (Cond.privateMethod ({ cls := "StitchDesk$Ring", name := "clear", desc := "()V" } : MethodName)) ∈ lw_tbl := List.mem_append_right _ (List.mem_of_getElem? (i := 772) (by decide +kernel))
set_option maxRecDepth 20000 in
theorem k_773 : (Cond.instanceMethod ({ cls := "StitchDesk$Ring", name := "clear", desc := "()V" } : MethodName)) ∈ lw_tbl := List.mem_append_right _ (List.mem_of_getElem? (i := 773) (by decide +kernel))
set_option maxRecDepth 20000 in
theorem k_774 : (Cond.code ({ cls := "StitchDesk$Ring", name := "clear", desc := "()V" } : MethodName) prog_7_method_2_code (1 : Nat) (Option.none : Option ClassFile.FieldType)) ∈ lw_tbl := List.mem_append_right _ (List.mem_of_getElem? (i := 774) (by decide +kernel))
set_option maxRecDepth 20000 in
theorem k_775 : (Cond.methodLinkNest "StitchDesk$Shape" (46 : Nat) ({ cls := "StitchDesk$Tally", name := "clear", desc := "()V" } : MethodName) "StitchDesk") ∈ lw_tbl := List.mem_append_right _ (List.mem_of_getElem? (i := 775) (by decide +kernel))
set_option maxRecDepth 20000 in
theorem k_776 : (Cond.privateMethod ({ cls := "StitchDesk$Tally", name := "clear", desc := "()V" } : MethodName)) ∈ lw_tbl := List.mem_append_right _ (List.mem_of_getElem? (i := 776) (by decide +kernel))
set_option maxRecDepth 20000 in
theorem k_777 : (Cond.instanceMethod ({ cls := "StitchDesk$Tally", name := "clear", desc := "()V" } : MethodName)) ∈ lw_tbl := List.mem_append_right _ (List.mem_of_getElem? (i := 777) (by decide +kernel))
set_option maxRecDepth 20000 in
theorem k_778 : (Cond.code ({ cls := "StitchDesk$Tally", name := "clear", desc := "()V" } : MethodName) prog_11_method_2_code (1 : Nat) (Option.none : Option ClassFile.FieldType)) ∈ lw_tbl := List.mem_append_right _ (List.mem_of_getElem? (i := 778) (by decide +kernel))
set_option maxRecDepth 20000 in
theorem k_779 : (Cond.methodLink "StitchDeskLaw" (67 : Nat) ({ cls := "StitchDeskLaw", name := "corner", desc := "(LStitchDesk;III[J)I" } : MethodName)) ∈ lw_tbl := List.mem_append_right _ (List.mem_of_getElem? (i := 779) (by decide +kernel))
set_option maxRecDepth 20000 in
theorem k_780 : (Cond.static ({ cls := "StitchDeskLaw", name := "corner", desc := "(LStitchDesk;III[J)I" } : MethodName)) ∈ lw_tbl := List.mem_append_right _ (List.mem_of_getElem? (i := 780) (by decide +kernel))
set_option maxRecDepth 20000 in
theorem k_781 : (Cond.codeWith ({ cls := "StitchDeskLaw", name := "corner", desc := "(LStitchDesk;III[J)I" } : MethodName) method_4_code (6 : Nat) (Option.some ClassFile.FieldType.int) [((0 : Nat), (12 : Nat), (15 : Nat), (13 : Nat)), ((0 : Nat), (12 : Nat), (19 : Nat), (17 : Nat)), ((0 : Nat), (12 : Nat), (23 : Nat), (15 : Nat))]) ∈ lw_tbl := List.mem_append_right _ (List.mem_of_getElem? (i := 781) (by decide +kernel))
set_option maxRecDepth 20000 in
theorem k_782 : (Cond.methodLink "StitchDeskLaw" (19 : Nat) ({ cls := "StitchDesk", name := "corner", desc := "(III)I" } : MethodName)) ∈ lw_tbl := List.mem_append_right _ (List.mem_of_getElem? (i := 782) (by decide +kernel))
set_option maxRecDepth 20000 in
theorem k_783 : (Cond.instanceMethod ({ cls := "StitchDesk", name := "corner", desc := "(III)I" } : MethodName)) ∈ lw_tbl := List.mem_append_right _ (List.mem_of_getElem? (i := 783) (by decide +kernel))
set_option maxRecDepth 20000 in
theorem k_784 : (Cond.selects "StitchDesk" ({ cls := "StitchDesk", name := "corner", desc := "(III)I" } : MethodName) ({ cls := "StitchDesk", name := "corner", desc := "(III)I" } : MethodName)) ∈ lw_tbl := List.mem_append_right _ (List.mem_of_getElem? (i := 784) (by decide +kernel))
set_option maxRecDepth 20000 in
theorem k_785 : (Cond.code ({ cls := "StitchDesk", name := "corner", desc := "(III)I" } : MethodName) prog_1_method_3_code (5 : Nat) (Option.some ClassFile.FieldType.int)) ∈ lw_tbl := List.mem_append_right _ (List.mem_of_getElem? (i := 785) (by decide +kernel))
set_option maxRecDepth 20000 in
theorem k_786 : (Cond.stringRef "StitchDesk" (92 : Nat) "no shape with rings is open") ∈ lw_tbl := List.mem_append_right _ (List.mem_of_getElem? (i := 786) (by decide +kernel))
set_option maxRecDepth 20000 in
theorem k_787 : (Cond.methodLink "StitchDesk" (94 : Nat) ({ cls := "StitchDesk", name := "isPlace", desc := "(II)Z" } : MethodName)) ∈ lw_tbl := List.mem_append_right _ (List.mem_of_getElem? (i := 787) (by decide +kernel))
set_option maxRecDepth 20000 in
theorem k_788 : (Cond.static ({ cls := "StitchDesk", name := "isPlace", desc := "(II)Z" } : MethodName)) ∈ lw_tbl := List.mem_append_right _ (List.mem_of_getElem? (i := 788) (by decide +kernel))
set_option maxRecDepth 20000 in
theorem k_789 : (Cond.code ({ cls := "StitchDesk", name := "isPlace", desc := "(II)Z" } : MethodName) prog_1_method_22_code (2 : Nat) (Option.some ClassFile.FieldType.boolean)) ∈ lw_tbl := List.mem_append_right _ (List.mem_of_getElem? (i := 789) (by decide +kernel))
set_option maxRecDepth 20000 in
theorem k_790 : (Cond.stringRef "StitchDesk" (97 : Nat) "no such ring or place") ∈ lw_tbl := List.mem_append_right _ (List.mem_of_getElem? (i := 790) (by decide +kernel))
set_option maxRecDepth 20000 in
theorem k_791 : (Cond.stringRef "StitchDesk" (108 : Nat) "the ring has 24 corners") ∈ lw_tbl := List.mem_append_right _ (List.mem_of_getElem? (i := 791) (by decide +kernel))
set_option maxRecDepth 20000 in
theorem k_792 : (Cond.methodLinkNest "StitchDesk" (110 : Nat) ({ cls := "StitchDesk$Ring", name := "add", desc := "(II)V" } : MethodName) "StitchDesk") ∈ lw_tbl := List.mem_append_right _ (List.mem_of_getElem? (i := 792) (by decide +kernel))
set_option maxRecDepth 20000 in
theorem k_793 : (Cond.privateMethod ({ cls := "StitchDesk$Ring", name := "add", desc := "(II)V" } : MethodName)) ∈ lw_tbl := List.mem_append_right _ (List.mem_of_getElem? (i := 793) (by decide +kernel))
set_option maxRecDepth 20000 in
theorem k_794 : (Cond.instanceMethod ({ cls := "StitchDesk$Ring", name := "add", desc := "(II)V" } : MethodName)) ∈ lw_tbl := List.mem_append_right _ (List.mem_of_getElem? (i := 794) (by decide +kernel))
set_option maxRecDepth 20000 in
theorem k_795 : (Cond.code ({ cls := "StitchDesk$Ring", name := "add", desc := "(II)V" } : MethodName) prog_7_method_3_code (3 : Nat) (Option.none : Option ClassFile.FieldType)) ∈ lw_tbl := List.mem_append_right _ (List.mem_of_getElem? (i := 795) (by decide +kernel))
set_option maxRecDepth 20000 in
theorem k_796 : (Cond.methodLink "StitchDeskLaw" (71 : Nat) ({ cls := "StitchDeskLaw", name := "rail", desc := "(LStitchDesk;III[J)I" } : MethodName)) ∈ lw_tbl := List.mem_append_right _ (List.mem_of_getElem? (i := 796) (by decide +kernel))
set_option maxRecDepth 20000 in
theorem k_797 : (Cond.static ({ cls := "StitchDeskLaw", name := "rail", desc := "(LStitchDesk;III[J)I" } : MethodName)) ∈ lw_tbl := List.mem_append_right _ (List.mem_of_getElem? (i := 797) (by decide +kernel))
set_option maxRecDepth 20000 in
theorem k_798 : (Cond.codeWith ({ cls := "StitchDeskLaw", name := "rail", desc := "(LStitchDesk;III[J)I" } : MethodName) method_5_code (6 : Nat) (Option.some ClassFile.FieldType.int) [((0 : Nat), (12 : Nat), (15 : Nat), (13 : Nat)), ((0 : Nat), (12 : Nat), (19 : Nat), (17 : Nat)), ((0 : Nat), (12 : Nat), (23 : Nat), (15 : Nat))]) ∈ lw_tbl := List.mem_append_right _ (List.mem_of_getElem? (i := 798) (by decide +kernel))
set_option maxRecDepth 20000 in
theorem k_799 : (Cond.methodLink "StitchDeskLaw" (23 : Nat) ({ cls := "StitchDesk", name := "rail", desc := "(III)I" } : MethodName)) ∈ lw_tbl := List.mem_append_right _ (List.mem_of_getElem? (i := 799) (by decide +kernel))
set_option maxRecDepth 20000 in
theorem k_800 : (Cond.instanceMethod ({ cls := "StitchDesk", name := "rail", desc := "(III)I" } : MethodName)) ∈ lw_tbl := List.mem_append_right _ (List.mem_of_getElem? (i := 800) (by decide +kernel))
set_option maxRecDepth 20000 in
theorem k_801 : (Cond.selects "StitchDesk" ({ cls := "StitchDesk", name := "rail", desc := "(III)I" } : MethodName) ({ cls := "StitchDesk", name := "rail", desc := "(III)I" } : MethodName)) ∈ lw_tbl := List.mem_append_right _ (List.mem_of_getElem? (i := 801) (by decide +kernel))
set_option maxRecDepth 20000 in
theorem k_802 : (Cond.code ({ cls := "StitchDesk", name := "rail", desc := "(III)I" } : MethodName) prog_1_method_4_code (5 : Nat) (Option.some ClassFile.FieldType.int)) ∈ lw_tbl := List.mem_append_right _ (List.mem_of_getElem? (i := 802) (by decide +kernel))
set_option maxRecDepth 20000 in
theorem k_803 : (Cond.stringRef "StitchDesk" (114 : Nat) "no shape with rails is open") ∈ lw_tbl := List.mem_append_right _ (List.mem_of_getElem? (i := 803) (by decide +kernel))
set_option maxRecDepth 20000 in
theorem k_804 : (Cond.stringRef "StitchDesk" (116 : Nat) "no such rail or place") ∈ lw_tbl := List.mem_append_right _ (List.mem_of_getElem? (i := 804) (by decide +kernel))
set_option maxRecDepth 20000 in
theorem k_805 : (Cond.stringRef "StitchDesk" (121 : Nat) "the rail has 16 corners") ∈ lw_tbl := List.mem_append_right _ (List.mem_of_getElem? (i := 805) (by decide +kernel))
set_option maxRecDepth 20000 in
theorem k_806 : (Cond.methodLink "StitchDeskLaw" (74 : Nat) ({ cls := "StitchDeskLaw", name := "end", desc := "(LStitchDesk;[J)I" } : MethodName)) ∈ lw_tbl := List.mem_append_right _ (List.mem_of_getElem? (i := 806) (by decide +kernel))
set_option maxRecDepth 20000 in
theorem k_807 : (Cond.static ({ cls := "StitchDeskLaw", name := "end", desc := "(LStitchDesk;[J)I" } : MethodName)) ∈ lw_tbl := List.mem_append_right _ (List.mem_of_getElem? (i := 807) (by decide +kernel))
set_option maxRecDepth 20000 in
theorem k_808 : (Cond.codeWith ({ cls := "StitchDeskLaw", name := "end", desc := "(LStitchDesk;[J)I" } : MethodName) method_6_code (3 : Nat) (Option.some ClassFile.FieldType.int) [((0 : Nat), (8 : Nat), (11 : Nat), (13 : Nat))]) ∈ lw_tbl := List.mem_append_right _ (List.mem_of_getElem? (i := 808) (by decide +kernel))
set_option maxRecDepth 20000 in
theorem k_809 : (Cond.methodLink "StitchDeskLaw" (26 : Nat) ({ cls := "StitchDesk", name := "end", desc := "()I" } : MethodName)) ∈ lw_tbl := List.mem_append_right _ (List.mem_of_getElem? (i := 809) (by decide +kernel))
set_option maxRecDepth 20000 in
theorem k_810 : (Cond.instanceMethod ({ cls := "StitchDesk", name := "end", desc := "()I" } : MethodName)) ∈ lw_tbl := List.mem_append_right _ (List.mem_of_getElem? (i := 810) (by decide +kernel))
set_option maxRecDepth 20000 in
theorem k_811 : (Cond.selects "StitchDesk" ({ cls := "StitchDesk", name := "end", desc := "()I" } : MethodName) ({ cls := "StitchDesk", name := "end", desc := "()I" } : MethodName)) ∈ lw_tbl := List.mem_append_right _ (List.mem_of_getElem? (i := 811) (by decide +kernel))
set_option maxRecDepth 20000 in
theorem k_812 : (Cond.code ({ cls := "StitchDesk", name := "end", desc := "()I" } : MethodName) prog_1_method_5_code (3 : Nat) (Option.some ClassFile.FieldType.int)) ∈ lw_tbl := List.mem_append_right _ (List.mem_of_getElem? (i := 812) (by decide +kernel))
set_option maxRecDepth 20000 in
theorem k_813 : (Cond.stringRef "StitchDesk" (123 : Nat) "no shape is open") ∈ lw_tbl := List.mem_append_right _ (List.mem_of_getElem? (i := 813) (by decide +kernel))
set_option maxRecDepth 20000 in
theorem k_814 : (Cond.methodLinkNest "StitchDesk" (125 : Nat) ({ cls := "StitchDesk$Inspector", name := "inspect", desc := "(LStitchDesk$Shape;)I" } : MethodName) "StitchDesk") ∈ lw_tbl := List.mem_append_right _ (List.mem_of_getElem? (i := 814) (by decide +kernel))
set_option maxRecDepth 20000 in
theorem k_815 : (Cond.privateMethod ({ cls := "StitchDesk$Inspector", name := "inspect", desc := "(LStitchDesk$Shape;)I" } : MethodName)) ∈ lw_tbl := List.mem_append_right _ (List.mem_of_getElem? (i := 815) (by decide +kernel))
set_option maxRecDepth 20000 in
theorem k_816 : (Cond.instanceMethod ({ cls := "StitchDesk$Inspector", name := "inspect", desc := "(LStitchDesk$Shape;)I" } : MethodName)) ∈ lw_tbl := List.mem_append_right _ (List.mem_of_getElem? (i := 816) (by decide +kernel))
set_option maxRecDepth 20000 in
theorem k_817 : (Cond.code ({ cls := "StitchDesk$Inspector", name := "inspect", desc := "(LStitchDesk$Shape;)I" } : MethodName) prog_3_method_2_code (2 : Nat) (Option.some ClassFile.FieldType.int)) ∈ lw_tbl := List.mem_append_right _ (List.mem_of_getElem? (i := 817) (by decide +kernel))
set_option maxRecDepth 20000 in
theorem k_818 : (Cond.methodLink "StitchDesk$Inspector" (39 : Nat) ({ cls := "StitchDesk$Inspector", name := "faultOfRails", desc := "(LStitchDesk$Shape;)I" } : MethodName)) ∈ lw_tbl := List.mem_append_right _ (List.mem_of_getElem? (i := 818) (by decide +kernel))
set_option maxRecDepth 20000 in
theorem k_819 : (Cond.privateMethod ({ cls := "StitchDesk$Inspector", name := "faultOfRails", desc := "(LStitchDesk$Shape;)I" } : MethodName)) ∈ lw_tbl := List.mem_append_right _ (List.mem_of_getElem? (i := 819) (by decide +kernel))
set_option maxRecDepth 20000 in
theorem k_820 : (Cond.instanceMethod ({ cls := "StitchDesk$Inspector", name := "faultOfRails", desc := "(LStitchDesk$Shape;)I" } : MethodName)) ∈ lw_tbl := List.mem_append_right _ (List.mem_of_getElem? (i := 820) (by decide +kernel))
set_option maxRecDepth 20000 in
theorem k_821 : (Cond.code ({ cls := "StitchDesk$Inspector", name := "faultOfRails", desc := "(LStitchDesk$Shape;)I" } : MethodName) prog_3_method_3_code (3 : Nat) (Option.some ClassFile.FieldType.int)) ∈ lw_tbl := List.mem_append_right _ (List.mem_of_getElem? (i := 821) (by decide +kernel))
set_option maxRecDepth 20000 in
theorem k_822 : (Cond.methodLink "StitchDesk$Inspector" (43 : Nat) ({ cls := "StitchDesk$Inspector", name := "faultOfRings", desc := "(LStitchDesk$Shape;)I" } : MethodName)) ∈ lw_tbl := List.mem_append_right _ (List.mem_of_getElem? (i := 822) (by decide +kernel))
set_option maxRecDepth 20000 in
theorem k_823 : (Cond.privateMethod ({ cls := "StitchDesk$Inspector", name := "faultOfRings", desc := "(LStitchDesk$Shape;)I" } : MethodName)) ∈ lw_tbl := List.mem_append_right _ (List.mem_of_getElem? (i := 823) (by decide +kernel))
set_option maxRecDepth 20000 in
theorem k_824 : (Cond.instanceMethod ({ cls := "StitchDesk$Inspector", name := "faultOfRings", desc := "(LStitchDesk$Shape;)I" } : MethodName)) ∈ lw_tbl := List.mem_append_right _ (List.mem_of_getElem? (i := 824) (by decide +kernel))
set_option maxRecDepth 20000 in
theorem k_825 : (Cond.code ({ cls := "StitchDesk$Inspector", name := "faultOfRings", desc := "(LStitchDesk$Shape;)I" } : MethodName) prog_3_method_4_code (2 : Nat) (Option.some ClassFile.FieldType.int)) ∈ lw_tbl := List.mem_append_right _ (List.mem_of_getElem? (i := 825) (by decide +kernel))
set_option maxRecDepth 20000 in
theorem k_826 : (Cond.methodLink "StitchDesk$Inspector" (58 : Nat) ({ cls := "StitchDesk$Inspector", name := "hasFlatRing", desc := "(LStitchDesk$Shape;)Z" } : MethodName)) ∈ lw_tbl := List.mem_append_right _ (List.mem_of_getElem? (i := 826) (by decide +kernel))
set_option maxRecDepth 20000 in
theorem k_827 : (Cond.privateMethod ({ cls := "StitchDesk$Inspector", name := "hasFlatRing", desc := "(LStitchDesk$Shape;)Z" } : MethodName)) ∈ lw_tbl := List.mem_append_right _ (List.mem_of_getElem? (i := 827) (by decide +kernel))
set_option maxRecDepth 20000 in
theorem k_828 : (Cond.instanceMethod ({ cls := "StitchDesk$Inspector", name := "hasFlatRing", desc := "(LStitchDesk$Shape;)Z" } : MethodName)) ∈ lw_tbl := List.mem_append_right _ (List.mem_of_getElem? (i := 828) (by decide +kernel))
set_option maxRecDepth 20000 in
theorem k_829 : (Cond.code ({ cls := "StitchDesk$Inspector", name := "hasFlatRing", desc := "(LStitchDesk$Shape;)Z" } : MethodName) prog_3_method_5_code (5 : Nat) (Option.some ClassFile.FieldType.boolean)) ∈ lw_tbl := List.mem_append_right _ (List.mem_of_getElem? (i := 829) (by decide +kernel))
set_option maxRecDepth 20000 in
theorem k_830 : (Cond.methodLinkNest "StitchDesk$Inspector" (79 : Nat) ({ cls := "StitchDesk$Ring", name := "isFlat", desc := "()Z" } : MethodName) "StitchDesk") ∈ lw_tbl := List.mem_append_right _ (List.mem_of_getElem? (i := 830) (by decide +kernel))
set_option maxRecDepth 20000 in
theorem k_831 : (Cond.privateMethod ({ cls := "StitchDesk$Ring", name := "isFlat", desc := "()Z" } : MethodName)) ∈ lw_tbl := List.mem_append_right _ (List.mem_of_getElem? (i := 831) (by decide +kernel))
set_option maxRecDepth 20000 in
theorem k_832 : (Cond.instanceMethod ({ cls := "StitchDesk$Ring", name := "isFlat", desc := "()Z" } : MethodName)) ∈ lw_tbl := List.mem_append_right _ (List.mem_of_getElem? (i := 832) (by decide +kernel))
set_option maxRecDepth 20000 in
theorem k_833 : (Cond.code ({ cls := "StitchDesk$Ring", name := "isFlat", desc := "()Z" } : MethodName) prog_7_method_5_code (4 : Nat) (Option.some ClassFile.FieldType.boolean)) ∈ lw_tbl := List.mem_append_right _ (List.mem_of_getElem? (i := 833) (by decide +kernel))
set_option maxRecDepth 20000 in
theorem k_834 : (Cond.methodLink "StitchDesk$Inspector" (62 : Nat) ({ cls := "StitchDesk$Inspector", name := "gatherEdges", desc := "(LStitchDesk$Shape;)V" } : MethodName)) ∈ lw_tbl := List.mem_append_right _ (List.mem_of_getElem? (i := 834) (by decide +kernel))
set_option maxRecDepth 20000 in
theorem k_835 : (Cond.privateMethod ({ cls := "StitchDesk$Inspector", name := "gatherEdges", desc := "(LStitchDesk$Shape;)V" } : MethodName)) ∈ lw_tbl := List.mem_append_right _ (List.mem_of_getElem? (i := 835) (by decide +kernel))
set_option maxRecDepth 20000 in
theorem k_836 : (Cond.instanceMethod ({ cls := "StitchDesk$Inspector", name := "gatherEdges", desc := "(LStitchDesk$Shape;)V" } : MethodName)) ∈ lw_tbl := List.mem_append_right _ (List.mem_of_getElem? (i := 836) (by decide +kernel))
set_option maxRecDepth 20000 in
theorem k_837 : (Cond.code ({ cls := "StitchDesk$Inspector", name := "gatherEdges", desc := "(LStitchDesk$Shape;)V" } : MethodName) prog_3_method_6_code (7 : Nat) (Option.none : Option ClassFile.FieldType)) ∈ lw_tbl := List.mem_append_right _ (List.mem_of_getElem? (i := 837) (by decide +kernel))
set_option maxRecDepth 20000 in
theorem k_838 : (Cond.methodLinkNest "StitchDesk$Inspector" (85 : Nat) ({ cls := "StitchDesk$Ring", name := "next", desc := "(I)I" } : MethodName) "StitchDesk") ∈ lw_tbl := List.mem_append_right _ (List.mem_of_getElem? (i := 838) (by decide +kernel))
set_option maxRecDepth 20000 in
theorem k_839 : (Cond.methodLink "StitchDesk$Inspector" (66 : Nat) ({ cls := "StitchDesk$Inspector", name := "findCrossing", desc := "()Z" } : MethodName)) ∈ lw_tbl := List.mem_append_right _ (List.mem_of_getElem? (i := 839) (by decide +kernel))
set_option maxRecDepth 20000 in
theorem k_840 : (Cond.privateMethod ({ cls := "StitchDesk$Inspector", name := "findCrossing", desc := "()Z" } : MethodName)) ∈ lw_tbl := List.mem_append_right _ (List.mem_of_getElem? (i := 840) (by decide +kernel))
set_option maxRecDepth 20000 in
theorem k_841 : (Cond.instanceMethod ({ cls := "StitchDesk$Inspector", name := "findCrossing", desc := "()Z" } : MethodName)) ∈ lw_tbl := List.mem_append_right _ (List.mem_of_getElem? (i := 841) (by decide +kernel))
set_option maxRecDepth 20000 in
theorem k_842 : (Cond.code ({ cls := "StitchDesk$Inspector", name := "findCrossing", desc := "()Z" } : MethodName) prog_3_method_7_code (3 : Nat) (Option.some ClassFile.FieldType.boolean)) ∈ lw_tbl := List.mem_append_right _ (List.mem_of_getElem? (i := 842) (by decide +kernel))
set_option maxRecDepth 20000 in
theorem k_843 : (Cond.methodLink "StitchDesk$Inspector" (95 : Nat) ({ cls := "StitchDesk$Inspector", name := "areCrossed", desc := "(II)Z" } : MethodName)) ∈ lw_tbl := List.mem_append_right _ (List.mem_of_getElem? (i := 843) (by decide +kernel))
set_option maxRecDepth 20000 in
theorem k_844 : (Cond.privateMethod ({ cls := "StitchDesk$Inspector", name := "areCrossed", desc := "(II)Z" } : MethodName)) ∈ lw_tbl := List.mem_append_right _ (List.mem_of_getElem? (i := 844) (by decide +kernel))
set_option maxRecDepth 20000 in
theorem k_845 : (Cond.instanceMethod ({ cls := "StitchDesk$Inspector", name := "areCrossed", desc := "(II)Z" } : MethodName)) ∈ lw_tbl := List.mem_append_right _ (List.mem_of_getElem? (i := 845) (by decide +kernel))
set_option maxRecDepth 20000 in
theorem k_846 : (Cond.code ({ cls := "StitchDesk$Inspector", name := "areCrossed", desc := "(II)Z" } : MethodName) prog_3_method_8_code (3 : Nat) (Option.some ClassFile.FieldType.boolean)) ∈ lw_tbl := List.mem_append_right _ (List.mem_of_getElem? (i := 846) (by decide +kernel))
set_option maxRecDepth 20000 in
theorem k_847 : (Cond.methodLink "StitchDesk$Inspector" (99 : Nat) ({ cls := "StitchDesk$Inspector", name := "turnsBack", desc := "(II)Z" } : MethodName)) ∈ lw_tbl := List.mem_append_right _ (List.mem_of_getElem? (i := 847) (by decide +kernel))
set_option maxRecDepth 20000 in
theorem k_848 : (Cond.privateMethod ({ cls := "StitchDesk$Inspector", name := "turnsBack", desc := "(II)Z" } : MethodName)) ∈ lw_tbl := List.mem_append_right _ (List.mem_of_getElem? (i := 848) (by decide +kernel))
set_option maxRecDepth 20000 in
theorem k_849 : (Cond.instanceMethod ({ cls := "StitchDesk$Inspector", name := "turnsBack", desc := "(II)Z" } : MethodName)) ∈ lw_tbl := List.mem_append_right _ (List.mem_of_getElem? (i := 849) (by decide +kernel))
set_option maxRecDepth 20000 in
theorem k_850 : (Cond.code ({ cls := "StitchDesk$Inspector", name := "turnsBack", desc := "(II)Z" } : MethodName) prog_3_method_9_code (7 : Nat) (Option.some ClassFile.FieldType.boolean)) ∈ lw_tbl := List.mem_append_right _ (List.mem_of_getElem? (i := 850) (by decide +kernel))
set_option maxRecDepth 20000 in
theorem k_851 : (Cond.methodLink "StitchDesk$Inspector" (102 : Nat) ({ cls := "StitchDesk$Inspector", name := "sharePoint", desc := "(II)Z" } : MethodName)) ∈ lw_tbl := List.mem_append_right _ (List.mem_of_getElem? (i := 851) (by decide +kernel))
set_option maxRecDepth 20000 in
theorem k_852 : (Cond.privateMethod ({ cls := "StitchDesk$Inspector", name := "sharePoint", desc := "(II)Z" } : MethodName)) ∈ lw_tbl := List.mem_append_right _ (List.mem_of_getElem? (i := 852) (by decide +kernel))
set_option maxRecDepth 20000 in
theorem k_853 : (Cond.instanceMethod ({ cls := "StitchDesk$Inspector", name := "sharePoint", desc := "(II)Z" } : MethodName)) ∈ lw_tbl := List.mem_append_right _ (List.mem_of_getElem? (i := 853) (by decide +kernel))
set_option maxRecDepth 20000 in
theorem k_854 : (Cond.code ({ cls := "StitchDesk$Inspector", name := "sharePoint", desc := "(II)Z" } : MethodName) prog_3_method_10_code (5 : Nat) (Option.some ClassFile.FieldType.boolean)) ∈ lw_tbl := List.mem_append_right _ (List.mem_of_getElem? (i := 854) (by decide +kernel))
set_option maxRecDepth 20000 in
theorem k_855 : (Cond.methodLink "StitchDesk$Inspector" (105 : Nat) ({ cls := "java/lang/Math", name := "max", desc := "(II)I" } : MethodName)) ∈ lw_tbl := List.mem_append_right _ (List.mem_of_getElem? (i := 855) (by decide +kernel))
set_option maxRecDepth 20000 in
theorem k_856 : (Cond.methodLink "StitchDesk$Inspector" (111 : Nat) ({ cls := "java/lang/Math", name := "min", desc := "(II)I" } : MethodName)) ∈ lw_tbl := List.mem_append_right _ (List.mem_of_getElem? (i := 856) (by decide +kernel))
set_option maxRecDepth 20000 in
theorem k_857 : (Cond.methodLink "StitchDesk$Inspector" (114 : Nat) ({ cls := "StitchDesk$Inspector", name := "turn", desc := "(III)I" } : MethodName)) ∈ lw_tbl := List.mem_append_right _ (List.mem_of_getElem? (i := 857) (by decide +kernel))
set_option maxRecDepth 20000 in
theorem k_858 : (Cond.privateMethod ({ cls := "StitchDesk$Inspector", name := "turn", desc := "(III)I" } : MethodName)) ∈ lw_tbl := List.mem_append_right _ (List.mem_of_getElem? (i := 858) (by decide +kernel))
set_option maxRecDepth 20000 in
theorem k_859 : (Cond.instanceMethod ({ cls := "StitchDesk$Inspector", name := "turn", desc := "(III)I" } : MethodName)) ∈ lw_tbl := List.mem_append_right _ (List.mem_of_getElem? (i := 859) (by decide +kernel))
set_option maxRecDepth 20000 in
theorem k_860 : (Cond.code ({ cls := "StitchDesk$Inspector", name := "turn", desc := "(III)I" } : MethodName) prog_3_method_11_code (4 : Nat) (Option.some ClassFile.FieldType.int)) ∈ lw_tbl := List.mem_append_right _ (List.mem_of_getElem? (i := 860) (by decide +kernel))
set_option maxRecDepth 20000 in
theorem k_861 : (Cond.methodLink "StitchDesk$Inspector" (118 : Nat) ({ cls := "java/lang/Integer", name := "signum", desc := "(I)I" } : MethodName)) ∈ lw_tbl := List.mem_append_right _ (List.mem_of_getElem? (i := 861) (by decide +kernel))
set_option maxRecDepth 20000 in
theorem k_862 : (Cond.static ({ cls := "java/lang/Integer", name := "signum", desc := "(I)I" } : MethodName)) ∈ lw_tbl := List.mem_append_right _ (List.mem_of_getElem? (i := 862) (by decide +kernel))
set_option maxRecDepth 20000 in
theorem k_863 : (Cond.code ({ cls := "java/lang/Integer", name := "signum", desc := "(I)I" } : MethodName) prog_18_method_56_code (1 : Nat) (Option.some ClassFile.FieldType.int)) ∈ lw_tbl := List.mem_append_right _ (List.mem_of_getElem? (i := 863) (by decide +kernel))
set_option maxRecDepth 20000 in
theorem k_864 : (Cond.methodLink "StitchDesk$Inspector" (70 : Nat) ({ cls := "StitchDesk$Inspector", name := "hasHoleOutside", desc := "(LStitchDesk$Shape;)Z" } : MethodName)) ∈ lw_tbl := List.mem_append_right _ (List.mem_of_getElem? (i := 864) (by decide +kernel))
set_option maxRecDepth 20000 in
theorem k_865 : (Cond.privateMethod ({ cls := "StitchDesk$Inspector", name := "hasHoleOutside", desc := "(LStitchDesk$Shape;)Z" } : MethodName)) ∈ lw_tbl := List.mem_append_right _ (List.mem_of_getElem? (i := 865) (by decide +kernel))
set_option maxRecDepth 20000 in
theorem k_866 : (Cond.instanceMethod ({ cls := "StitchDesk$Inspector", name := "hasHoleOutside", desc := "(LStitchDesk$Shape;)Z" } : MethodName)) ∈ lw_tbl := List.mem_append_right _ (List.mem_of_getElem? (i := 866) (by decide +kernel))
set_option maxRecDepth 20000 in
theorem k_867 : (Cond.code ({ cls := "StitchDesk$Inspector", name := "hasHoleOutside", desc := "(LStitchDesk$Shape;)Z" } : MethodName) prog_3_method_12_code (4 : Nat) (Option.some ClassFile.FieldType.boolean)) ∈ lw_tbl := List.mem_append_right _ (List.mem_of_getElem? (i := 867) (by decide +kernel))
set_option maxRecDepth 20000 in
theorem k_868 : (Cond.methodLink "StitchDesk$Inspector" (123 : Nat) ({ cls := "StitchDesk$Inspector", name := "beginsInside", desc := "(LStitchDesk$Ring;LStitchDesk$Ring;)Z" } : MethodName)) ∈ lw_tbl := List.mem_append_right _ (List.mem_of_getElem? (i := 868) (by decide +kernel))
set_option maxRecDepth 20000 in
theorem k_869 : (Cond.static ({ cls := "StitchDesk$Inspector", name := "beginsInside", desc := "(LStitchDesk$Ring;LStitchDesk$Ring;)Z" } : MethodName)) ∈ lw_tbl := List.mem_append_right _ (List.mem_of_getElem? (i := 869) (by decide +kernel))
set_option maxRecDepth 20000 in
theorem k_870 : (Cond.code ({ cls := "StitchDesk$Inspector", name := "beginsInside", desc := "(LStitchDesk$Ring;LStitchDesk$Ring;)Z" } : MethodName) prog_3_method_14_code (2 : Nat) (Option.some ClassFile.FieldType.boolean)) ∈ lw_tbl := List.mem_append_right _ (List.mem_of_getElem? (i := 870) (by decide +kernel))
set_option maxRecDepth 20000 in
theorem k_871 : (Cond.methodLinkNest "StitchDesk$Inspector" (127 : Nat) ({ cls := "StitchDesk$Ring", name := "sideOf", desc := "(II)I" } : MethodName) "StitchDesk") ∈ lw_tbl := List.mem_append_right _ (List.mem_of_getElem? (i := 871) (by decide +kernel))
set_option maxRecDepth 20000 in
theorem k_872 : (Cond.methodLink "StitchDesk$Inspector" (73 : Nat) ({ cls := "StitchDesk$Inspector", name := "hasHoleWithin", desc := "(LStitchDesk$Shape;)Z" } : MethodName)) ∈ lw_tbl := List.mem_append_right _ (List.mem_of_getElem? (i := 872) (by decide +kernel))
set_option maxRecDepth 20000 in
theorem k_873 : (Cond.privateMethod ({ cls := "StitchDesk$Inspector", name := "hasHoleWithin", desc := "(LStitchDesk$Shape;)Z" } : MethodName)) ∈ lw_tbl := List.mem_append_right _ (List.mem_of_getElem? (i := 873) (by decide +kernel))
set_option maxRecDepth 20000 in
theorem k_874 : (Cond.instanceMethod ({ cls := "StitchDesk$Inspector", name := "hasHoleWithin", desc := "(LStitchDesk$Shape;)Z" } : MethodName)) ∈ lw_tbl := List.mem_append_right _ (List.mem_of_getElem? (i := 874) (by decide +kernel))
set_option maxRecDepth 20000 in
theorem k_875 : (Cond.code ({ cls := "StitchDesk$Inspector", name := "hasHoleWithin", desc := "(LStitchDesk$Shape;)Z" } : MethodName) prog_3_method_13_code (5 : Nat) (Option.some ClassFile.FieldType.boolean)) ∈ lw_tbl := List.mem_append_right _ (List.mem_of_getElem? (i := 875) (by decide +kernel))
set_option maxRecDepth 20000 in
theorem k_876 : (Cond.methodLinkNest "StitchDesk" (129 : Nat) ({ cls := "StitchDesk$Shape", name := "finish", desc := "()V" } : MethodName) "StitchDesk") ∈ lw_tbl := List.mem_append_right _ (List.mem_of_getElem? (i := 876) (by decide +kernel))
set_option maxRecDepth 20000 in
theorem k_877 : (Cond.privateMethod ({ cls := "StitchDesk$Shape", name := "finish", desc := "()V" } : MethodName)) ∈ lw_tbl := List.mem_append_right _ (List.mem_of_getElem? (i := 877) (by decide +kernel))
set_option maxRecDepth 20000 in
theorem k_878 : (Cond.instanceMethod ({ cls := "StitchDesk$Shape", name := "finish", desc := "()V" } : MethodName)) ∈ lw_tbl := List.mem_append_right _ (List.mem_of_getElem? (i := 878) (by decide +kernel))
set_option maxRecDepth 20000 in
theorem k_879 : (Cond.code ({ cls := "StitchDesk$Shape", name := "finish", desc := "()V" } : MethodName) prog_10_method_3_code (1 : Nat) (Option.none : Option ClassFile.FieldType)) ∈ lw_tbl := List.mem_append_right _ (List.mem_of_getElem? (i := 879) (by decide +kernel))
set_option maxRecDepth 20000 in
theorem k_880 : (Cond.methodLink "StitchDesk$Shape" (47 : Nat) ({ cls := "StitchDesk$Shape", name := "joinRails", desc := "()V" } : MethodName)) ∈ lw_tbl := List.mem_append_right _ (List.mem_of_getElem? (i := 880) (by decide +kernel))
set_option maxRecDepth 20000 in
theorem k_881 : (Cond.privateMethod ({ cls := "StitchDesk$Shape", name := "joinRails", desc := "()V" } : MethodName)) ∈ lw_tbl := List.mem_append_right _ (List.mem_of_getElem? (i := 881) (by decide +kernel))
set_option maxRecDepth 20000 in
theorem k_882 : (Cond.instanceMethod ({ cls := "StitchDesk$Shape", name := "joinRails", desc := "()V" } : MethodName)) ∈ lw_tbl := List.mem_append_right _ (List.mem_of_getElem? (i := 882) (by decide +kernel))
set_option maxRecDepth 20000 in
theorem k_883 : (Cond.code ({ cls := "StitchDesk$Shape", name := "joinRails", desc := "()V" } : MethodName) prog_10_method_4_code (3 : Nat) (Option.none : Option ClassFile.FieldType)) ∈ lw_tbl := List.mem_append_right _ (List.mem_of_getElem? (i := 883) (by decide +kernel))
set_option maxRecDepth 20000 in
theorem k_884 : (Cond.methodLinkNest "StitchDesk$Shape" (63 : Nat) ({ cls := "StitchDesk$Ring", name := "add", desc := "(II)V" } : MethodName) "StitchDesk") ∈ lw_tbl := List.mem_append_right _ (List.mem_of_getElem? (i := 884) (by decide +kernel))
set_option maxRecDepth 20000 in
theorem k_885 : (Cond.methodLink "StitchDesk$Shape" (50 : Nat) ({ cls := "StitchDesk$Shape", name := "measure", desc := "()V" } : MethodName)) ∈ lw_tbl := List.mem_append_right _ (List.mem_of_getElem? (i := 885) (by decide +kernel))
set_option maxRecDepth 20000 in
theorem k_886 : (Cond.privateMethod ({ cls := "StitchDesk$Shape", name := "measure", desc := "()V" } : MethodName)) ∈ lw_tbl := List.mem_append_right _ (List.mem_of_getElem? (i := 886) (by decide +kernel))
set_option maxRecDepth 20000 in
theorem k_887 : (Cond.instanceMethod ({ cls := "StitchDesk$Shape", name := "measure", desc := "()V" } : MethodName)) ∈ lw_tbl := List.mem_append_right _ (List.mem_of_getElem? (i := 887) (by decide +kernel))
set_option maxRecDepth 20000 in
theorem k_888 : (Cond.code ({ cls := "StitchDesk$Shape", name := "measure", desc := "()V" } : MethodName) prog_10_method_5_code (4 : Nat) (Option.none : Option ClassFile.FieldType)) ∈ lw_tbl := List.mem_append_right _ (List.mem_of_getElem? (i := 888) (by decide +kernel))
set_option maxRecDepth 20000 in
theorem k_889 : (Cond.methodLink "StitchDesk$Shape" (79 : Nat) ({ cls := "java/lang/Math", name := "min", desc := "(II)I" } : MethodName)) ∈ lw_tbl := List.mem_append_right _ (List.mem_of_getElem? (i := 889) (by decide +kernel))
set_option maxRecDepth 20000 in
theorem k_890 : (Cond.methodLink "StitchDesk$Shape" (85 : Nat) ({ cls := "java/lang/Math", name := "max", desc := "(II)I" } : MethodName)) ∈ lw_tbl := List.mem_append_right _ (List.mem_of_getElem? (i := 890) (by decide +kernel))
set_option maxRecDepth 20000 in
theorem k_891 : (Cond.methodLink "StitchDeskLaw" (82 : Nat) ({ cls := "StitchDeskLaw", name := "shape", desc := "(LStitchDesk;II[J)I" } : MethodName)) ∈ lw_tbl := List.mem_append_right _ (List.mem_of_getElem? (i := 891) (by decide +kernel))
set_option maxRecDepth 20000 in
theorem k_892 : (Cond.static ({ cls := "StitchDeskLaw", name := "shape", desc := "(LStitchDesk;II[J)I" } : MethodName)) ∈ lw_tbl := List.mem_append_right _ (List.mem_of_getElem? (i := 892) (by decide +kernel))
set_option maxRecDepth 20000 in
theorem k_893 : (Cond.codeWith ({ cls := "StitchDeskLaw", name := "shape", desc := "(LStitchDesk;II[J)I" } : MethodName) method_7_code (5 : Nat) (Option.some ClassFile.FieldType.int) [((0 : Nat), (10 : Nat), (13 : Nat), (34 : Nat)), ((0 : Nat), (10 : Nat), (17 : Nat), (17 : Nat))]) ∈ lw_tbl := List.mem_append_right _ (List.mem_of_getElem? (i := 893) (by decide +kernel))
set_option maxRecDepth 20000 in
theorem k_894 : (Cond.classLink "StitchDeskLaw" (34 : Nat) "java/util/NoSuchElementException") ∈ lw_tbl := List.mem_append_right _ (List.mem_of_getElem? (i := 894) (by decide +kernel))
set_option maxRecDepth 20000 in
theorem k_895 : (Cond.methodLink "StitchDeskLaw" (30 : Nat) ({ cls := "StitchDesk", name := "shape", desc := "(II)I" } : MethodName)) ∈ lw_tbl := List.mem_append_right _ (List.mem_of_getElem? (i := 895) (by decide +kernel))
set_option maxRecDepth 20000 in
theorem k_896 : (Cond.instanceMethod ({ cls := "StitchDesk", name := "shape", desc := "(II)I" } : MethodName)) ∈ lw_tbl := List.mem_append_right _ (List.mem_of_getElem? (i := 896) (by decide +kernel))
set_option maxRecDepth 20000 in
theorem k_897 : (Cond.selects "StitchDesk" ({ cls := "StitchDesk", name := "shape", desc := "(II)I" } : MethodName) ({ cls := "StitchDesk", name := "shape", desc := "(II)I" } : MethodName)) ∈ lw_tbl := List.mem_append_right _ (List.mem_of_getElem? (i := 897) (by decide +kernel))
set_option maxRecDepth 20000 in
theorem k_898 : (Cond.code ({ cls := "StitchDesk", name := "shape", desc := "(II)I" } : MethodName) prog_1_method_7_code (4 : Nat) (Option.some ClassFile.FieldType.int)) ∈ lw_tbl := List.mem_append_right _ (List.mem_of_getElem? (i := 898) (by decide +kernel))
set_option maxRecDepth 20000 in
theorem k_899 : (Cond.classLink "StitchDesk" (149 : Nat) "java/util/NoSuchElementException") ∈ lw_tbl := List.mem_append_right _ (List.mem_of_getElem? (i := 899) (by decide +kernel))
set_option maxRecDepth 20000 in
theorem k_900 : (Cond.instantiable "java/util/NoSuchElementException" (6 : Nat)) ∈ lw_tbl := List.mem_append_right _ (List.mem_of_getElem? (i := 900) (by decide +kernel))
