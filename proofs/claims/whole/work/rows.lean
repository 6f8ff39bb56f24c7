section
-- ===== PART A: goes FIRST, ahead of the names: the tables' words, and 'selects' of the private methods out of them =====
/-- a private method of a class that the tables say can be made, by its rows of tables_1 -/
def lw_okq (q : MethodName × Nat) : Prop := (q.1.cls ≠ "java/lang/invoke/MethodHandle" ∧ q.1.cls ≠ "java/lang/invoke/VarHandle") ∧ Cond.instantiable q.1.cls q.2 ∈ tables_1 ∧ Cond.privateMethod q.1 ∈ tables_1 ∧ Cond.instanceMethod q.1 ∈ tables_1
theorem lw_p0 : lw_okq (⟨"StitchDesk$PathMaker", "restart", "()V"⟩, 7) := ⟨⟨by decide +kernel, by decide +kernel⟩, List.mem_of_getElem? (i := 245) (by decide +kernel), List.mem_of_getElem? (i := 364) (by decide +kernel), List.mem_of_getElem? (i := 365) (by decide +kernel)⟩
theorem lw_p1 : lw_okq (⟨"StitchDesk$Path", "clear", "()V"⟩, 3) := ⟨⟨by decide +kernel, by decide +kernel⟩, List.mem_of_getElem? (i := 251) (by decide +kernel), List.mem_of_getElem? (i := 368) (by decide +kernel), List.mem_of_getElem? (i := 369) (by decide +kernel)⟩
theorem lw_p2 : lw_okq (⟨"StitchDesk$PathMaker", "enter", "(LStitchDesk$Shape;)V"⟩, 7) := ⟨⟨by decide +kernel, by decide +kernel⟩, List.mem_of_getElem? (i := 245) (by decide +kernel), List.mem_of_getElem? (i := 372) (by decide +kernel), List.mem_of_getElem? (i := 373) (by decide +kernel)⟩
theorem lw_p3 : lw_okq (⟨"StitchDesk$RunTeller", "tell", "(LStitchDesk$Shape;LStitchDesk$RunTaker;)V"⟩, 1) := ⟨⟨by decide +kernel, by decide +kernel⟩, List.mem_of_getElem? (i := 186) (by decide +kernel), List.mem_of_getElem? (i := 376) (by decide +kernel), List.mem_of_getElem? (i := 377) (by decide +kernel)⟩
theorem lw_p4 : lw_okq (⟨"StitchDesk$RunTeller", "tellHatch", "(LStitchDesk$Shape;LStitchDesk$RunTaker;)V"⟩, 1) := ⟨⟨by decide +kernel, by decide +kernel⟩, List.mem_of_getElem? (i := 186) (by decide +kernel), List.mem_of_getElem? (i := 380) (by decide +kernel), List.mem_of_getElem? (i := 381) (by decide +kernel)⟩
theorem lw_p5 : lw_okq (⟨"StitchDesk$HatchLine", "lay", "(LStitchDesk$Shape;I)V"⟩, 13) := ⟨⟨by decide +kernel, by decide +kernel⟩, List.mem_of_getElem? (i := 192) (by decide +kernel), List.mem_of_getElem? (i := 393) (by decide +kernel), List.mem_of_getElem? (i := 394) (by decide +kernel)⟩
theorem lw_p6 : lw_okq (⟨"StitchDesk$HatchLine", "aim", "(II)V"⟩, 13) := ⟨⟨by decide +kernel, by decide +kernel⟩, List.mem_of_getElem? (i := 192) (by decide +kernel), List.mem_of_getElem? (i := 397) (by decide +kernel), List.mem_of_getElem? (i := 398) (by decide +kernel)⟩
theorem lw_p7 : lw_okq (⟨"StitchDesk$HatchLine", "narrow", "(IIII)V"⟩, 13) := ⟨⟨by decide +kernel, by decide +kernel⟩, List.mem_of_getElem? (i := 192) (by decide +kernel), List.mem_of_getElem? (i := 405) (by decide +kernel), List.mem_of_getElem? (i := 406) (by decide +kernel)⟩
theorem lw_p8 : lw_okq (⟨"StitchDesk$HatchLine", "empty", "()V"⟩, 13) := ⟨⟨by decide +kernel, by decide +kernel⟩, List.mem_of_getElem? (i := 192) (by decide +kernel), List.mem_of_getElem? (i := 409) (by decide +kernel), List.mem_of_getElem? (i := 410) (by decide +kernel)⟩
theorem lw_p9 : lw_okq (⟨"StitchDesk$Ring", "next", "(I)I"⟩, 3) := ⟨⟨by decide +kernel, by decide +kernel⟩, List.mem_of_getElem? (i := 39) (by decide +kernel), List.mem_of_getElem? (i := 419) (by decide +kernel), List.mem_of_getElem? (i := 420) (by decide +kernel)⟩
theorem lw_p10 : lw_okq (⟨"StitchDesk$HatchLine", "addEdge", "(IIII)V"⟩, 13) := ⟨⟨by decide +kernel, by decide +kernel⟩, List.mem_of_getElem? (i := 192) (by decide +kernel), List.mem_of_getElem? (i := 423) (by decide +kernel), List.mem_of_getElem? (i := 424) (by decide +kernel)⟩
theorem lw_p11 : lw_okq (⟨"StitchDesk$HatchLine", "narrowToZero", "(II)V"⟩, 13) := ⟨⟨by decide +kernel, by decide +kernel⟩, List.mem_of_getElem? (i := 192) (by decide +kernel), List.mem_of_getElem? (i := 427) (by decide +kernel), List.mem_of_getElem? (i := 428) (by decide +kernel)⟩
theorem lw_p12 : lw_okq (⟨"StitchDesk$HatchLine", "addSpan", "(II)V"⟩, 13) := ⟨⟨by decide +kernel, by decide +kernel⟩, List.mem_of_getElem? (i := 192) (by decide +kernel), List.mem_of_getElem? (i := 431) (by decide +kernel), List.mem_of_getElem? (i := 432) (by decide +kernel)⟩
theorem lw_p13 : lw_okq (⟨"StitchDesk$HatchLine", "insert", "(I)V"⟩, 13) := ⟨⟨by decide +kernel, by decide +kernel⟩, List.mem_of_getElem? (i := 192) (by decide +kernel), List.mem_of_getElem? (i := 435) (by decide +kernel), List.mem_of_getElem? (i := 436) (by decide +kernel)⟩
theorem lw_p14 : lw_okq (⟨"StitchDesk$HatchLine", "narrowToAboveZero", "(II)V"⟩, 13) := ⟨⟨by decide +kernel, by decide +kernel⟩, List.mem_of_getElem? (i := 192) (by decide +kernel), List.mem_of_getElem? (i := 439) (by decide +kernel), List.mem_of_getElem? (i := 440) (by decide +kernel)⟩
theorem lw_p15 : lw_okq (⟨"StitchDesk$HatchLine", "gatherParts", "()V"⟩, 13) := ⟨⟨by decide +kernel, by decide +kernel⟩, List.mem_of_getElem? (i := 192) (by decide +kernel), List.mem_of_getElem? (i := 444) (by decide +kernel), List.mem_of_getElem? (i := 445) (by decide +kernel)⟩
def lw_privs_1 : List (MethodName × Nat) := [(⟨"StitchDesk$PathMaker", "restart", "()V"⟩, 7), (⟨"StitchDesk$Path", "clear", "()V"⟩, 3), (⟨"StitchDesk$PathMaker", "enter", "(LStitchDesk$Shape;)V"⟩, 7), (⟨"StitchDesk$RunTeller", "tell", "(LStitchDesk$Shape;LStitchDesk$RunTaker;)V"⟩, 1), (⟨"StitchDesk$RunTeller", "tellHatch", "(LStitchDesk$Shape;LStitchDesk$RunTaker;)V"⟩, 1), (⟨"StitchDesk$HatchLine", "lay", "(LStitchDesk$Shape;I)V"⟩, 13), (⟨"StitchDesk$HatchLine", "aim", "(II)V"⟩, 13), (⟨"StitchDesk$HatchLine", "narrow", "(IIII)V"⟩, 13), (⟨"StitchDesk$HatchLine", "empty", "()V"⟩, 13), (⟨"StitchDesk$Ring", "next", "(I)I"⟩, 3), (⟨"StitchDesk$HatchLine", "addEdge", "(IIII)V"⟩, 13), (⟨"StitchDesk$HatchLine", "narrowToZero", "(II)V"⟩, 13), (⟨"StitchDesk$HatchLine", "addSpan", "(II)V"⟩, 13), (⟨"StitchDesk$HatchLine", "insert", "(I)V"⟩, 13), (⟨"StitchDesk$HatchLine", "narrowToAboveZero", "(II)V"⟩, 13), (⟨"StitchDesk$HatchLine", "gatherParts", "()V"⟩, 13)]
theorem lw_r1 : ∀ q ∈ lw_privs_1, lw_okq q := List.forall_mem_cons.mpr ⟨lw_p0, List.forall_mem_cons.mpr ⟨lw_p1, List.forall_mem_cons.mpr ⟨lw_p2, List.forall_mem_cons.mpr ⟨lw_p3, List.forall_mem_cons.mpr ⟨lw_p4, List.forall_mem_cons.mpr ⟨lw_p5, List.forall_mem_cons.mpr ⟨lw_p6, List.forall_mem_cons.mpr ⟨lw_p7, List.forall_mem_cons.mpr ⟨lw_p8, List.forall_mem_cons.mpr ⟨lw_p9, List.forall_mem_cons.mpr ⟨lw_p10, List.forall_mem_cons.mpr ⟨lw_p11, List.forall_mem_cons.mpr ⟨lw_p12, List.forall_mem_cons.mpr ⟨lw_p13, List.forall_mem_cons.mpr ⟨lw_p14, List.forall_mem_cons.mpr ⟨lw_p15, fun _ h => absurd h List.not_mem_nil⟩⟩⟩⟩⟩⟩⟩⟩⟩⟩⟩⟩⟩⟩⟩⟩
theorem lw_p16 : lw_okq (⟨"StitchDesk$HatchLine", "addPart", "(II)V"⟩, 13) := ⟨⟨by decide +kernel, by decide +kernel⟩, List.mem_of_getElem? (i := 192) (by decide +kernel), List.mem_of_getElem? (i := 448) (by decide +kernel), List.mem_of_getElem? (i := 449) (by decide +kernel)⟩
theorem lw_p17 : lw_okq (⟨"StitchDesk$HatchLine", "xAt", "(I)I"⟩, 13) := ⟨⟨by decide +kernel, by decide +kernel⟩, List.mem_of_getElem? (i := 192) (by decide +kernel), List.mem_of_getElem? (i := 468) (by decide +kernel), List.mem_of_getElem? (i := 469) (by decide +kernel)⟩
theorem lw_p18 : lw_okq (⟨"StitchDesk$HatchLine", "yAt", "(I)I"⟩, 13) := ⟨⟨by decide +kernel, by decide +kernel⟩, List.mem_of_getElem? (i := 192) (by decide +kernel), List.mem_of_getElem? (i := 472) (by decide +kernel), List.mem_of_getElem? (i := 473) (by decide +kernel)⟩
theorem lw_p19 : lw_okq (⟨"StitchDesk$PathMaker", "move", "(III)V"⟩, 7) := ⟨⟨by decide +kernel, by decide +kernel⟩, List.mem_of_getElem? (i := 245) (by decide +kernel), List.mem_of_getElem? (i := 485) (by decide +kernel), List.mem_of_getElem? (i := 486) (by decide +kernel)⟩
theorem lw_p20 : lw_okq (⟨"StitchDesk$PathMaker", "stepsTo", "(II)I"⟩, 7) := ⟨⟨by decide +kernel, by decide +kernel⟩, List.mem_of_getElem? (i := 245) (by decide +kernel), List.mem_of_getElem? (i := 489) (by decide +kernel), List.mem_of_getElem? (i := 490) (by decide +kernel)⟩
theorem lw_p21 : lw_okq (⟨"StitchDesk$Path", "add", "(III)V"⟩, 3) := ⟨⟨by decide +kernel, by decide +kernel⟩, List.mem_of_getElem? (i := 251) (by decide +kernel), List.mem_of_getElem? (i := 501) (by decide +kernel), List.mem_of_getElem? (i := 502) (by decide +kernel)⟩
theorem lw_p22 : lw_okq (⟨"StitchDesk$PathMaker", "changeThread", "()V"⟩, 7) := ⟨⟨by decide +kernel, by decide +kernel⟩, List.mem_of_getElem? (i := 245) (by decide +kernel), List.mem_of_getElem? (i := 505) (by decide +kernel), List.mem_of_getElem? (i := 506) (by decide +kernel)⟩
theorem lw_p23 : lw_okq (⟨"StitchDesk$PathMaker", "leap", "(II)V"⟩, 7) := ⟨⟨by decide +kernel, by decide +kernel⟩, List.mem_of_getElem? (i := 245) (by decide +kernel), List.mem_of_getElem? (i := 509) (by decide +kernel), List.mem_of_getElem? (i := 510) (by decide +kernel)⟩
theorem lw_p24 : lw_okq (⟨"StitchDesk$PathMaker", "staysInShape", "(II)Z"⟩, 7) := ⟨⟨by decide +kernel, by decide +kernel⟩, List.mem_of_getElem? (i := 245) (by decide +kernel), List.mem_of_getElem? (i := 513) (by decide +kernel), List.mem_of_getElem? (i := 514) (by decide +kernel)⟩
theorem lw_p25 : lw_okq (⟨"StitchDesk$Shape", "has", "(II)Z"⟩, 11) := ⟨⟨by decide +kernel, by decide +kernel⟩, List.mem_of_getElem? (i := 32) (by decide +kernel), List.mem_of_getElem? (i := 517) (by decide +kernel), List.mem_of_getElem? (i := 518) (by decide +kernel)⟩
theorem lw_p26 : lw_okq (⟨"StitchDesk$Ring", "sideOf", "(II)I"⟩, 3) := ⟨⟨by decide +kernel, by decide +kernel⟩, List.mem_of_getElem? (i := 39) (by decide +kernel), List.mem_of_getElem? (i := 521) (by decide +kernel), List.mem_of_getElem? (i := 522) (by decide +kernel)⟩
theorem lw_p27 : lw_okq (⟨"StitchDesk$RunTeller", "tellSatin", "(LStitchDesk$Shape;LStitchDesk$RunTaker;)V"⟩, 1) := ⟨⟨by decide +kernel, by decide +kernel⟩, List.mem_of_getElem? (i := 186) (by decide +kernel), List.mem_of_getElem? (i := 530) (by decide +kernel), List.mem_of_getElem? (i := 531) (by decide +kernel)⟩
theorem lw_p28 : lw_okq (⟨"StitchDesk$RunTeller", "tellOutline", "(LStitchDesk$Shape;LStitchDesk$RunTaker;)V"⟩, 1) := ⟨⟨by decide +kernel, by decide +kernel⟩, List.mem_of_getElem? (i := 186) (by decide +kernel), List.mem_of_getElem? (i := 544) (by decide +kernel), List.mem_of_getElem? (i := 545) (by decide +kernel)⟩
theorem lw_p29 : lw_okq (⟨"StitchDesk", "firstWrongGroup", "()I"⟩, 11) := ⟨⟨by decide +kernel, by decide +kernel⟩, List.mem_of_getElem? (i := 23) (by decide +kernel), List.mem_of_getElem? (i := 553) (by decide +kernel), List.mem_of_getElem? (i := 554) (by decide +kernel)⟩
theorem lw_p30 : lw_okq (⟨"StitchDesk", "groupAt", "(I)I"⟩, 11) := ⟨⟨by decide +kernel, by decide +kernel⟩, List.mem_of_getElem? (i := 23) (by decide +kernel), List.mem_of_getElem? (i := 557) (by decide +kernel), List.mem_of_getElem? (i := 558) (by decide +kernel)⟩
theorem lw_p31 : lw_okq (⟨"StitchDesk$Path", "addPacked", "(I)V"⟩, 3) := ⟨⟨by decide +kernel, by decide +kernel⟩, List.mem_of_getElem? (i := 251) (by decide +kernel), List.mem_of_getElem? (i := 565) (by decide +kernel), List.mem_of_getElem? (i := 566) (by decide +kernel)⟩
def lw_privs_2 : List (MethodName × Nat) := [(⟨"StitchDesk$HatchLine", "addPart", "(II)V"⟩, 13), (⟨"StitchDesk$HatchLine", "xAt", "(I)I"⟩, 13), (⟨"StitchDesk$HatchLine", "yAt", "(I)I"⟩, 13), (⟨"StitchDesk$PathMaker", "move", "(III)V"⟩, 7), (⟨"StitchDesk$PathMaker", "stepsTo", "(II)I"⟩, 7), (⟨"StitchDesk$Path", "add", "(III)V"⟩, 3), (⟨"StitchDesk$PathMaker", "changeThread", "()V"⟩, 7), (⟨"StitchDesk$PathMaker", "leap", "(II)V"⟩, 7), (⟨"StitchDesk$PathMaker", "staysInShape", "(II)Z"⟩, 7), (⟨"StitchDesk$Shape", "has", "(II)Z"⟩, 11), (⟨"StitchDesk$Ring", "sideOf", "(II)I"⟩, 3), (⟨"StitchDesk$RunTeller", "tellSatin", "(LStitchDesk$Shape;LStitchDesk$RunTaker;)V"⟩, 1), (⟨"StitchDesk$RunTeller", "tellOutline", "(LStitchDesk$Shape;LStitchDesk$RunTaker;)V"⟩, 1), (⟨"StitchDesk", "firstWrongGroup", "()I"⟩, 11), (⟨"StitchDesk", "groupAt", "(I)I"⟩, 11), (⟨"StitchDesk$Path", "addPacked", "(I)V"⟩, 3)]
theorem lw_r2 : ∀ q ∈ lw_privs_2, lw_okq q := List.forall_mem_cons.mpr ⟨lw_p16, List.forall_mem_cons.mpr ⟨lw_p17, List.forall_mem_cons.mpr ⟨lw_p18, List.forall_mem_cons.mpr ⟨lw_p19, List.forall_mem_cons.mpr ⟨lw_p20, List.forall_mem_cons.mpr ⟨lw_p21, List.forall_mem_cons.mpr ⟨lw_p22, List.forall_mem_cons.mpr ⟨lw_p23, List.forall_mem_cons.mpr ⟨lw_p24, List.forall_mem_cons.mpr ⟨lw_p25, List.forall_mem_cons.mpr ⟨lw_p26, List.forall_mem_cons.mpr ⟨lw_p27, List.forall_mem_cons.mpr ⟨lw_p28, List.forall_mem_cons.mpr ⟨lw_p29, List.forall_mem_cons.mpr ⟨lw_p30, List.forall_mem_cons.mpr ⟨lw_p31, fun _ h => absurd h List.not_mem_nil⟩⟩⟩⟩⟩⟩⟩⟩⟩⟩⟩⟩⟩⟩⟩⟩
theorem lw_p32 : lw_okq (⟨"StitchDesk$Planner", "plan", "([LStitchDesk$Shape;[II)I"⟩, 6) := ⟨⟨by decide +kernel, by decide +kernel⟩, List.mem_of_getElem? (i := 293) (by decide +kernel), List.mem_of_getElem? (i := 577) (by decide +kernel), List.mem_of_getElem? (i := 578) (by decide +kernel)⟩
theorem lw_p33 : lw_okq (⟨"StitchDesk$Planner", "gather", "([LStitchDesk$Shape;[I)V"⟩, 6) := ⟨⟨by decide +kernel, by decide +kernel⟩, List.mem_of_getElem? (i := 293) (by decide +kernel), List.mem_of_getElem? (i := 582) (by decide +kernel), List.mem_of_getElem? (i := 583) (by decide +kernel)⟩
theorem lw_p34 : lw_okq (⟨"StitchDesk$Shape", "meets", "(LStitchDesk$Shape;)Z"⟩, 11) := ⟨⟨by decide +kernel, by decide +kernel⟩, List.mem_of_getElem? (i := 32) (by decide +kernel), List.mem_of_getElem? (i := 586) (by decide +kernel), List.mem_of_getElem? (i := 587) (by decide +kernel)⟩
theorem lw_p35 : lw_okq (⟨"StitchDesk$Planner", "weighSets", "()V"⟩, 6) := ⟨⟨by decide +kernel, by decide +kernel⟩, List.mem_of_getElem? (i := 293) (by decide +kernel), List.mem_of_getElem? (i := 590) (by decide +kernel), List.mem_of_getElem? (i := 591) (by decide +kernel)⟩
theorem lw_p36 : lw_okq (⟨"StitchDesk$Planner", "mayFollow", "(II)Z"⟩, 6) := ⟨⟨by decide +kernel, by decide +kernel⟩, List.mem_of_getElem? (i := 293) (by decide +kernel), List.mem_of_getElem? (i := 594) (by decide +kernel), List.mem_of_getElem? (i := 595) (by decide +kernel)⟩
theorem lw_p37 : lw_okq (⟨"StitchDesk$Planner", "changesAfter", "(II)I"⟩, 6) := ⟨⟨by decide +kernel, by decide +kernel⟩, List.mem_of_getElem? (i := 293) (by decide +kernel), List.mem_of_getElem? (i := 598) (by decide +kernel), List.mem_of_getElem? (i := 599) (by decide +kernel)⟩
theorem lw_p38 : lw_okq (⟨"StitchDesk$Planner", "weigh", "(III)V"⟩, 6) := ⟨⟨by decide +kernel, by decide +kernel⟩, List.mem_of_getElem? (i := 293) (by decide +kernel), List.mem_of_getElem? (i := 602) (by decide +kernel), List.mem_of_getElem? (i := 603) (by decide +kernel)⟩
theorem lw_p39 : lw_okq (⟨"StitchDesk$Planner", "choose", "([I)V"⟩, 6) := ⟨⟨by decide +kernel, by decide +kernel⟩, List.mem_of_getElem? (i := 293) (by decide +kernel), List.mem_of_getElem? (i := 606) (by decide +kernel), List.mem_of_getElem? (i := 607) (by decide +kernel)⟩
theorem lw_p40 : lw_okq (⟨"StitchDesk$Path", "threadBehind", "(I)I"⟩, 3) := ⟨⟨by decide +kernel, by decide +kernel⟩, List.mem_of_getElem? (i := 251) (by decide +kernel), List.mem_of_getElem? (i := 621) (by decide +kernel), List.mem_of_getElem? (i := 622) (by decide +kernel)⟩
theorem lw_p41 : lw_okq (⟨"StitchDesk$Path", "kind", "(I)I"⟩, 3) := ⟨⟨by decide +kernel, by decide +kernel⟩, List.mem_of_getElem? (i := 251) (by decide +kernel), List.mem_of_getElem? (i := 625) (by decide +kernel), List.mem_of_getElem? (i := 626) (by decide +kernel)⟩
theorem lw_p42 : lw_okq (⟨"StitchDesk$Path", "dx", "(I)I"⟩, 3) := ⟨⟨by decide +kernel, by decide +kernel⟩, List.mem_of_getElem? (i := 251) (by decide +kernel), List.mem_of_getElem? (i := 629) (by decide +kernel), List.mem_of_getElem? (i := 630) (by decide +kernel)⟩
theorem lw_p43 : lw_okq (⟨"StitchDesk$Path", "dy", "(I)I"⟩, 3) := ⟨⟨by decide +kernel, by decide +kernel⟩, List.mem_of_getElem? (i := 251) (by decide +kernel), List.mem_of_getElem? (i := 633) (by decide +kernel), List.mem_of_getElem? (i := 634) (by decide +kernel)⟩
theorem lw_p44 : lw_okq (⟨"StitchDesk$Path", "fits", "(II)Z"⟩, 3) := ⟨⟨by decide +kernel, by decide +kernel⟩, List.mem_of_getElem? (i := 251) (by decide +kernel), List.mem_of_getElem? (i := 646) (by decide +kernel), List.mem_of_getElem? (i := 647) (by decide +kernel)⟩
theorem lw_p45 : lw_okq (⟨"java/lang/Throwable", "fillInStackTrace", "(I)Ljava/lang/Throwable;"⟩, 6) := ⟨⟨by decide +kernel, by decide +kernel⟩, List.mem_of_getElem? (i := 706) (by decide +kernel), List.mem_of_getElem? (i := 704) (by decide +kernel), List.mem_of_getElem? (i := 705) (by decide +kernel)⟩
theorem lw_p46 : lw_okq (⟨"StitchDesk$Shape", "reset", "(IIII)V"⟩, 11) := ⟨⟨by decide +kernel, by decide +kernel⟩, List.mem_of_getElem? (i := 32) (by decide +kernel), List.mem_of_getElem? (i := 768) (by decide +kernel), List.mem_of_getElem? (i := 769) (by decide +kernel)⟩
theorem lw_p47 : lw_okq (⟨"StitchDesk$Ring", "clear", "()V"⟩, 3) := ⟨⟨by decide +kernel, by decide +kernel⟩, List.mem_of_getElem? (i := 39) (by decide +kernel), List.mem_of_getElem? (i := 772) (by decide +kernel), List.mem_of_getElem? (i := 773) (by decide +kernel)⟩
def lw_privs_3 : List (MethodName × Nat) := [(⟨"StitchDesk$Planner", "plan", "([LStitchDesk$Shape;[II)I"⟩, 6), (⟨"StitchDesk$Planner", "gather", "([LStitchDesk$Shape;[I)V"⟩, 6), (⟨"StitchDesk$Shape", "meets", "(LStitchDesk$Shape;)Z"⟩, 11), (⟨"StitchDesk$Planner", "weighSets", "()V"⟩, 6), (⟨"StitchDesk$Planner", "mayFollow", "(II)Z"⟩, 6), (⟨"StitchDesk$Planner", "changesAfter", "(II)I"⟩, 6), (⟨"StitchDesk$Planner", "weigh", "(III)V"⟩, 6), (⟨"StitchDesk$Planner", "choose", "([I)V"⟩, 6), (⟨"StitchDesk$Path", "threadBehind", "(I)I"⟩, 3), (⟨"StitchDesk$Path", "kind", "(I)I"⟩, 3), (⟨"StitchDesk$Path", "dx", "(I)I"⟩, 3), (⟨"StitchDesk$Path", "dy", "(I)I"⟩, 3), (⟨"StitchDesk$Path", "fits", "(II)Z"⟩, 3), (⟨"java/lang/Throwable", "fillInStackTrace", "(I)Ljava/lang/Throwable;"⟩, 6), (⟨"StitchDesk$Shape", "reset", "(IIII)V"⟩, 11), (⟨"StitchDesk$Ring", "clear", "()V"⟩, 3)]
theorem lw_r3 : ∀ q ∈ lw_privs_3, lw_okq q := List.forall_mem_cons.mpr ⟨lw_p32, List.forall_mem_cons.mpr ⟨lw_p33, List.forall_mem_cons.mpr ⟨lw_p34, List.forall_mem_cons.mpr ⟨lw_p35, List.forall_mem_cons.mpr ⟨lw_p36, List.forall_mem_cons.mpr ⟨lw_p37, List.forall_mem_cons.mpr ⟨lw_p38, List.forall_mem_cons.mpr ⟨lw_p39, List.forall_mem_cons.mpr ⟨lw_p40, List.forall_mem_cons.mpr ⟨lw_p41, List.forall_mem_cons.mpr ⟨lw_p42, List.forall_mem_cons.mpr ⟨lw_p43, List.forall_mem_cons.mpr ⟨lw_p44, List.forall_mem_cons.mpr ⟨lw_p45, List.forall_mem_cons.mpr ⟨lw_p46, List.forall_mem_cons.mpr ⟨lw_p47, fun _ h => absurd h List.not_mem_nil⟩⟩⟩⟩⟩⟩⟩⟩⟩⟩⟩⟩⟩⟩⟩⟩
theorem lw_p48 : lw_okq (⟨"StitchDesk$Tally", "clear", "()V"⟩, 2) := ⟨⟨by decide +kernel, by decide +kernel⟩, List.mem_of_getElem? (i := 69) (by decide +kernel), List.mem_of_getElem? (i := 776) (by decide +kernel), List.mem_of_getElem? (i := 777) (by decide +kernel)⟩
theorem lw_p49 : lw_okq (⟨"StitchDesk$Ring", "add", "(II)V"⟩, 3) := ⟨⟨by decide +kernel, by decide +kernel⟩, List.mem_of_getElem? (i := 39) (by decide +kernel), List.mem_of_getElem? (i := 793) (by decide +kernel), List.mem_of_getElem? (i := 794) (by decide +kernel)⟩
theorem lw_p50 : lw_okq (⟨"StitchDesk$Inspector", "inspect", "(LStitchDesk$Shape;)I"⟩, 9) := ⟨⟨by decide +kernel, by decide +kernel⟩, List.mem_of_getElem? (i := 149) (by decide +kernel), List.mem_of_getElem? (i := 815) (by decide +kernel), List.mem_of_getElem? (i := 816) (by decide +kernel)⟩
theorem lw_p51 : lw_okq (⟨"StitchDesk$Inspector", "faultOfRails", "(LStitchDesk$Shape;)I"⟩, 9) := ⟨⟨by decide +kernel, by decide +kernel⟩, List.mem_of_getElem? (i := 149) (by decide +kernel), List.mem_of_getElem? (i := 819) (by decide +kernel), List.mem_of_getElem? (i := 820) (by decide +kernel)⟩
theorem lw_p52 : lw_okq (⟨"StitchDesk$Inspector", "faultOfRings", "(LStitchDesk$Shape;)I"⟩, 9) := ⟨⟨by decide +kernel, by decide +kernel⟩, List.mem_of_getElem? (i := 149) (by decide +kernel), List.mem_of_getElem? (i := 823) (by decide +kernel), List.mem_of_getElem? (i := 824) (by decide +kernel)⟩
theorem lw_p53 : lw_okq (⟨"StitchDesk$Inspector", "hasFlatRing", "(LStitchDesk$Shape;)Z"⟩, 9) := ⟨⟨by decide +kernel, by decide +kernel⟩, List.mem_of_getElem? (i := 149) (by decide +kernel), List.mem_of_getElem? (i := 827) (by decide +kernel), List.mem_of_getElem? (i := 828) (by decide +kernel)⟩
theorem lw_p54 : lw_okq (⟨"StitchDesk$Ring", "isFlat", "()Z"⟩, 3) := ⟨⟨by decide +kernel, by decide +kernel⟩, List.mem_of_getElem? (i := 39) (by decide +kernel), List.mem_of_getElem? (i := 831) (by decide +kernel), List.mem_of_getElem? (i := 832) (by decide +kernel)⟩
theorem lw_p55 : lw_okq (⟨"StitchDesk$Inspector", "gatherEdges", "(LStitchDesk$Shape;)V"⟩, 9) := ⟨⟨by decide +kernel, by decide +kernel⟩, List.mem_of_getElem? (i := 149) (by decide +kernel), List.mem_of_getElem? (i := 835) (by decide +kernel), List.mem_of_getElem? (i := 836) (by decide +kernel)⟩
theorem lw_p56 : lw_okq (⟨"StitchDesk$Inspector", "findCrossing", "()Z"⟩, 9) := ⟨⟨by decide +kernel, by decide +kernel⟩, List.mem_of_getElem? (i := 149) (by decide +kernel), List.mem_of_getElem? (i := 840) (by decide +kernel), List.mem_of_getElem? (i := 841) (by decide +kernel)⟩
theorem lw_p57 : lw_okq (⟨"StitchDesk$Inspector", "areCrossed", "(II)Z"⟩, 9) := ⟨⟨by decide +kernel, by decide +kernel⟩, List.mem_of_getElem? (i := 149) (by decide +kernel), List.mem_of_getElem? (i := 844) (by decide +kernel), List.mem_of_getElem? (i := 845) (by decide +kernel)⟩
theorem lw_p58 : lw_okq (⟨"StitchDesk$Inspector", "turnsBack", "(II)Z"⟩, 9) := ⟨⟨by decide +kernel, by decide +kernel⟩, List.mem_of_getElem? (i := 149) (by decide +kernel), List.mem_of_getElem? (i := 848) (by decide +kernel), List.mem_of_getElem? (i := 849) (by decide +kernel)⟩
theorem lw_p59 : lw_okq (⟨"StitchDesk$Inspector", "sharePoint", "(II)Z"⟩, 9) := ⟨⟨by decide +kernel, by decide +kernel⟩, List.mem_of_getElem? (i := 149) (by decide +kernel), List.mem_of_getElem? (i := 852) (by decide +kernel), List.mem_of_getElem? (i := 853) (by decide +kernel)⟩
theorem lw_p60 : lw_okq (⟨"StitchDesk$Inspector", "turn", "(III)I"⟩, 9) := ⟨⟨by decide +kernel, by decide +kernel⟩, List.mem_of_getElem? (i := 149) (by decide +kernel), List.mem_of_getElem? (i := 858) (by decide +kernel), List.mem_of_getElem? (i := 859) (by decide +kernel)⟩
theorem lw_p61 : lw_okq (⟨"StitchDesk$Inspector", "hasHoleOutside", "(LStitchDesk$Shape;)Z"⟩, 9) := ⟨⟨by decide +kernel, by decide +kernel⟩, List.mem_of_getElem? (i := 149) (by decide +kernel), List.mem_of_getElem? (i := 865) (by decide +kernel), List.mem_of_getElem? (i := 866) (by decide +kernel)⟩
theorem lw_p62 : lw_okq (⟨"StitchDesk$Inspector", "hasHoleWithin", "(LStitchDesk$Shape;)Z"⟩, 9) := ⟨⟨by decide +kernel, by decide +kernel⟩, List.mem_of_getElem? (i := 149) (by decide +kernel), List.mem_of_getElem? (i := 873) (by decide +kernel), List.mem_of_getElem? (i := 874) (by decide +kernel)⟩
theorem lw_p63 : lw_okq (⟨"StitchDesk$Shape", "finish", "()V"⟩, 11) := ⟨⟨by decide +kernel, by decide +kernel⟩, List.mem_of_getElem? (i := 32) (by decide +kernel), List.mem_of_getElem? (i := 877) (by decide +kernel), List.mem_of_getElem? (i := 878) (by decide +kernel)⟩
def lw_privs_4 : List (MethodName × Nat) := [(⟨"StitchDesk$Tally", "clear", "()V"⟩, 2), (⟨"StitchDesk$Ring", "add", "(II)V"⟩, 3), (⟨"StitchDesk$Inspector", "inspect", "(LStitchDesk$Shape;)I"⟩, 9), (⟨"StitchDesk$Inspector", "faultOfRails", "(LStitchDesk$Shape;)I"⟩, 9), (⟨"StitchDesk$Inspector", "faultOfRings", "(LStitchDesk$Shape;)I"⟩, 9), (⟨"StitchDesk$Inspector", "hasFlatRing", "(LStitchDesk$Shape;)Z"⟩, 9), (⟨"StitchDesk$Ring", "isFlat", "()Z"⟩, 3), (⟨"StitchDesk$Inspector", "gatherEdges", "(LStitchDesk$Shape;)V"⟩, 9), (⟨"StitchDesk$Inspector", "findCrossing", "()Z"⟩, 9), (⟨"StitchDesk$Inspector", "areCrossed", "(II)Z"⟩, 9), (⟨"StitchDesk$Inspector", "turnsBack", "(II)Z"⟩, 9), (⟨"StitchDesk$Inspector", "sharePoint", "(II)Z"⟩, 9), (⟨"StitchDesk$Inspector", "turn", "(III)I"⟩, 9), (⟨"StitchDesk$Inspector", "hasHoleOutside", "(LStitchDesk$Shape;)Z"⟩, 9), (⟨"StitchDesk$Inspector", "hasHoleWithin", "(LStitchDesk$Shape;)Z"⟩, 9), (⟨"StitchDesk$Shape", "finish", "()V"⟩, 11)]
theorem lw_r4 : ∀ q ∈ lw_privs_4, lw_okq q := List.forall_mem_cons.mpr ⟨lw_p48, List.forall_mem_cons.mpr ⟨lw_p49, List.forall_mem_cons.mpr ⟨lw_p50, List.forall_mem_cons.mpr ⟨lw_p51, List.forall_mem_cons.mpr ⟨lw_p52, List.forall_mem_cons.mpr ⟨lw_p53, List.forall_mem_cons.mpr ⟨lw_p54, List.forall_mem_cons.mpr ⟨lw_p55, List.forall_mem_cons.mpr ⟨lw_p56, List.forall_mem_cons.mpr ⟨lw_p57, List.forall_mem_cons.mpr ⟨lw_p58, List.forall_mem_cons.mpr ⟨lw_p59, List.forall_mem_cons.mpr ⟨lw_p60, List.forall_mem_cons.mpr ⟨lw_p61, List.forall_mem_cons.mpr ⟨lw_p62, List.forall_mem_cons.mpr ⟨lw_p63, fun _ h => absurd h List.not_mem_nil⟩⟩⟩⟩⟩⟩⟩⟩⟩⟩⟩⟩⟩⟩⟩⟩
theorem lw_p64 : lw_okq (⟨"StitchDesk$Shape", "joinRails", "()V"⟩, 11) := ⟨⟨by decide +kernel, by decide +kernel⟩, List.mem_of_getElem? (i := 32) (by decide +kernel), List.mem_of_getElem? (i := 881) (by decide +kernel), List.mem_of_getElem? (i := 882) (by decide +kernel)⟩
theorem lw_p65 : lw_okq (⟨"StitchDesk$Shape", "measure", "()V"⟩, 11) := ⟨⟨by decide +kernel, by decide +kernel⟩, List.mem_of_getElem? (i := 32) (by decide +kernel), List.mem_of_getElem? (i := 886) (by decide +kernel), List.mem_of_getElem? (i := 887) (by decide +kernel)⟩
theorem lw_p66 : lw_okq (⟨"StitchDesk$Path", "packed", "(I)I"⟩, 3) := ⟨⟨by decide +kernel, by decide +kernel⟩, List.mem_of_getElem? (i := 251) (by decide +kernel), List.mem_of_getElem? (i := 951) (by decide +kernel), List.mem_of_getElem? (i := 952) (by decide +kernel)⟩
theorem lw_p67 : lw_okq (⟨"StitchDeskModel", "oneMore", "(III)I"⟩, 34) := ⟨⟨by decide +kernel, by decide +kernel⟩, List.mem_of_getElem? (i := 984) (by decide +kernel), List.mem_of_getElem? (i := 1109) (by decide +kernel), List.mem_of_getElem? (i := 1110) (by decide +kernel)⟩
theorem lw_p68 : lw_okq (⟨"StitchDeskModel", "findFault", "()I"⟩, 34) := ⟨⟨by decide +kernel, by decide +kernel⟩, List.mem_of_getElem? (i := 984) (by decide +kernel), List.mem_of_getElem? (i := 1121) (by decide +kernel), List.mem_of_getElem? (i := 1122) (by decide +kernel)⟩
theorem lw_p69 : lw_okq (⟨"StitchDeskModel", "flat", "()Z"⟩, 34) := ⟨⟨by decide +kernel, by decide +kernel⟩, List.mem_of_getElem? (i := 984) (by decide +kernel), List.mem_of_getElem? (i := 1125) (by decide +kernel), List.mem_of_getElem? (i := 1126) (by decide +kernel)⟩
theorem lw_p70 : lw_okq (⟨"StitchDeskModel", "edgesOf", "(I)V"⟩, 34) := ⟨⟨by decide +kernel, by decide +kernel⟩, List.mem_of_getElem? (i := 984) (by decide +kernel), List.mem_of_getElem? (i := 1132) (by decide +kernel), List.mem_of_getElem? (i := 1133) (by decide +kernel)⟩
theorem lw_p71 : lw_okq (⟨"StitchDeskModel", "railCorner", "(II)I"⟩, 34) := ⟨⟨by decide +kernel, by decide +kernel⟩, List.mem_of_getElem? (i := 984) (by decide +kernel), List.mem_of_getElem? (i := 1136) (by decide +kernel), List.mem_of_getElem? (i := 1137) (by decide +kernel)⟩
theorem lw_p72 : lw_okq (⟨"StitchDeskModel", "edge", "(IIIIII)V"⟩, 34) := ⟨⟨by decide +kernel, by decide +kernel⟩, List.mem_of_getElem? (i := 984) (by decide +kernel), List.mem_of_getElem? (i := 1140) (by decide +kernel), List.mem_of_getElem? (i := 1141) (by decide +kernel)⟩
theorem lw_p73 : lw_okq (⟨"StitchDeskModel", "crossed", "(II)Z"⟩, 34) := ⟨⟨by decide +kernel, by decide +kernel⟩, List.mem_of_getElem? (i := 984) (by decide +kernel), List.mem_of_getElem? (i := 1144) (by decide +kernel), List.mem_of_getElem? (i := 1145) (by decide +kernel)⟩
theorem lw_p74 : lw_okq (⟨"StitchDeskModel", "touch", "(II)Z"⟩, 34) := ⟨⟨by decide +kernel, by decide +kernel⟩, List.mem_of_getElem? (i := 984) (by decide +kernel), List.mem_of_getElem? (i := 1148) (by decide +kernel), List.mem_of_getElem? (i := 1149) (by decide +kernel)⟩
theorem lw_p75 : lw_okq (⟨"StitchDeskModel", "onEdge", "(III)Z"⟩, 34) := ⟨⟨by decide +kernel, by decide +kernel⟩, List.mem_of_getElem? (i := 984) (by decide +kernel), List.mem_of_getElem? (i := 1152) (by decide +kernel), List.mem_of_getElem? (i := 1153) (by decide +kernel)⟩
theorem lw_p76 : lw_okq (⟨"StitchDeskModel", "folded", "(II)Z"⟩, 34) := ⟨⟨by decide +kernel, by decide +kernel⟩, List.mem_of_getElem? (i := 984) (by decide +kernel), List.mem_of_getElem? (i := 1162) (by decide +kernel), List.mem_of_getElem? (i := 1163) (by decide +kernel)⟩
theorem lw_p77 : lw_okq (⟨"StitchDeskModel", "inside", "(III)Z"⟩, 34) := ⟨⟨by decide +kernel, by decide +kernel⟩, List.mem_of_getElem? (i := 984) (by decide +kernel), List.mem_of_getElem? (i := 1166) (by decide +kernel), List.mem_of_getElem? (i := 1167) (by decide +kernel)⟩
theorem lw_p78 : lw_okq (⟨"StitchDeskModel", "passes", "(III)Z"⟩, 34) := ⟨⟨by decide +kernel, by decide +kernel⟩, List.mem_of_getElem? (i := 984) (by decide +kernel), List.mem_of_getElem? (i := 1170) (by decide +kernel), List.mem_of_getElem? (i := 1171) (by decide +kernel)⟩
theorem lw_p79 : lw_okq (⟨"StitchDeskModel", "runsOf", "(IZ)V"⟩, 34) := ⟨⟨by decide +kernel, by decide +kernel⟩, List.mem_of_getElem? (i := 984) (by decide +kernel), List.mem_of_getElem? (i := 1182) (by decide +kernel), List.mem_of_getElem? (i := 1183) (by decide +kernel)⟩
def lw_privs_5 : List (MethodName × Nat) := [(⟨"StitchDesk$Shape", "joinRails", "()V"⟩, 11), (⟨"StitchDesk$Shape", "measure", "()V"⟩, 11), (⟨"StitchDesk$Path", "packed", "(I)I"⟩, 3), (⟨"StitchDeskModel", "oneMore", "(III)I"⟩, 34), (⟨"StitchDeskModel", "findFault", "()I"⟩, 34), (⟨"StitchDeskModel", "flat", "()Z"⟩, 34), (⟨"StitchDeskModel", "edgesOf", "(I)V"⟩, 34), (⟨"StitchDeskModel", "railCorner", "(II)I"⟩, 34), (⟨"StitchDeskModel", "edge", "(IIIIII)V"⟩, 34), (⟨"StitchDeskModel", "crossed", "(II)Z"⟩, 34), (⟨"StitchDeskModel", "touch", "(II)Z"⟩, 34), (⟨"StitchDeskModel", "onEdge", "(III)Z"⟩, 34), (⟨"StitchDeskModel", "folded", "(II)Z"⟩, 34), (⟨"StitchDeskModel", "inside", "(III)Z"⟩, 34), (⟨"StitchDeskModel", "passes", "(III)Z"⟩, 34), (⟨"StitchDeskModel", "runsOf", "(IZ)V"⟩, 34)]
theorem lw_r5 : ∀ q ∈ lw_privs_5, lw_okq q := List.forall_mem_cons.mpr ⟨lw_p64, List.forall_mem_cons.mpr ⟨lw_p65, List.forall_mem_cons.mpr ⟨lw_p66, List.forall_mem_cons.mpr ⟨lw_p67, List.forall_mem_cons.mpr ⟨lw_p68, List.forall_mem_cons.mpr ⟨lw_p69, List.forall_mem_cons.mpr ⟨lw_p70, List.forall_mem_cons.mpr ⟨lw_p71, List.forall_mem_cons.mpr ⟨lw_p72, List.forall_mem_cons.mpr ⟨lw_p73, List.forall_mem_cons.mpr ⟨lw_p74, List.forall_mem_cons.mpr ⟨lw_p75, List.forall_mem_cons.mpr ⟨lw_p76, List.forall_mem_cons.mpr ⟨lw_p77, List.forall_mem_cons.mpr ⟨lw_p78, List.forall_mem_cons.mpr ⟨lw_p79, fun _ h => absurd h List.not_mem_nil⟩⟩⟩⟩⟩⟩⟩⟩⟩⟩⟩⟩⟩⟩⟩⟩
theorem lw_p80 : lw_okq (⟨"StitchDeskModel", "hatch", "(I)V"⟩, 34) := ⟨⟨by decide +kernel, by decide +kernel⟩, List.mem_of_getElem? (i := 984) (by decide +kernel), List.mem_of_getElem? (i := 1186) (by decide +kernel), List.mem_of_getElem? (i := 1187) (by decide +kernel)⟩
theorem lw_p81 : lw_okq (⟨"StitchDeskModel", "line", "(IIIZ)V"⟩, 34) := ⟨⟨by decide +kernel, by decide +kernel⟩, List.mem_of_getElem? (i := 984) (by decide +kernel), List.mem_of_getElem? (i := 1193) (by decide +kernel), List.mem_of_getElem? (i := 1194) (by decide +kernel)⟩
theorem lw_p82 : lw_okq (⟨"StitchDeskModel", "in", "(II)Z"⟩, 34) := ⟨⟨by decide +kernel, by decide +kernel⟩, List.mem_of_getElem? (i := 984) (by decide +kernel), List.mem_of_getElem? (i := 1203) (by decide +kernel), List.mem_of_getElem? (i := 1204) (by decide +kernel)⟩
theorem lw_p83 : lw_okq (⟨"StitchDeskModel", "comes", "(IIIZ)V"⟩, 34) := ⟨⟨by decide +kernel, by decide +kernel⟩, List.mem_of_getElem? (i := 984) (by decide +kernel), List.mem_of_getElem? (i := 1207) (by decide +kernel), List.mem_of_getElem? (i := 1208) (by decide +kernel)⟩
theorem lw_p84 : lw_okq (⟨"StitchDeskModel", "move", "(III)V"⟩, 34) := ⟨⟨by decide +kernel, by decide +kernel⟩, List.mem_of_getElem? (i := 984) (by decide +kernel), List.mem_of_getElem? (i := 1211) (by decide +kernel), List.mem_of_getElem? (i := 1212) (by decide +kernel)⟩
theorem lw_p85 : lw_okq (⟨"StitchDeskModel", "stepsTo", "(II)I"⟩, 34) := ⟨⟨by decide +kernel, by decide +kernel⟩, List.mem_of_getElem? (i := 984) (by decide +kernel), List.mem_of_getElem? (i := 1215) (by decide +kernel), List.mem_of_getElem? (i := 1216) (by decide +kernel)⟩
theorem lw_p86 : lw_okq (⟨"StitchDeskModel", "step", "(III)V"⟩, 34) := ⟨⟨by decide +kernel, by decide +kernel⟩, List.mem_of_getElem? (i := 984) (by decide +kernel), List.mem_of_getElem? (i := 1222) (by decide +kernel), List.mem_of_getElem? (i := 1223) (by decide +kernel)⟩
theorem lw_p87 : lw_okq (⟨"StitchDeskModel", "leap", "(II)V"⟩, 34) := ⟨⟨by decide +kernel, by decide +kernel⟩, List.mem_of_getElem? (i := 984) (by decide +kernel), List.mem_of_getElem? (i := 1226) (by decide +kernel), List.mem_of_getElem? (i := 1227) (by decide +kernel)⟩
theorem lw_p88 : lw_okq (⟨"StitchDeskModel", "stepsIn", "(II)Z"⟩, 34) := ⟨⟨by decide +kernel, by decide +kernel⟩, List.mem_of_getElem? (i := 984) (by decide +kernel), List.mem_of_getElem? (i := 1230) (by decide +kernel), List.mem_of_getElem? (i := 1231) (by decide +kernel)⟩
theorem lw_p89 : lw_okq (⟨"StitchDeskModel", "satin", "(I)V"⟩, 34) := ⟨⟨by decide +kernel, by decide +kernel⟩, List.mem_of_getElem? (i := 984) (by decide +kernel), List.mem_of_getElem? (i := 1234) (by decide +kernel), List.mem_of_getElem? (i := 1235) (by decide +kernel)⟩
theorem lw_p90 : lw_okq (⟨"StitchDeskModel", "outline", "(I)V"⟩, 34) := ⟨⟨by decide +kernel, by decide +kernel⟩, List.mem_of_getElem? (i := 984) (by decide +kernel), List.mem_of_getElem? (i := 1238) (by decide +kernel), List.mem_of_getElem? (i := 1239) (by decide +kernel)⟩
theorem lw_p91 : lw_okq (⟨"StitchDeskModel", "group", "(I)I"⟩, 34) := ⟨⟨by decide +kernel, by decide +kernel⟩, List.mem_of_getElem? (i := 984) (by decide +kernel), List.mem_of_getElem? (i := 1269) (by decide +kernel), List.mem_of_getElem? (i := 1270) (by decide +kernel)⟩
theorem lw_p92 : lw_okq (⟨"StitchDeskModel", "findLeft", "()V"⟩, 34) := ⟨⟨by decide +kernel, by decide +kernel⟩, List.mem_of_getElem? (i := 984) (by decide +kernel), List.mem_of_getElem? (i := 1280) (by decide +kernel), List.mem_of_getElem? (i := 1281) (by decide +kernel)⟩
theorem lw_p93 : lw_okq (⟨"StitchDeskModel", "mayCome", "(II)Z"⟩, 34) := ⟨⟨by decide +kernel, by decide +kernel⟩, List.mem_of_getElem? (i := 984) (by decide +kernel), List.mem_of_getElem? (i := 1284) (by decide +kernel), List.mem_of_getElem? (i := 1285) (by decide +kernel)⟩
theorem lw_p94 : lw_okq (⟨"StitchDeskModel", "meetBoxes", "(II)Z"⟩, 34) := ⟨⟨by decide +kernel, by decide +kernel⟩, List.mem_of_getElem? (i := 984) (by decide +kernel), List.mem_of_getElem? (i := 1288) (by decide +kernel), List.mem_of_getElem? (i := 1289) (by decide +kernel)⟩
theorem lw_p95 : lw_okq (⟨"StitchDeskModel", "costOf", "(III)I"⟩, 34) := ⟨⟨by decide +kernel, by decide +kernel⟩, List.mem_of_getElem? (i := 984) (by decide +kernel), List.mem_of_getElem? (i := 1292) (by decide +kernel), List.mem_of_getElem? (i := 1293) (by decide +kernel)⟩
def lw_privs_6 : List (MethodName × Nat) := [(⟨"StitchDeskModel", "hatch", "(I)V"⟩, 34), (⟨"StitchDeskModel", "line", "(IIIZ)V"⟩, 34), (⟨"StitchDeskModel", "in", "(II)Z"⟩, 34), (⟨"StitchDeskModel", "comes", "(IIIZ)V"⟩, 34), (⟨"StitchDeskModel", "move", "(III)V"⟩, 34), (⟨"StitchDeskModel", "stepsTo", "(II)I"⟩, 34), (⟨"StitchDeskModel", "step", "(III)V"⟩, 34), (⟨"StitchDeskModel", "leap", "(II)V"⟩, 34), (⟨"StitchDeskModel", "stepsIn", "(II)Z"⟩, 34), (⟨"StitchDeskModel", "satin", "(I)V"⟩, 34), (⟨"StitchDeskModel", "outline", "(I)V"⟩, 34), (⟨"StitchDeskModel", "group", "(I)I"⟩, 34), (⟨"StitchDeskModel", "findLeft", "()V"⟩, 34), (⟨"StitchDeskModel", "mayCome", "(II)Z"⟩, 34), (⟨"StitchDeskModel", "meetBoxes", "(II)Z"⟩, 34), (⟨"StitchDeskModel", "costOf", "(III)I"⟩, 34)]
theorem lw_r6 : ∀ q ∈ lw_privs_6, lw_okq q := List.forall_mem_cons.mpr ⟨lw_p80, List.forall_mem_cons.mpr ⟨lw_p81, List.forall_mem_cons.mpr ⟨lw_p82, List.forall_mem_cons.mpr ⟨lw_p83, List.forall_mem_cons.mpr ⟨lw_p84, List.forall_mem_cons.mpr ⟨lw_p85, List.forall_mem_cons.mpr ⟨lw_p86, List.forall_mem_cons.mpr ⟨lw_p87, List.forall_mem_cons.mpr ⟨lw_p88, List.forall_mem_cons.mpr ⟨lw_p89, List.forall_mem_cons.mpr ⟨lw_p90, List.forall_mem_cons.mpr ⟨lw_p91, List.forall_mem_cons.mpr ⟨lw_p92, List.forall_mem_cons.mpr ⟨lw_p93, List.forall_mem_cons.mpr ⟨lw_p94, List.forall_mem_cons.mpr ⟨lw_p95, fun _ h => absurd h List.not_mem_nil⟩⟩⟩⟩⟩⟩⟩⟩⟩⟩⟩⟩⟩⟩⟩⟩
def lw_privs : List (MethodName × Nat) := lw_privs_1 ++ (lw_privs_2 ++ (lw_privs_3 ++ (lw_privs_4 ++ (lw_privs_5 ++ (lw_privs_6)))))
def lw_tbl : List Cond := k2_sels lw_privs ++ tables_1
theorem lw_privs_ok : ∀ q ∈ lw_privs, lw_okq q := by
  show ∀ q ∈ lw_privs_1 ++ (lw_privs_2 ++ (lw_privs_3 ++ (lw_privs_4 ++ (lw_privs_5 ++ (lw_privs_6))))), lw_okq q
  exact List.forall_mem_append.mpr ⟨lw_r1, List.forall_mem_append.mpr ⟨lw_r2, List.forall_mem_append.mpr ⟨lw_r3, List.forall_mem_append.mpr ⟨lw_r4, List.forall_mem_append.mpr ⟨lw_r5, lw_r6⟩⟩⟩⟩⟩
end
section
def R_Dk : String := "StitchDesk"
def T_Dk : u_T := fun k => match k with
  | 0 => ("StitchDesk", "shapes", "[LStitchDesk$Shape;", true)
  | 1 => ("StitchDesk", "sequence", "[I", true)
  | 2 => ("StitchDesk", "loaded", "[I", true)
  | 3 => ("StitchDesk", "inspector", "LStitchDesk$Inspector;", true)
  | 4 => ("StitchDesk", "teller", "LStitchDesk$RunTeller;", true)
  | 5 => ("StitchDesk", "path", "LStitchDesk$Path;", true)
  | 6 => ("StitchDesk", "maker", "LStitchDesk$PathMaker;", true)
  | 7 => ("StitchDesk", "planner", "LStitchDesk$Planner;", true)
  | 8 => ("StitchDesk", "shapeTotal", "I", false)
  | 9 => ("StitchDesk", "loadedTotal", "I", false)
  | _ => ("StitchDesk", "open", "Z", false)
def ty_Dk : Nat → FieldType := fun k => match k with
  | 0 => .array (.object "StitchDesk$Shape")
  | 1 => .array .int
  | 2 => .array .int
  | 3 => .object "StitchDesk$Inspector"
  | 4 => .object "StitchDesk$RunTeller"
  | 5 => .object "StitchDesk$Path"
  | 6 => .object "StitchDesk$PathMaker"
  | 7 => .object "StitchDesk$Planner"
  | 8 => .int
  | 9 => .int
  | _ => .boolean
theorem nm_Dk : ∀ a, a < 11 → ∀ b, b < 11 → a ≠ b → (T_Dk a).2.1 ≠ (T_Dk b).2.1 := by decide +kernel
theorem ok_Dk : ∀ k, k < 11 → parseFieldDescriptor (T_Dk k).2.2.1 = some (ty_Dk k) := by decide +kernel
def R_Sh : String := "StitchDesk$Shape"
def T_Sh : u_T := fun k => match k with
  | 0 => ("StitchDesk$Shape", "rings", "[LStitchDesk$Ring;", true)
  | 1 => ("StitchDesk$Shape", "rails", "[LStitchDesk$Ring;", true)
  | 2 => ("StitchDesk$Shape", "tally", "LStitchDesk$Tally;", true)
  | 3 => ("StitchDesk$Shape", "colour", "I", false)
  | 4 => ("StitchDesk$Shape", "fill", "I", false)
  | 5 => ("StitchDesk$Shape", "spacing", "I", false)
  | 6 => ("StitchDesk$Shape", "direction", "I", false)
  | 7 => ("StitchDesk$Shape", "left", "I", false)
  | 8 => ("StitchDesk$Shape", "top", "I", false)
  | 9 => ("StitchDesk$Shape", "right", "I", false)
  | _ => ("StitchDesk$Shape", "bottom", "I", false)
def ty_Sh : Nat → FieldType := fun k => match k with
  | 0 => .array (.object "StitchDesk$Ring")
  | 1 => .array (.object "StitchDesk$Ring")
  | 2 => .object "StitchDesk$Tally"
  | 3 => .int
  | 4 => .int
  | 5 => .int
  | 6 => .int
  | 7 => .int
  | 8 => .int
  | 9 => .int
  | _ => .int
theorem nm_Sh : ∀ a, a < 11 → ∀ b, b < 11 → a ≠ b → (T_Sh a).2.1 ≠ (T_Sh b).2.1 := by decide +kernel
theorem ok_Sh : ∀ k, k < 11 → parseFieldDescriptor (T_Sh k).2.2.1 = some (ty_Sh k) := by decide +kernel
def R_Rg : String := "StitchDesk$Ring"
def T_Rg : u_T := fun k => match k with
  | 0 => ("StitchDesk$Ring", "xs", "[I", true)
  | 1 => ("StitchDesk$Ring", "ys", "[I", true)
  | _ => ("StitchDesk$Ring", "size", "I", false)
def ty_Rg : Nat → FieldType := fun k => match k with
  | 0 => .array .int
  | 1 => .array .int
  | _ => .int
theorem nm_Rg : ∀ a, a < 3 → ∀ b, b < 3 → a ≠ b → (T_Rg a).2.1 ≠ (T_Rg b).2.1 := by decide +kernel
theorem ok_Rg : ∀ k, k < 3 → parseFieldDescriptor (T_Rg k).2.2.1 = some (ty_Rg k) := by decide +kernel
def R_Ty : String := "StitchDesk$Tally"
def T_Ty : u_T := fun k => match k with
  | 0 => ("StitchDesk$Tally", "runs", "I", false)
  | _ => ("StitchDesk$Tally", "places", "I", false)
def ty_Ty : Nat → FieldType := fun k => match k with
  | 0 => .int
  | _ => .int
theorem nm_Ty : ∀ a, a < 2 → ∀ b, b < 2 → a ≠ b → (T_Ty a).2.1 ≠ (T_Ty b).2.1 := by decide +kernel
theorem ok_Ty : ∀ k, k < 2 → parseFieldDescriptor (T_Ty k).2.2.1 = some (ty_Ty k) := by decide +kernel
def R_In : String := "StitchDesk$Inspector"
def T_In : u_T := fun k => match k with
  | 0 => ("StitchDesk$Inspector", "x1", "[I", true)
  | 1 => ("StitchDesk$Inspector", "y1", "[I", true)
  | 2 => ("StitchDesk$Inspector", "x2", "[I", true)
  | 3 => ("StitchDesk$Inspector", "y2", "[I", true)
  | 4 => ("StitchDesk$Inspector", "follower", "[I", true)
  | 5 => ("StitchDesk$Inspector", "edgeTotal", "I", false)
  | 6 => ("StitchDesk$Inspector", "found", "I", false)
  | 7 => ("StitchDesk$Inspector", "lesser", "I", false)
  | _ => ("StitchDesk$Inspector", "other", "I", false)
def ty_In : Nat → FieldType := fun k => match k with
  | 0 => .array .int
  | 1 => .array .int
  | 2 => .array .int
  | 3 => .array .int
  | 4 => .array .int
  | 5 => .int
  | 6 => .int
  | 7 => .int
  | _ => .int
theorem nm_In : ∀ a, a < 9 → ∀ b, b < 9 → a ≠ b → (T_In a).2.1 ≠ (T_In b).2.1 := by decide +kernel
theorem ok_In : ∀ k, k < 9 → parseFieldDescriptor (T_In k).2.2.1 = some (ty_In k) := by decide +kernel
def R_Rt : String := "StitchDesk$RunTeller"
def T_Rt : u_T := fun k => match k with
  | _ => ("StitchDesk$RunTeller", "line", "LStitchDesk$HatchLine;", true)
def ty_Rt : Nat → FieldType := fun k => match k with
  | _ => .object "StitchDesk$HatchLine"
theorem nm_Rt : ∀ a, a < 1 → ∀ b, b < 1 → a ≠ b → (T_Rt a).2.1 ≠ (T_Rt b).2.1 := by decide +kernel
theorem ok_Rt : ∀ k, k < 1 → parseFieldDescriptor (T_Rt k).2.2.1 = some (ty_Rt k) := by decide +kernel
def R_Hl : String := "StitchDesk$HatchLine"
def T_Hl : u_T := fun k => match k with
  | 0 => ("StitchDesk$HatchLine", "events", "[I", true)
  | 1 => ("StitchDesk$HatchLine", "starts", "[I", true)
  | 2 => ("StitchDesk$HatchLine", "ends", "[I", true)
  | 3 => ("StitchDesk$HatchLine", "eventTotal", "I", false)
  | 4 => ("StitchDesk$HatchLine", "partTotal", "I", false)
  | 5 => ("StitchDesk$HatchLine", "xStep", "I", false)
  | 6 => ("StitchDesk$HatchLine", "xBase", "I", false)
  | 7 => ("StitchDesk$HatchLine", "yStep", "I", false)
  | 8 => ("StitchDesk$HatchLine", "yBase", "I", false)
  | 9 => ("StitchDesk$HatchLine", "first", "I", false)
  | 10 => ("StitchDesk$HatchLine", "last", "I", false)
  | 11 => ("StitchDesk$HatchLine", "low", "I", false)
  | _ => ("StitchDesk$HatchLine", "high", "I", false)
def ty_Hl : Nat → FieldType := fun k => match k with
  | 0 => .array .int
  | 1 => .array .int
  | 2 => .array .int
  | 3 => .int
  | 4 => .int
  | 5 => .int
  | 6 => .int
  | 7 => .int
  | 8 => .int
  | 9 => .int
  | 10 => .int
  | 11 => .int
  | _ => .int
theorem nm_Hl : ∀ a, a < 13 → ∀ b, b < 13 → a ≠ b → (T_Hl a).2.1 ≠ (T_Hl b).2.1 := by decide +kernel
theorem ok_Hl : ∀ k, k < 13 → parseFieldDescriptor (T_Hl k).2.2.1 = some (ty_Hl k) := by decide +kernel
def R_Pm : String := "StitchDesk$PathMaker"
def T_Pm : u_T := fun k => match k with
  | 0 => ("StitchDesk$PathMaker", "path", "LStitchDesk$Path;", true)
  | 1 => ("StitchDesk$PathMaker", "shape", "LStitchDesk$Shape;", false)
  | 2 => ("StitchDesk$PathMaker", "x", "I", false)
  | 3 => ("StitchDesk$PathMaker", "y", "I", false)
  | 4 => ("StitchDesk$PathMaker", "threaded", "I", false)
  | 5 => ("StitchDesk$PathMaker", "entering", "Z", false)
  | _ => ("StitchDesk$PathMaker", "atRunStart", "Z", false)
def ty_Pm : Nat → FieldType := fun k => match k with
  | 0 => .object "StitchDesk$Path"
  | 1 => .object "StitchDesk$Shape"
  | 2 => .int
  | 3 => .int
  | 4 => .int
  | 5 => .boolean
  | _ => .boolean
theorem nm_Pm : ∀ a, a < 7 → ∀ b, b < 7 → a ≠ b → (T_Pm a).2.1 ≠ (T_Pm b).2.1 := by decide +kernel
theorem ok_Pm : ∀ k, k < 7 → parseFieldDescriptor (T_Pm k).2.2.1 = some (ty_Pm k) := by decide +kernel
def R_Pa : String := "StitchDesk$Path"
def T_Pa : u_T := fun k => match k with
  | 0 => ("StitchDesk$Path", "codes", "[I", true)
  | 1 => ("StitchDesk$Path", "size", "I", false)
  | _ => ("StitchDesk$Path", "overfull", "Z", false)
def ty_Pa : Nat → FieldType := fun k => match k with
  | 0 => .array .int
  | 1 => .int
  | _ => .boolean
theorem nm_Pa : ∀ a, a < 3 → ∀ b, b < 3 → a ≠ b → (T_Pa a).2.1 ≠ (T_Pa b).2.1 := by decide +kernel
theorem ok_Pa : ∀ k, k < 3 → parseFieldDescriptor (T_Pa k).2.2.1 = some (ty_Pa k) := by decide +kernel
def R_Pl : String := "StitchDesk$Planner"
def T_Pl : u_T := fun k => match k with
  | 0 => ("StitchDesk$Planner", "fewest", "[I", true)
  | 1 => ("StitchDesk$Planner", "friendly", "[I", true)
  | 2 => ("StitchDesk$Planner", "ahead", "[I", true)
  | 3 => ("StitchDesk$Planner", "colours", "[I", true)
  | 4 => ("StitchDesk$Planner", "planned", "[I", true)
  | _ => ("StitchDesk$Planner", "total", "I", false)
def ty_Pl : Nat → FieldType := fun k => match k with
  | 0 => .array .int
  | 1 => .array .int
  | 2 => .array .int
  | 3 => .array .int
  | 4 => .array .int
  | _ => .int
theorem nm_Pl : ∀ a, a < 6 → ∀ b, b < 6 → a ≠ b → (T_Pl a).2.1 ≠ (T_Pl b).2.1 := by decide +kernel
theorem ok_Pl : ∀ k, k < 6 → parseFieldDescriptor (T_Pl k).2.2.1 = some (ty_Pl k) := by decide +kernel
def R_Mo : String := "StitchDeskModel"
def T_Mo : u_T := fun k => match k with
  | 0 => ("StitchDeskModel", "thrownCode", "I", false)
  | 1 => ("StitchDeskModel", "shapes", "I", false)
  | 2 => ("StitchDeskModel", "open", "Z", false)
  | 3 => ("StitchDeskModel", "told", "[I", true)
  | 4 => ("StitchDeskModel", "corners", "[I", true)
  | 5 => ("StitchDeskModel", "cx", "[I", true)
  | 6 => ("StitchDeskModel", "cy", "[I", true)
  | 7 => ("StitchDeskModel", "box", "[I", true)
  | 8 => ("StitchDeskModel", "order", "[I", true)
  | 9 => ("StitchDeskModel", "faultNow", "I", false)
  | 10 => ("StitchDeskModel", "faultOne", "I", false)
  | 11 => ("StitchDeskModel", "faultOther", "I", false)
  | 12 => ("StitchDeskModel", "edges", "I", false)
  | 13 => ("StitchDeskModel", "ex", "[I", true)
  | 14 => ("StitchDeskModel", "ey", "[I", true)
  | 15 => ("StitchDeskModel", "fx", "[I", true)
  | 16 => ("StitchDeskModel", "fy", "[I", true)
  | 17 => ("StitchDeskModel", "ring", "[I", true)
  | 18 => ("StitchDeskModel", "place", "[I", true)
  | 19 => ("StitchDeskModel", "odd", "[Z", true)
  | 20 => ("StitchDeskModel", "records", "I", false)
  | 21 => ("StitchDeskModel", "dx", "[I", true)
  | 22 => ("StitchDeskModel", "dy", "[I", true)
  | 23 => ("StitchDeskModel", "kind", "[I", true)
  | 24 => ("StitchDeskModel", "nx", "I", false)
  | 25 => ("StitchDeskModel", "ny", "I", false)
  | 26 => ("StitchDeskModel", "stitching", "Z", false)
  | 27 => ("StitchDeskModel", "runs", "I", false)
  | 28 => ("StitchDeskModel", "places", "I", false)
  | 29 => ("StitchDeskModel", "lastColour", "I", false)
  | 30 => ("StitchDeskModel", "loaded", "I", false)
  | 31 => ("StitchDeskModel", "bytes", "[I", true)
  | 32 => ("StitchDeskModel", "left", "[I", true)
  | _ => ("StitchDeskModel", "newOrder", "[I", true)
def ty_Mo : Nat → FieldType := fun k => match k with
  | 0 => .int
  | 1 => .int
  | 2 => .boolean
  | 3 => .array .int
  | 4 => .array .int
  | 5 => .array .int
  | 6 => .array .int
  | 7 => .array .int
  | 8 => .array .int
  | 9 => .int
  | 10 => .int
  | 11 => .int
  | 12 => .int
  | 13 => .array .int
  | 14 => .array .int
  | 15 => .array .int
  | 16 => .array .int
  | 17 => .array .int
  | 18 => .array .int
  | 19 => .array .boolean
  | 20 => .int
  | 21 => .array .int
  | 22 => .array .int
  | 23 => .array .int
  | 24 => .int
  | 25 => .int
  | 26 => .boolean
  | 27 => .int
  | 28 => .int
  | 29 => .int
  | 30 => .int
  | 31 => .array .int
  | 32 => .array .int
  | _ => .array .int
theorem nm_Mo : ∀ a, a < 34 → ∀ b, b < 34 → a ≠ b → (T_Mo a).2.1 ≠ (T_Mo b).2.1 := by decide +kernel
theorem ok_Mo : ∀ k, k < 34 → parseFieldDescriptor (T_Mo k).2.2.1 = some (ty_Mo k) := by decide +kernel
abbrev vwCl : List vw_C := [(R_Dk, T_Dk, 11), (R_Sh, T_Sh, 11), (R_Rg, T_Rg, 3), (R_Ty, T_Ty, 2), (R_In, T_In, 9), (R_Rt, T_Rt, 1), (R_Hl, T_Hl, 13), (R_Pm, T_Pm, 7), (R_Pa, T_Pa, 3), (R_Pl, T_Pl, 6), (R_Mo, T_Mo, 34)]
theorem cl_Dk : vwCl[0]? = some (R_Dk, T_Dk, 11) := rfl
theorem cl_Sh : vwCl[1]? = some (R_Sh, T_Sh, 11) := rfl
theorem cl_Rg : vwCl[2]? = some (R_Rg, T_Rg, 3) := rfl
theorem cl_Ty : vwCl[3]? = some (R_Ty, T_Ty, 2) := rfl
theorem cl_In : vwCl[4]? = some (R_In, T_In, 9) := rfl
theorem cl_Rt : vwCl[5]? = some (R_Rt, T_Rt, 1) := rfl
theorem cl_Hl : vwCl[6]? = some (R_Hl, T_Hl, 13) := rfl
theorem cl_Pm : vwCl[7]? = some (R_Pm, T_Pm, 7) := rfl
theorem cl_Pa : vwCl[8]? = some (R_Pa, T_Pa, 3) := rfl
theorem cl_Pl : vwCl[9]? = some (R_Pl, T_Pl, 6) := rfl
theorem cl_Mo : vwCl[10]? = some (R_Mo, T_Mo, 34) := rfl
def gTl (t : Nat → ClassId) : List (ClassId × FieldType) := [(t 0, .int), (t 1, .long), (t 2, .object "StitchDesk$Ring"), (t 3, .object "StitchDesk$Shape"), (t 4, .boolean)]
abbrev b_Dk_init : ByteArray := prog_1_method_1_code
def y_Dk_init : MethodName := ⟨"StitchDesk", "<init>", "()V"⟩
abbrev b_Ob_init : ByteArray := object_method_1_code
def y_Ob_init : MethodName := ⟨"java/lang/Object", "<init>", "()V"⟩
abbrev b_Sh_init : ByteArray := prog_10_method_1_code
def y_Sh_init : MethodName := ⟨"StitchDesk$Shape", "<init>", "()V"⟩
abbrev b_Rg_init : ByteArray := prog_7_method_1_code
def y_Rg_init : MethodName := ⟨"StitchDesk$Ring", "<init>", "(I)V"⟩
abbrev b_Ty_init : ByteArray := prog_11_method_1_code
def y_Ty_init : MethodName := ⟨"StitchDesk$Tally", "<init>", "()V"⟩
abbrev b_In_init : ByteArray := prog_3_method_1_code
def y_In_init : MethodName := ⟨"StitchDesk$Inspector", "<init>", "()V"⟩
abbrev b_Rt_init : ByteArray := prog_9_method_1_code
def y_Rt_init : MethodName := ⟨"StitchDesk$RunTeller", "<init>", "()V"⟩
abbrev b_Hl_init : ByteArray := prog_2_method_1_code
def y_Hl_init : MethodName := ⟨"StitchDesk$HatchLine", "<init>", "()V"⟩
abbrev b_Pm_init : ByteArray := prog_5_method_1_code
def y_Pm_init : MethodName := ⟨"StitchDesk$PathMaker", "<init>", "()V"⟩
abbrev b_Pa_init : ByteArray := prog_4_method_1_code
def y_Pa_init : MethodName := ⟨"StitchDesk$Path", "<init>", "()V"⟩
abbrev b_Pl_init : ByteArray := prog_6_method_1_code
def y_Pl_init : MethodName := ⟨"StitchDesk$Planner", "<init>", "()V"⟩
abbrev b_Dk_fault : ByteArray := prog_1_method_6_code
def y_Dk_fault : MethodName := ⟨"StitchDesk", "fault", "(I)I"⟩
abbrev b_Dk_count : ByteArray := prog_1_method_8_code
def y_Dk_count : MethodName := ⟨"StitchDesk", "count", "(I)I"⟩
abbrev b_Dk_stitch : ByteArray := prog_1_method_9_code
def y_Dk_stitch : MethodName := ⟨"StitchDesk", "stitch", "()I"⟩
abbrev b_Pm_restart : ByteArray := prog_5_method_2_code
def y_Pm_restart : MethodName := ⟨"StitchDesk$PathMaker", "restart", "()V"⟩
abbrev b_Pa_clear : ByteArray := prog_4_method_2_code
def y_Pa_clear : MethodName := ⟨"StitchDesk$Path", "clear", "()V"⟩
abbrev b_Pm_enter : ByteArray := prog_5_method_3_code
def y_Pm_enter : MethodName := ⟨"StitchDesk$PathMaker", "enter", "(LStitchDesk$Shape;)V"⟩
abbrev b_Rt_tell : ByteArray := prog_9_method_2_code
def y_Rt_tell : MethodName := ⟨"StitchDesk$RunTeller", "tell", "(LStitchDesk$Shape;LStitchDesk$RunTaker;)V"⟩
abbrev b_Rt_tellHatch : ByteArray := prog_9_method_7_code
def y_Rt_tellHatch : MethodName := ⟨"StitchDesk$RunTeller", "tellHatch", "(LStitchDesk$Shape;LStitchDesk$RunTaker;)V"⟩
abbrev b_Rt_leastF : ByteArray := prog_9_method_8_code
def y_Rt_leastF : MethodName := ⟨"StitchDesk$RunTeller", "leastF", "(LStitchDesk$Shape;)I"⟩
abbrev b_Ma_floorDiv : ByteArray := prog_19_method_47_code
def y_Ma_floorDiv : MethodName := ⟨"java/lang/Math", "floorDiv", "(II)I"⟩
abbrev b_Rt_greatestF : ByteArray := prog_9_method_9_code
def y_Rt_greatestF : MethodName := ⟨"StitchDesk$RunTeller", "greatestF", "(LStitchDesk$Shape;)I"⟩
abbrev b_Hl_lay : ByteArray := prog_2_method_4_code
def y_Hl_lay : MethodName := ⟨"StitchDesk$HatchLine", "lay", "(LStitchDesk$Shape;I)V"⟩
abbrev b_Hl_aim : ByteArray := prog_2_method_5_code
def y_Hl_aim : MethodName := ⟨"StitchDesk$HatchLine", "aim", "(II)V"⟩
abbrev b_Hl_narrow : ByteArray := prog_2_method_7_code
def y_Hl_narrow : MethodName := ⟨"StitchDesk$HatchLine", "narrow", "(IIII)V"⟩
abbrev b_Hl_empty : ByteArray := prog_2_method_10_code
def y_Hl_empty : MethodName := ⟨"StitchDesk$HatchLine", "empty", "()V"⟩
abbrev b_Ma_max : ByteArray := prog_19_method_65_code
def y_Ma_max : MethodName := ⟨"java/lang/Math", "max", "(II)I"⟩
abbrev b_Ma_min : ByteArray := prog_19_method_69_code
def y_Ma_min : MethodName := ⟨"java/lang/Math", "min", "(II)I"⟩
abbrev b_Rg_next : ByteArray := prog_7_method_4_code
def y_Rg_next : MethodName := ⟨"StitchDesk$Ring", "next", "(I)I"⟩
abbrev b_Hl_addEdge : ByteArray := prog_2_method_6_code
def y_Hl_addEdge : MethodName := ⟨"StitchDesk$HatchLine", "addEdge", "(IIII)V"⟩
abbrev b_Hl_narrowToZero : ByteArray := prog_2_method_8_code
def y_Hl_narrowToZero : MethodName := ⟨"StitchDesk$HatchLine", "narrowToZero", "(II)V"⟩
abbrev b_Hl_addSpan : ByteArray := prog_2_method_11_code
def y_Hl_addSpan : MethodName := ⟨"StitchDesk$HatchLine", "addSpan", "(II)V"⟩
abbrev b_Hl_insert : ByteArray := prog_2_method_12_code
def y_Hl_insert : MethodName := ⟨"StitchDesk$HatchLine", "insert", "(I)V"⟩
abbrev b_Hl_narrowToAboveZero : ByteArray := prog_2_method_9_code
def y_Hl_narrowToAboveZero : MethodName := ⟨"StitchDesk$HatchLine", "narrowToAboveZero", "(II)V"⟩
abbrev b_Hl_gatherParts : ByteArray := prog_2_method_13_code
def y_Hl_gatherParts : MethodName := ⟨"StitchDesk$HatchLine", "gatherParts", "()V"⟩
abbrev b_Hl_addPart : ByteArray := prog_2_method_14_code
def y_Hl_addPart : MethodName := ⟨"StitchDesk$HatchLine", "addPart", "(II)V"⟩
abbrev b_Pm_beginRun : ByteArray := prog_5_method_4_code
def y_Pm_beginRun : MethodName := ⟨"StitchDesk$PathMaker", "beginRun", "()V"⟩
abbrev b_Ty_beginRun : ByteArray := prog_11_method_3_code
def y_Ty_beginRun : MethodName := ⟨"StitchDesk$Tally", "beginRun", "()V"⟩
abbrev b_Hl_xAt : ByteArray := prog_2_method_2_code
def y_Hl_xAt : MethodName := ⟨"StitchDesk$HatchLine", "xAt", "(I)I"⟩
abbrev b_Hl_yAt : ByteArray := prog_2_method_3_code
def y_Hl_yAt : MethodName := ⟨"StitchDesk$HatchLine", "yAt", "(I)I"⟩
abbrev b_Pm_take : ByteArray := prog_5_method_5_code
def y_Pm_take : MethodName := ⟨"StitchDesk$PathMaker", "take", "(II)V"⟩
abbrev b_Pm_move : ByteArray := prog_5_method_8_code
def y_Pm_move : MethodName := ⟨"StitchDesk$PathMaker", "move", "(III)V"⟩
abbrev b_Pm_stepsTo : ByteArray := prog_5_method_10_code
def y_Pm_stepsTo : MethodName := ⟨"StitchDesk$PathMaker", "stepsTo", "(II)I"⟩
abbrev b_Ma_abs : ByteArray := prog_19_method_59_code
def y_Ma_abs : MethodName := ⟨"java/lang/Math", "abs", "(I)I"⟩
abbrev b_Dk_along : ByteArray := prog_1_method_23_code
def y_Dk_along : MethodName := ⟨"StitchDesk", "along", "(IIII)I"⟩
abbrev b_Pa_add : ByteArray := prog_4_method_3_code
def y_Pa_add : MethodName := ⟨"StitchDesk$Path", "add", "(III)V"⟩
abbrev b_Pm_changeThread : ByteArray := prog_5_method_6_code
def y_Pm_changeThread : MethodName := ⟨"StitchDesk$PathMaker", "changeThread", "()V"⟩
abbrev b_Pm_leap : ByteArray := prog_5_method_7_code
def y_Pm_leap : MethodName := ⟨"StitchDesk$PathMaker", "leap", "(II)V"⟩
abbrev b_Pm_staysInShape : ByteArray := prog_5_method_9_code
def y_Pm_staysInShape : MethodName := ⟨"StitchDesk$PathMaker", "staysInShape", "(II)Z"⟩
abbrev b_Sh_has : ByteArray := prog_10_method_6_code
def y_Sh_has : MethodName := ⟨"StitchDesk$Shape", "has", "(II)Z"⟩
abbrev b_Rg_sideOf : ByteArray := prog_7_method_6_code
def y_Rg_sideOf : MethodName := ⟨"StitchDesk$Ring", "sideOf", "(II)I"⟩
abbrev b_Ty_take : ByteArray := prog_11_method_4_code
def y_Ty_take : MethodName := ⟨"StitchDesk$Tally", "take", "(II)V"⟩
abbrev b_Rt_tellSatin : ByteArray := prog_9_method_4_code
def y_Rt_tellSatin : MethodName := ⟨"StitchDesk$RunTeller", "tellSatin", "(LStitchDesk$Shape;LStitchDesk$RunTaker;)V"⟩
abbrev b_Rt_reach : ByteArray := prog_9_method_5_code
def y_Rt_reach : MethodName := ⟨"StitchDesk$RunTeller", "reach", "(LStitchDesk$Ring;I)I"⟩
abbrev b_Rt_pointOf : ByteArray := prog_9_method_6_code
def y_Rt_pointOf : MethodName := ⟨"StitchDesk$RunTeller", "pointOf", "([IIII)I"⟩
abbrev b_Rt_tellOutline : ByteArray := prog_9_method_3_code
def y_Rt_tellOutline : MethodName := ⟨"StitchDesk$RunTeller", "tellOutline", "(LStitchDesk$Shape;LStitchDesk$RunTaker;)V"⟩
abbrev b_Dk_decode : ByteArray := prog_1_method_13_code
def y_Dk_decode : MethodName := ⟨"StitchDesk", "decode", "()I"⟩
abbrev b_Dk_firstWrongGroup : ByteArray := prog_1_method_24_code
def y_Dk_firstWrongGroup : MethodName := ⟨"StitchDesk", "firstWrongGroup", "()I"⟩
abbrev b_Dk_groupAt : ByteArray := prog_1_method_25_code
def y_Dk_groupAt : MethodName := ⟨"StitchDesk", "groupAt", "(I)I"⟩
abbrev b_Pa_isRecord : ByteArray := prog_4_method_9_code
def y_Pa_isRecord : MethodName := ⟨"StitchDesk$Path", "isRecord", "(I)Z"⟩
abbrev b_Pa_addPacked : ByteArray := prog_4_method_8_code
def y_Pa_addPacked : MethodName := ⟨"StitchDesk$Path", "addPacked", "(I)V"⟩
abbrev b_Pa_numberOf : ByteArray := prog_4_method_11_code
def y_Pa_numberOf : MethodName := ⟨"StitchDesk$Path", "numberOf", "(I)I"⟩
abbrev b_Dk_reorder : ByteArray := prog_1_method_14_code
def y_Dk_reorder : MethodName := ⟨"StitchDesk", "reorder", "()I"⟩
abbrev b_Pl_plan : ByteArray := prog_6_method_2_code
def y_Pl_plan : MethodName := ⟨"StitchDesk$Planner", "plan", "([LStitchDesk$Shape;[II)I"⟩
abbrev b_Pl_gather : ByteArray := prog_6_method_3_code
def y_Pl_gather : MethodName := ⟨"StitchDesk$Planner", "gather", "([LStitchDesk$Shape;[I)V"⟩
abbrev b_Sh_meets : ByteArray := prog_10_method_7_code
def y_Sh_meets : MethodName := ⟨"StitchDesk$Shape", "meets", "(LStitchDesk$Shape;)Z"⟩
abbrev b_Pl_weighSets : ByteArray := prog_6_method_4_code
def y_Pl_weighSets : MethodName := ⟨"StitchDesk$Planner", "weighSets", "()V"⟩
abbrev b_Pl_mayFollow : ByteArray := prog_6_method_6_code
def y_Pl_mayFollow : MethodName := ⟨"StitchDesk$Planner", "mayFollow", "(II)Z"⟩
abbrev b_Pl_changesAfter : ByteArray := prog_6_method_7_code
def y_Pl_changesAfter : MethodName := ⟨"StitchDesk$Planner", "changesAfter", "(II)I"⟩
abbrev b_Pl_weigh : ByteArray := prog_6_method_5_code
def y_Pl_weigh : MethodName := ⟨"StitchDesk$Planner", "weigh", "(III)V"⟩
abbrev b_Pl_choose : ByteArray := prog_6_method_8_code
def y_Pl_choose : MethodName := ⟨"StitchDesk$Planner", "choose", "([I)V"⟩
abbrev b_Dk_order : ByteArray := prog_1_method_15_code
def y_Dk_order : MethodName := ⟨"StitchDesk", "order", "(I)I"⟩
abbrev b_Dk_isBelow : ByteArray := prog_1_method_21_code
def y_Dk_isBelow : MethodName := ⟨"StitchDesk", "isBelow", "(II)Z"⟩
abbrev b_Dk_thread : ByteArray := prog_1_method_16_code
def y_Dk_thread : MethodName := ⟨"StitchDesk", "thread", "(I)I"⟩
abbrev b_Pa_threadBehind : ByteArray := prog_4_method_12_code
def y_Pa_threadBehind : MethodName := ⟨"StitchDesk$Path", "threadBehind", "(I)I"⟩
abbrev b_Pa_kind : ByteArray := prog_4_method_6_code
def y_Pa_kind : MethodName := ⟨"StitchDesk$Path", "kind", "(I)I"⟩
abbrev b_Pa_dx : ByteArray := prog_4_method_4_code
def y_Pa_dx : MethodName := ⟨"StitchDesk$Path", "dx", "(I)I"⟩
abbrev b_Pa_dy : ByteArray := prog_4_method_5_code
def y_Pa_dy : MethodName := ⟨"StitchDesk$Path", "dy", "(I)I"⟩
abbrev b_Pa_rootUp : ByteArray := prog_4_method_13_code
def y_Pa_rootUp : MethodName := ⟨"StitchDesk$Path", "rootUp", "(II)I"⟩
abbrev b_Dk_hoop : ByteArray := prog_1_method_19_code
def y_Dk_hoop : MethodName := ⟨"StitchDesk", "hoop", "(II)Z"⟩
abbrev b_Pa_fits : ByteArray := prog_4_method_14_code
def y_Pa_fits : MethodName := ⟨"StitchDesk$Path", "fits", "(II)Z"⟩
abbrev b_Dk_stop : ByteArray := prog_1_method_20_code
def y_Dk_stop : MethodName := ⟨"StitchDesk", "stop", "(I)I"⟩
abbrev b_Lw_begin : ByteArray := method_3_code
def y_Lw_begin : MethodName := ⟨"StitchDeskLaw", "begin", "(LStitchDesk;IIII)I"⟩
abbrev b_Dk_begin : ByteArray := prog_1_method_2_code
def y_Dk_begin : MethodName := ⟨"StitchDesk", "begin", "(IIII)V"⟩
abbrev b_Sh_reset : ByteArray := prog_10_method_2_code
def y_Sh_reset : MethodName := ⟨"StitchDesk$Shape", "reset", "(IIII)V"⟩
abbrev b_Rg_clear : ByteArray := prog_7_method_2_code
def y_Rg_clear : MethodName := ⟨"StitchDesk$Ring", "clear", "()V"⟩
abbrev b_Ty_clear : ByteArray := prog_11_method_2_code
def y_Ty_clear : MethodName := ⟨"StitchDesk$Tally", "clear", "()V"⟩
abbrev b_Lw_corner : ByteArray := method_4_code
def y_Lw_corner : MethodName := ⟨"StitchDeskLaw", "corner", "(LStitchDesk;III[J)I"⟩
abbrev b_Dk_corner : ByteArray := prog_1_method_3_code
def y_Dk_corner : MethodName := ⟨"StitchDesk", "corner", "(III)I"⟩
abbrev b_Dk_isPlace : ByteArray := prog_1_method_22_code
def y_Dk_isPlace : MethodName := ⟨"StitchDesk", "isPlace", "(II)Z"⟩
abbrev b_Rg_add : ByteArray := prog_7_method_3_code
def y_Rg_add : MethodName := ⟨"StitchDesk$Ring", "add", "(II)V"⟩
abbrev b_Lw_rail : ByteArray := method_5_code
def y_Lw_rail : MethodName := ⟨"StitchDeskLaw", "rail", "(LStitchDesk;III[J)I"⟩
abbrev b_Dk_rail : ByteArray := prog_1_method_4_code
def y_Dk_rail : MethodName := ⟨"StitchDesk", "rail", "(III)I"⟩
abbrev b_Lw_end : ByteArray := method_6_code
def y_Lw_end : MethodName := ⟨"StitchDeskLaw", "end", "(LStitchDesk;[J)I"⟩
abbrev b_Dk_end : ByteArray := prog_1_method_5_code
def y_Dk_end : MethodName := ⟨"StitchDesk", "end", "()I"⟩
abbrev b_In_inspect : ByteArray := prog_3_method_2_code
def y_In_inspect : MethodName := ⟨"StitchDesk$Inspector", "inspect", "(LStitchDesk$Shape;)I"⟩
abbrev b_In_faultOfRails : ByteArray := prog_3_method_3_code
def y_In_faultOfRails : MethodName := ⟨"StitchDesk$Inspector", "faultOfRails", "(LStitchDesk$Shape;)I"⟩
abbrev b_In_faultOfRings : ByteArray := prog_3_method_4_code
def y_In_faultOfRings : MethodName := ⟨"StitchDesk$Inspector", "faultOfRings", "(LStitchDesk$Shape;)I"⟩
abbrev b_In_hasFlatRing : ByteArray := prog_3_method_5_code
def y_In_hasFlatRing : MethodName := ⟨"StitchDesk$Inspector", "hasFlatRing", "(LStitchDesk$Shape;)Z"⟩
abbrev b_Rg_isFlat : ByteArray := prog_7_method_5_code
def y_Rg_isFlat : MethodName := ⟨"StitchDesk$Ring", "isFlat", "()Z"⟩
abbrev b_In_gatherEdges : ByteArray := prog_3_method_6_code
def y_In_gatherEdges : MethodName := ⟨"StitchDesk$Inspector", "gatherEdges", "(LStitchDesk$Shape;)V"⟩
abbrev b_In_findCrossing : ByteArray := prog_3_method_7_code
def y_In_findCrossing : MethodName := ⟨"StitchDesk$Inspector", "findCrossing", "()Z"⟩
abbrev b_In_areCrossed : ByteArray := prog_3_method_8_code
def y_In_areCrossed : MethodName := ⟨"StitchDesk$Inspector", "areCrossed", "(II)Z"⟩
abbrev b_In_turnsBack : ByteArray := prog_3_method_9_code
def y_In_turnsBack : MethodName := ⟨"StitchDesk$Inspector", "turnsBack", "(II)Z"⟩
abbrev b_In_sharePoint : ByteArray := prog_3_method_10_code
def y_In_sharePoint : MethodName := ⟨"StitchDesk$Inspector", "sharePoint", "(II)Z"⟩
abbrev b_In_turn : ByteArray := prog_3_method_11_code
def y_In_turn : MethodName := ⟨"StitchDesk$Inspector", "turn", "(III)I"⟩
abbrev b_Ig_signum : ByteArray := prog_18_method_56_code
def y_Ig_signum : MethodName := ⟨"java/lang/Integer", "signum", "(I)I"⟩
abbrev b_In_hasHoleOutside : ByteArray := prog_3_method_12_code
def y_In_hasHoleOutside : MethodName := ⟨"StitchDesk$Inspector", "hasHoleOutside", "(LStitchDesk$Shape;)Z"⟩
abbrev b_In_beginsInside : ByteArray := prog_3_method_14_code
def y_In_beginsInside : MethodName := ⟨"StitchDesk$Inspector", "beginsInside", "(LStitchDesk$Ring;LStitchDesk$Ring;)Z"⟩
abbrev b_In_hasHoleWithin : ByteArray := prog_3_method_13_code
def y_In_hasHoleWithin : MethodName := ⟨"StitchDesk$Inspector", "hasHoleWithin", "(LStitchDesk$Shape;)Z"⟩
abbrev b_Sh_finish : ByteArray := prog_10_method_3_code
def y_Sh_finish : MethodName := ⟨"StitchDesk$Shape", "finish", "()V"⟩
abbrev b_Sh_joinRails : ByteArray := prog_10_method_4_code
def y_Sh_joinRails : MethodName := ⟨"StitchDesk$Shape", "joinRails", "()V"⟩
abbrev b_Sh_measure : ByteArray := prog_10_method_5_code
def y_Sh_measure : MethodName := ⟨"StitchDesk$Shape", "measure", "()V"⟩
abbrev b_Lw_shape : ByteArray := method_7_code
def y_Lw_shape : MethodName := ⟨"StitchDeskLaw", "shape", "(LStitchDesk;II[J)I"⟩
abbrev b_Dk_shape : ByteArray := prog_1_method_7_code
def y_Dk_shape : MethodName := ⟨"StitchDesk", "shape", "(II)I"⟩
abbrev b_Lw_record : ByteArray := method_8_code
def y_Lw_record : MethodName := ⟨"StitchDeskLaw", "record", "(LStitchDesk;II[J)I"⟩
abbrev b_Dk_record : ByteArray := prog_1_method_10_code
def y_Dk_record : MethodName := ⟨"StitchDesk", "record", "(II)I"⟩
abbrev b_Lw_byteAt : ByteArray := method_9_code
def y_Lw_byteAt : MethodName := ⟨"StitchDeskLaw", "byteAt", "(LStitchDesk;I[J)I"⟩
abbrev b_Dk_byteAt : ByteArray := prog_1_method_11_code
def y_Dk_byteAt : MethodName := ⟨"StitchDesk", "byteAt", "(I)I"⟩
abbrev b_Pa_packed : ByteArray := prog_4_method_7_code
def y_Pa_packed : MethodName := ⟨"StitchDesk$Path", "packed", "(I)I"⟩
abbrev b_Pa_digitsOf : ByteArray := prog_4_method_10_code
def y_Pa_digitsOf : MethodName := ⟨"StitchDesk$Path", "digitsOf", "(I)I"⟩
abbrev b_Lw_load : ByteArray := method_10_code
def y_Lw_load : MethodName := ⟨"StitchDeskLaw", "load", "(LStitchDesk;II[J)I"⟩
abbrev b_Dk_load : ByteArray := prog_1_method_12_code
def y_Dk_load : MethodName := ⟨"StitchDesk", "load", "(II)I"⟩
abbrev b_Lw_under : ByteArray := method_11_code
def y_Lw_under : MethodName := ⟨"StitchDeskLaw", "under", "(LStitchDesk;II[J)I"⟩
abbrev b_Dk_under : ByteArray := prog_1_method_17_code
def y_Dk_under : MethodName := ⟨"StitchDesk", "under", "(II)I"⟩
abbrev b_Lw_needle : ByteArray := method_12_code
def y_Lw_needle : MethodName := ⟨"StitchDeskLaw", "needle", "(LStitchDesk;II[J)I"⟩
abbrev b_Dk_needle : ByteArray := prog_1_method_18_code
def y_Dk_needle : MethodName := ⟨"StitchDesk", "needle", "(II)I"⟩
abbrev b_Mo_init : ByteArray := prog_13_method_1_code
def y_Mo_init : MethodName := ⟨"StitchDeskModel", "<init>", "()V"⟩
abbrev b_Mo_thrown : ByteArray := prog_13_method_39_code
def y_Mo_thrown : MethodName := ⟨"StitchDeskModel", "thrown", "()I"⟩
abbrev b_Mo_begin : ByteArray := prog_13_method_40_code
def y_Mo_begin : MethodName := ⟨"StitchDeskModel", "begin", "(IIII)V"⟩
abbrev b_Mo_corner : ByteArray := prog_13_method_42_code
def y_Mo_corner : MethodName := ⟨"StitchDeskModel", "corner", "(III)I"⟩
abbrev b_Mo_isPlace : ByteArray := prog_13_method_5_code
def y_Mo_isPlace : MethodName := ⟨"StitchDeskModel", "isPlace", "(II)Z"⟩
abbrev b_Mo_oneMore : ByteArray := prog_13_method_41_code
def y_Mo_oneMore : MethodName := ⟨"StitchDeskModel", "oneMore", "(III)I"⟩
abbrev b_Mo_rail : ByteArray := prog_13_method_43_code
def y_Mo_rail : MethodName := ⟨"StitchDeskModel", "rail", "(III)I"⟩
abbrev b_Mo_end : ByteArray := prog_13_method_44_code
def y_Mo_end : MethodName := ⟨"StitchDeskModel", "end", "()I"⟩
abbrev b_Mo_findFault : ByteArray := prog_13_method_19_code
def y_Mo_findFault : MethodName := ⟨"StitchDeskModel", "findFault", "()I"⟩
abbrev b_Mo_flat : ByteArray := prog_13_method_14_code
def y_Mo_flat : MethodName := ⟨"StitchDeskModel", "flat", "()Z"⟩
abbrev b_Mo_turn : ByteArray := prog_13_method_9_code
def y_Mo_turn : MethodName := ⟨"StitchDeskModel", "turn", "(IIIIII)I"⟩
abbrev b_Mo_edgesOf : ByteArray := prog_13_method_7_code
def y_Mo_edgesOf : MethodName := ⟨"StitchDeskModel", "edgesOf", "(I)V"⟩
abbrev b_Mo_railCorner : ByteArray := prog_13_method_8_code
def y_Mo_railCorner : MethodName := ⟨"StitchDeskModel", "railCorner", "(II)I"⟩
abbrev b_Mo_edge : ByteArray := prog_13_method_6_code
def y_Mo_edge : MethodName := ⟨"StitchDeskModel", "edge", "(IIIIII)V"⟩
abbrev b_Mo_crossed : ByteArray := prog_13_method_18_code
def y_Mo_crossed : MethodName := ⟨"StitchDeskModel", "crossed", "(II)Z"⟩
abbrev b_Mo_touch : ByteArray := prog_13_method_16_code
def y_Mo_touch : MethodName := ⟨"StitchDeskModel", "touch", "(II)Z"⟩
abbrev b_Mo_onEdge : ByteArray := prog_13_method_10_code
def y_Mo_onEdge : MethodName := ⟨"StitchDeskModel", "onEdge", "(III)Z"⟩
abbrev b_Mo_size : ByteArray := prog_13_method_3_code
def y_Mo_size : MethodName := ⟨"StitchDeskModel", "size", "(I)I"⟩
abbrev b_Mo_sign : ByteArray := prog_13_method_15_code
def y_Mo_sign : MethodName := ⟨"StitchDeskModel", "sign", "(I)I"⟩
abbrev b_Mo_folded : ByteArray := prog_13_method_17_code
def y_Mo_folded : MethodName := ⟨"StitchDeskModel", "folded", "(II)Z"⟩
abbrev b_Mo_inside : ByteArray := prog_13_method_12_code
def y_Mo_inside : MethodName := ⟨"StitchDeskModel", "inside", "(III)Z"⟩
abbrev b_Mo_passes : ByteArray := prog_13_method_11_code
def y_Mo_passes : MethodName := ⟨"StitchDeskModel", "passes", "(III)Z"⟩
abbrev b_Mo_fault : ByteArray := prog_13_method_45_code
def y_Mo_fault : MethodName := ⟨"StitchDeskModel", "fault", "(I)I"⟩
abbrev b_Mo_shape : ByteArray := prog_13_method_46_code
def y_Mo_shape : MethodName := ⟨"StitchDeskModel", "shape", "(II)I"⟩
abbrev b_Mo_runsOf : ByteArray := prog_13_method_32_code
def y_Mo_runsOf : MethodName := ⟨"StitchDeskModel", "runsOf", "(IZ)V"⟩
abbrev b_Mo_hatch : ByteArray := prog_13_method_30_code
def y_Mo_hatch : MethodName := ⟨"StitchDeskModel", "hatch", "(I)V"⟩
abbrev b_Mo_down : ByteArray := prog_13_method_2_code
def y_Mo_down : MethodName := ⟨"StitchDeskModel", "down", "(II)I"⟩
abbrev b_Mo_line : ByteArray := prog_13_method_31_code
def y_Mo_line : MethodName := ⟨"StitchDeskModel", "line", "(IIIZ)V"⟩
abbrev b_Mo_xOf : ByteArray := prog_13_method_28_code
def y_Mo_xOf : MethodName := ⟨"StitchDeskModel", "xOf", "(III)I"⟩
abbrev b_Mo_yOf : ByteArray := prog_13_method_29_code
def y_Mo_yOf : MethodName := ⟨"StitchDeskModel", "yOf", "(III)I"⟩
abbrev b_Mo_in : ByteArray := prog_13_method_13_code
def y_Mo_in : MethodName := ⟨"StitchDeskModel", "in", "(II)Z"⟩
abbrev b_Mo_comes : ByteArray := prog_13_method_25_code
def y_Mo_comes : MethodName := ⟨"StitchDeskModel", "comes", "(IIIZ)V"⟩
abbrev b_Mo_move : ByteArray := prog_13_method_22_code
def y_Mo_move : MethodName := ⟨"StitchDeskModel", "move", "(III)V"⟩
abbrev b_Mo_stepsTo : ByteArray := prog_13_method_21_code
def y_Mo_stepsTo : MethodName := ⟨"StitchDeskModel", "stepsTo", "(II)I"⟩
abbrev b_Mo_greater : ByteArray := prog_13_method_4_code
def y_Mo_greater : MethodName := ⟨"StitchDeskModel", "greater", "(II)I"⟩
abbrev b_Mo_step : ByteArray := prog_13_method_20_code
def y_Mo_step : MethodName := ⟨"StitchDeskModel", "step", "(III)V"⟩
abbrev b_Mo_leap : ByteArray := prog_13_method_23_code
def y_Mo_leap : MethodName := ⟨"StitchDeskModel", "leap", "(II)V"⟩
abbrev b_Mo_stepsIn : ByteArray := prog_13_method_24_code
def y_Mo_stepsIn : MethodName := ⟨"StitchDeskModel", "stepsIn", "(II)Z"⟩
abbrev b_Mo_satin : ByteArray := prog_13_method_27_code
def y_Mo_satin : MethodName := ⟨"StitchDeskModel", "satin", "(I)V"⟩
abbrev b_Mo_outline : ByteArray := prog_13_method_26_code
def y_Mo_outline : MethodName := ⟨"StitchDeskModel", "outline", "(I)V"⟩
abbrev b_Mo_count : ByteArray := prog_13_method_47_code
def y_Mo_count : MethodName := ⟨"StitchDeskModel", "count", "(I)I"⟩
abbrev b_Mo_stitch : ByteArray := prog_13_method_48_code
def y_Mo_stitch : MethodName := ⟨"StitchDeskModel", "stitch", "()I"⟩
abbrev b_Mo_record : ByteArray := prog_13_method_49_code
def y_Mo_record : MethodName := ⟨"StitchDeskModel", "record", "(II)I"⟩
abbrev b_Mo_byteAt : ByteArray := prog_13_method_50_code
def y_Mo_byteAt : MethodName := ⟨"StitchDeskModel", "byteAt", "(I)I"⟩
abbrev b_Mo_digits : ByteArray := prog_13_method_33_code
def y_Mo_digits : MethodName := ⟨"StitchDeskModel", "digits", "(I)I"⟩
abbrev b_Mo_load : ByteArray := prog_13_method_51_code
def y_Mo_load : MethodName := ⟨"StitchDeskModel", "load", "(II)I"⟩
abbrev b_Mo_decode : ByteArray := prog_13_method_53_code
def y_Mo_decode : MethodName := ⟨"StitchDeskModel", "decode", "()I"⟩
abbrev b_Mo_group : ByteArray := prog_13_method_52_code
def y_Mo_group : MethodName := ⟨"StitchDeskModel", "group", "(I)I"⟩
abbrev b_Mo_number : ByteArray := prog_13_method_34_code
def y_Mo_number : MethodName := ⟨"StitchDeskModel", "number", "(I)I"⟩
abbrev b_Mo_reorder : ByteArray := prog_13_method_54_code
def y_Mo_reorder : MethodName := ⟨"StitchDeskModel", "reorder", "()I"⟩
abbrev b_Mo_findLeft : ByteArray := prog_13_method_38_code
def y_Mo_findLeft : MethodName := ⟨"StitchDeskModel", "findLeft", "()V"⟩
abbrev b_Mo_mayCome : ByteArray := prog_13_method_36_code
def y_Mo_mayCome : MethodName := ⟨"StitchDeskModel", "mayCome", "(II)Z"⟩
abbrev b_Mo_meetBoxes : ByteArray := prog_13_method_35_code
def y_Mo_meetBoxes : MethodName := ⟨"StitchDeskModel", "meetBoxes", "(II)Z"⟩
abbrev b_Mo_costOf : ByteArray := prog_13_method_37_code
def y_Mo_costOf : MethodName := ⟨"StitchDeskModel", "costOf", "(III)I"⟩
abbrev b_Mo_order : ByteArray := prog_13_method_55_code
def y_Mo_order : MethodName := ⟨"StitchDeskModel", "order", "(I)I"⟩
abbrev b_Mo_thread : ByteArray := prog_13_method_57_code
def y_Mo_thread : MethodName := ⟨"StitchDeskModel", "thread", "(I)I"⟩
abbrev b_Mo_rootUp : ByteArray := prog_13_method_56_code
def y_Mo_rootUp : MethodName := ⟨"StitchDeskModel", "rootUp", "(I)I"⟩
abbrev b_Mo_under : ByteArray := prog_13_method_58_code
def y_Mo_under : MethodName := ⟨"StitchDeskModel", "under", "(II)I"⟩
abbrev b_Mo_needle : ByteArray := prog_13_method_59_code
def y_Mo_needle : MethodName := ⟨"StitchDeskModel", "needle", "(II)I"⟩
abbrev b_Mo_hoop : ByteArray := prog_13_method_60_code
def y_Mo_hoop : MethodName := ⟨"StitchDeskModel", "hoop", "(II)Z"⟩
abbrev b_Mo_stop : ByteArray := prog_13_method_61_code
def y_Mo_stop : MethodName := ⟨"StitchDeskModel", "stop", "(I)I"⟩
end
section
/-! BASE: a judgement gW for the walk of one method over a world by PLACES (place k lies at ad k and holds ce k), with everything of the machine that stays fixed packed into gOk; contracts gI (an int comes back), gV (nothing comes back); one row an instruction, over the kit's rows. Numbers are iI z, z an Int. -/
-- ints by their numbers
def iI (z : Int) : Int32 := Int32.ofInt z
theorem iI_toInt {z : Int} (h : -2147483648 ≤ z ∧ z < 2147483648) : (iI z).toInt = z := Int32.toInt_ofInt_of_le (by omega) (by omega)
theorem iI_of (x : Int32) : x = iI x.toInt := (Int32.ofInt_toInt x).symm
theorem iI_rng (x : Int32) : -2147483648 ≤ x.toInt ∧ x.toInt < 2147483648 := ⟨by have := Int32.le_toInt x; omega, by have := Int32.toInt_lt x; omega⟩
theorem iI_ex (x : Int32) : ∃ z : Int, (-2147483648 ≤ z ∧ z < 2147483648) ∧ x = iI z := ⟨x.toInt, iI_rng x, iI_of x⟩
theorem iI_add (a b : Int) : iI a + iI b = iI (a + b) := (Int32.ofInt_add a b).symm
theorem iI_sub (a b : Int) : iI a - iI b = iI (a - b) := (Int32.ofInt_sub a b).symm
theorem iI_mul (a b : Int) : iI a * iI b = iI (a * b) := (Int32.ofInt_mul a b).symm
theorem iI_neg (a : Int) : -iI a = iI (-a) := (Int32.ofInt_neg a).symm
theorem iI_lt {a b : Int} (ha : -2147483648 ≤ a ∧ a < 2147483648) (hb : -2147483648 ≤ b ∧ b < 2147483648) : iI a < iI b ↔ a < b := by
  rw [Int32.lt_iff_toInt_lt, iI_toInt ha, iI_toInt hb]
theorem iI_le {a b : Int} (ha : -2147483648 ≤ a ∧ a < 2147483648) (hb : -2147483648 ≤ b ∧ b < 2147483648) : iI a ≤ iI b ↔ a ≤ b := by
  rw [Int32.le_iff_toInt_le, iI_toInt ha, iI_toInt hb]
theorem iI_eq {a b : Int} (ha : -2147483648 ≤ a ∧ a < 2147483648) (hb : -2147483648 ≤ b ∧ b < 2147483648) : iI a = iI b ↔ a = b := by
  rw [← Int32.toInt_inj, iI_toInt ha, iI_toInt hb]
theorem iI_zero : (0 : Int32) = iI 0 := by decide
theorem iI_nat (k : Nat) : Int32.ofNat k = iI (k : Int) := by
  unfold iI
  rw [Int32.ofInt_eq_ofNat]
theorem iI_in {z : Int} {k : Nat} (hk : k < 2147483648) (h : 0 ≤ z ∧ z < k) : vp_in (iI z) k := by
  rw [vp_in_iff, iI_toInt (by omega)]
  exact h
theorem iI_clamp {z : Int} (h : 0 ≤ z ∧ z < 2147483648) : (iI z).toNatClampNeg = z.toNat := by
  show (iI z).toInt.toNat = z.toNat
  rw [iI_toInt (by omega)]
/-- an array of ints by its numbers, a function of the place -/
def zU (f : Int → Int) (i v : Int) : Int → Int := fun j => if j = i then v else f j
theorem zU_self (f : Int → Int) (i v : Int) : zU f i v i = v := by simp [zU]
theorem zU_ne (f : Int → Int) {i j : Int} (v : Int) (h : j ≠ i) : zU f i v j = f j := by simp [zU, h]
def zA (f : Int → Int) : Nat → Int32 := fun j => iI (f (j : Int))
theorem zA_at {f : Int → Int} {z : Int} (h : 0 ≤ z ∧ z < 2147483648) : zA f (iI z).toNatClampNeg = iI (f z) := by
  rw [iI_clamp h]
  unfold zA
  rw [Int.toNat_of_nonneg h.1]
theorem zA_up {f : Int → Int} {z v : Int} (h : 0 ≤ z ∧ z < 2147483648) : upd (zA f) (iI z).toNatClampNeg (iI v) = zA (zU f z v) := by
  rw [iI_clamp h]
  funext j
  unfold upd zA zU
  by_cases hj : j = z.toNat
  · have : (j : Int) = z := by omega
    rw [if_pos hj, if_pos this]
  · have : ¬ (j : Int) = z := by omega
    rw [if_neg hj, if_neg this]
-- the world by places
def wW (ad : Nat → Nat) (n : Nat) (ce : Nat → va_E) : va_W := (List.range n).map (fun k => (ad k, ce k))
theorem wW_get {ad : Nat → Nat} {n : Nat} {ce : Nat → va_E} {k : Nat} (h : k < n) : (wW ad n ce)[k]? = some (ad k, ce k) := by
  simp [wW, h]
theorem wW_of {ad : Nat → Nat} {n : Nat} {ce : Nat → va_E} {k : Nat} {q : Nat × va_E} (h : (wW ad n ce)[k]? = some q) : k < n ∧ q = (ad k, ce k) := by
  have hk : k < n := by
    have := (List.getElem?_eq_some_iff.mp h).1
    simpa [wW] using this
  rw [wW_get hk] at h
  exact ⟨hk, (Option.some.inj h).symm⟩
theorem wW_ext {w : va_W} {ad : Nat → Nat} {n : Nat} {ce : Nat → va_E} (hl : w.length = n) (h : ∀ k, k < n → w[k]? = some (ad k, ce k)) : w = wW ad n ce := by
  apply List.ext_getElem?
  intro k
  by_cases hk : k < n
  · rw [h k hk, wW_get hk]
  · rw [List.getElem?_eq_none (by omega), List.getElem?_eq_none (by simp [wW]; omega)]
theorem wW_set {ad : Nat → Nat} {n : Nat} {ce : Nat → va_E} {k : Nat} {e : va_E} : (wW ad n ce).set k (ad k, e) = wW ad n (va_up ce k e) := by
  refine wW_ext (by simp [wW]) (fun j hj => ?_)
  rw [List.getElem?_set]
  by_cases h : k = j
  · subst h
    rw [if_pos rfl, if_pos (by simpa [wW] using hj), va_up_self]
  · rw [if_neg h, wW_get hj, va_up_ne _ _ (Ne.symm h)]
theorem wW_push {ad : Nat → Nat} {n : Nat} {ce : Nat → va_E} {q : Nat} {e : va_E} : wW ad n ce ++ [(q, e)] = wW (va_up ad n q) (n + 1) (va_up ce n e) := by
  refine wW_ext (by simp [wW]) (fun j hj => ?_)
  by_cases h : j < n
  · rw [List.getElem?_append_left (by simpa [wW] using h), wW_get h, va_up_ne _ _ (by omega), va_up_ne _ _ (by omega)]
  · have hj : j = n := by omega
    subst hj
    rw [List.getElem?_append_right (by simp [wW]), va_up_self, va_up_self]
    simp [wW]
theorem wW_cong {ad ad' : Nat → Nat} {n : Nat} {ce ce' : Nat → va_E} (h1 : ∀ k, k < n → ad k = ad' k) (h2 : ∀ k, k < n → ce k = ce' k) : wW ad n ce = wW ad' n ce' := by
  refine wW_ext (by simp [wW]) (fun k hk => ?_)
  rw [wW_get hk, h1 k hk, h2 k hk]
/-- an array of ints -/
def zC (t : Nat → ClassId) (N : Nat) (f : Int → Int) : va_E := .inl (t 0, N, .inl (zA f))
end
section
-- words: all good words of the tables hold wherever the law's start is warmed
def gTb : List Cond := lw_tbl.filter goodWord
def gG (s0 : State) (a0 : Array Value) (D : va_G) (t : Nat → ClassId) : Prop := (∀ w ∈ lw_tbl, w.before a0 s0 = true) ∧ va_K D vwCl (gTl t) s0
/-- the law's own start lies below: nobody writes it -/
def gO (s0 s : State) (A : Nat → Prop) : Prop := s0.heap.size ≤ s.heap.size ∧ (∀ q : Nat, q < s0.heap.size → s.heap[q]? = s0.heap[q]?) ∧ ∀ q : Nat, A q → s0.heap.size ≤ q
/-- what stays fixed in the walk of one method -/
def gOk (s0 : State) (a0 : Array Value) (D : va_G) (t : Nat → ClassId) (p : Program) (R : Room) (s : State) (m : MethodId) (meth : Method) (c : Code) (A : Nat → Prop) (own : String) (cc : ByteArray) (nL : Nat) (ret : Option FieldType) (mn : String) (fr lo mc ms : Nat) : Prop :=
  p.tables.exec = Jvm.exec ∧ c.code = cc ∧ c.maxLocals = nL ∧ s.vm.findClass own = some m.cls ∧ s0.WarmedH s.vm ∧ gG s0 a0 D t ∧ (∀ q : Nat, s.heap.size ≤ q → A q) ∧ gO s0 s A ∧ (fr ≤ R.frames ∧ lo ≤ R.locals ∧ mc ≤ R.cells ∧ ms ≤ R.slots) ∧ meth.locks = false ∧ meth.sig.returnType = ret ∧ meth.name = mn
/-- nothing is known of heap and writes but what the world says; and: nothing has been written yet -/
def gZ : Heap → List Loc → Prop := fun _ _ => True
def gZ0 (s : State) : Heap → List Loc → Prop := fun H locs => H = s.heap ∧ locs = []
/-- the walk goes on at pc, with these locals and this stack, in any heap that holds the world -/
def gW (p : Program) (l : Launch) (e : Env) (R : Room) (s : State) (m : MethodId) (args : Array Value) (below : List Frame) (meth : Method) (c : Code) (Q : State → Prop) (D : va_G) (A : Nat → Prop) (nL : Nat) (Z : Heap → List Loc → Prop) (cells slots : Nat) (ad : Nat → Nat) (n : Nat) (ce : Nat → va_E) (pc : Nat) (lv : List (Nat × Value)) (st : List Value) : Prop :=
  ∀ (H : Heap) (locs : List Loc) (ls : Array Slot), Z H locs → va_P D vwCl (wW ad n ce) H → va_D A (wW ad n ce) → va_S A s.heap H locs → lv_has ls nL lv → W p l e R s m args below meth c H locs cells slots Q (F0 m pc ls st)
section GR
variable {s0 : State} {a0 : Array Value} {D : va_G} {t : Nat → ClassId} {p : Program} {l : Launch} {e : Env} {R : Room} {s : State} {m : MethodId} {args : Array Value} {below : List Frame} {meth : Method} {c : Code} {Q : State → Prop} {Z : Heap → List Loc → Prop} {A : Nat → Prop} {own : String} {cc : ByteArray} {nL : Nat} {ret : Option FieldType} {mn : String} {fr lo mc ms : Nat} {cells slots : Nat} {ad : Nat → Nat} {n : Nat} {ce : Nat → va_E} {pc : Nat} {lv lv' : List (Nat × Value)} {st : List Value}
theorem gOk.x (h : gOk s0 a0 D t p R s m meth c A own cc nL ret mn fr lo mc ms) : p.tables.exec = Jvm.exec := h.1
theorem gOk.b (h : gOk s0 a0 D t p R s m meth c A own cc nL ret mn fr lo mc ms) : c.code = cc := h.2.1
theorem gOk.ml (h : gOk s0 a0 D t p R s m meth c A own cc nL ret mn fr lo mc ms) : c.maxLocals = nL := h.2.2.1
theorem gOk.wn (h : gOk s0 a0 D t p R s m meth c A own cc nL ret mn fr lo mc ms) : s.vm.findClass own = some m.cls := h.2.2.2.1
theorem gOk.warm (h : gOk s0 a0 D t p R s m meth c A own cc nL ret mn fr lo mc ms) : s0.WarmedH s.vm := h.2.2.2.2.1
theorem gOk.g (h : gOk s0 a0 D t p R s m meth c A own cc nL ret mn fr lo mc ms) : gG s0 a0 D t := h.2.2.2.2.2.1
theorem gOk.a (h : gOk s0 a0 D t p R s m meth c A own cc nL ret mn fr lo mc ms) : ∀ q : Nat, s.heap.size ≤ q → A q := h.2.2.2.2.2.2.1
theorem gOk.o (h : gOk s0 a0 D t p R s m meth c A own cc nL ret mn fr lo mc ms) : gO s0 s A := h.2.2.2.2.2.2.2.1
theorem gOk.r (h : gOk s0 a0 D t p R s m meth c A own cc nL ret mn fr lo mc ms) : fr ≤ R.frames ∧ lo ≤ R.locals ∧ mc ≤ R.cells ∧ ms ≤ R.slots := h.2.2.2.2.2.2.2.2.1
theorem gOk.lk (h : gOk s0 a0 D t p R s m meth c A own cc nL ret mn fr lo mc ms) : meth.locks = false := h.2.2.2.2.2.2.2.2.2.1
theorem gOk.rt (h : gOk s0 a0 D t p R s m meth c A own cc nL ret mn fr lo mc ms) : meth.sig.returnType = ret := h.2.2.2.2.2.2.2.2.2.2.1
theorem gOk.nm (h : gOk s0 a0 D t p R s m meth c A own cc nL ret mn fr lo mc ms) : meth.name = mn := h.2.2.2.2.2.2.2.2.2.2.2
theorem gOk.w (h : gOk s0 a0 D t p R s m meth c A own cc nL ret mn fr lo mc ms) {w : Cond} (hw : w ∈ lw_tbl) (hg : goodWord w = true) : w.before args s = true := word_at h.warm (good_of_word hg) (h.g.1 w hw)
theorem gOk.ts (h : gOk s0 a0 D t p R s m meth c A own cc nL ret mn fr lo mc ms) : ∀ w ∈ gTb, w.before args s = true := fun w hw => h.w (List.mem_filter.mp hw).1 (List.mem_filter.mp hw).2
theorem gOk.k (h : gOk s0 a0 D t p R s m meth c A own cc nL ret mn fr lo mc ms) : va_K D vwCl (gTl t) s := va_K.moved h.warm.alike h.g.2
theorem gOk.fN (h : gOk s0 a0 D t p R s m meth c A own cc nL ret mn fr lo mc ms) {a : String} {i : Nat} {b n d ho : String} (hw : Cond.fieldLinkNest a i b n d ho ∈ lw_tbl) : (Cond.fieldLinkNest a i b n d ho).before args s = true := va_Nw.use rfl (va_Nw.warmF h.warm (va_Nw.of rfl (h.g.1 _ hw)))
theorem gOk.mN (h : gOk s0 a0 D t p R s m meth c A own cc nL ret mn fr lo mc ms) {a : String} {i : Nat} {x : MethodName} {ho : String} (hw : Cond.methodLinkNest a i x ho ∈ lw_tbl) : va_Nw (.methodLinkNest a i x ho) s := va_Nw.warmM h.warm (va_Nw.of rfl (h.g.1 _ hw))
-- locals, constants, stack
theorem g_iconst (ok : gOk s0 a0 D t p R s m meth c A own cc nL ret mn fr lo mc ms) {z : Int} (hd : decode cc pc = .ok (.iconst z, 1)) (kk : gW p l e R s m args below meth c Q D A nL Z cells slots ad n ce (pc + 1) lv (.int (iI z) :: st)) : gW p l e R s m args below meth c Q D A nL Z cells slots ad n ce pc lv st :=
  fun H locs ls hZ hP hD hS hl => lv_iconst ok.x ok.b hd rfl (kk H locs ls hZ hP hD hS hl)
theorem g_bipush (ok : gOk s0 a0 D t p R s m meth c A own cc nL ret mn fr lo mc ms) {z : Int} (hz : (Int8.ofInt z).toInt32 = iI z) (hd : decode cc pc = .ok (.bipush z, 2)) (kk : gW p l e R s m args below meth c Q D A nL Z cells slots ad n ce (pc + 2) lv (.int (iI z) :: st)) : gW p l e R s m args below meth c Q D A nL Z cells slots ad n ce pc lv st :=
  fun H locs ls hZ hP hD hS hl => lv_bipush ok.x ok.b hd hz (kk H locs ls hZ hP hD hS hl)
theorem g_sipush (ok : gOk s0 a0 D t p R s m meth c A own cc nL ret mn fr lo mc ms) {z : Int} (hz : (Int16.ofInt z).toInt32 = iI z) (hd : decode cc pc = .ok (.sipush z, 3)) (kk : gW p l e R s m args below meth c Q D A nL Z cells slots ad n ce (pc + 3) lv (.int (iI z) :: st)) : gW p l e R s m args below meth c Q D A nL Z cells slots ad n ce pc lv st :=
  fun H locs ls hZ hP hD hS hl => lv_sipush ok.x ok.b hd hz (kk H locs ls hZ hP hD hS hl)
theorem g_ldc (ok : gOk s0 a0 D t p R s m meth c A own cc nL ret mn fr lo mc ms) {i : Nat} {z : Int} (hw : Cond.constant own i (iI z) ∈ lw_tbl) (hd : decode cc pc = .ok (.ldc i, 2)) (kk : gW p l e R s m args below meth c Q D A nL Z cells slots ad n ce (pc + 2) lv (.int (iI z) :: st)) : gW p l e R s m args below meth c Q D A nL Z cells slots ad n ce pc lv st :=
  fun H locs ls hZ hP hD hS hl => lv_ldc ok.x ok.b ok.wn (ok.w hw rfl) hd (kk H locs ls hZ hP hD hS hl)
theorem g_iload_n (ok : gOk s0 a0 D t p R s m meth c A own cc nL ret mn fr lo mc ms) {k : Fin 4} {i : Nat} {x : Int32} (hd : decode cc pc = .ok (.iload_n k, 1)) (hi : (k : Nat) = i) (j : Nat) (hj : lv[j]? = some (i, .int x)) (kk : gW p l e R s m args below meth c Q D A nL Z cells slots ad n ce (pc + 1) lv (.int x :: st)) : gW p l e R s m args below meth c Q D A nL Z cells slots ad n ce pc lv st :=
  fun H locs ls hZ hP hD hS hl => lv_iload_n ok.x ok.b hd hi (lv_at hl j hj) (kk H locs ls hZ hP hD hS hl)
theorem g_iload (ok : gOk s0 a0 D t p R s m meth c A own cc nL ret mn fr lo mc ms) {i : Nat} {x : Int32} (hd : decode cc pc = .ok (.iload i, 2)) (j : Nat) (hj : lv[j]? = some (i, .int x)) (kk : gW p l e R s m args below meth c Q D A nL Z cells slots ad n ce (pc + 2) lv (.int x :: st)) : gW p l e R s m args below meth c Q D A nL Z cells slots ad n ce pc lv st :=
  fun H locs ls hZ hP hD hS hl => lv_iload ok.x ok.b hd (lv_at hl j hj) (kk H locs ls hZ hP hD hS hl)
theorem g_aload_n (ok : gOk s0 a0 D t p R s m meth c A own cc nL ret mn fr lo mc ms) {k : Fin 4} {i : Nat} {x : Nat} (hd : decode cc pc = .ok (.aload_n k, 1)) (hi : (k : Nat) = i) (j : Nat) (hj : lv[j]? = some (i, .ref x)) (kk : gW p l e R s m args below meth c Q D A nL Z cells slots ad n ce (pc + 1) lv (.ref x :: st)) : gW p l e R s m args below meth c Q D A nL Z cells slots ad n ce pc lv st :=
  fun H locs ls hZ hP hD hS hl => lv_aload_n ok.x ok.b hd hi (lv_at hl j hj) (kk H locs ls hZ hP hD hS hl)
theorem g_aload (ok : gOk s0 a0 D t p R s m meth c A own cc nL ret mn fr lo mc ms) {i : Nat} {x : Nat} (hd : decode cc pc = .ok (.aload i, 2)) (j : Nat) (hj : lv[j]? = some (i, .ref x)) (kk : gW p l e R s m args below meth c Q D A nL Z cells slots ad n ce (pc + 2) lv (.ref x :: st)) : gW p l e R s m args below meth c Q D A nL Z cells slots ad n ce pc lv st :=
  fun H locs ls hZ hP hD hS hl => lv_aload ok.x ok.b hd (lv_at hl j hj) (kk H locs ls hZ hP hD hS hl)
theorem g_istore_n (ok : gOk s0 a0 D t p R s m meth c A own cc nL ret mn fr lo mc ms) {k : Fin 4} {i : Nat} {x : Int32} (hd : decode cc pc = .ok (.istore_n k, 1)) (hi : (k : Nat) = i) (hn : i < nL) (hl' : (i, Value.int x) :: lv.filter (fun q => !(q.1 == i) && !(q.1 + 1 == i && q.2.category == 2)) = lv') (kk : gW p l e R s m args below meth c Q D A nL Z cells slots ad n ce (pc + 1) lv' st) : gW p l e R s m args below meth c Q D A nL Z cells slots ad n ce pc lv (.int x :: st) :=
  fun H locs ls hZ hP hD hS hl => lv_istore_n ok.x ok.b hd hi hl hn hl' (fun ls' h' => kk H locs ls' hZ hP hD hS h')
theorem g_istore (ok : gOk s0 a0 D t p R s m meth c A own cc nL ret mn fr lo mc ms) {i : Nat} {x : Int32} (hd : decode cc pc = .ok (.istore i, 2)) (hn : i < nL) (hl' : (i, Value.int x) :: lv.filter (fun q => !(q.1 == i) && !(q.1 + 1 == i && q.2.category == 2)) = lv') (kk : gW p l e R s m args below meth c Q D A nL Z cells slots ad n ce (pc + 2) lv' st) : gW p l e R s m args below meth c Q D A nL Z cells slots ad n ce pc lv (.int x :: st) :=
  fun H locs ls hZ hP hD hS hl => lv_istore ok.x ok.b hd hl hn hl' (fun ls' h' => kk H locs ls' hZ hP hD hS h')
theorem g_astore_n (ok : gOk s0 a0 D t p R s m meth c A own cc nL ret mn fr lo mc ms) {k : Fin 4} {i : Nat} {x : Nat} (hd : decode cc pc = .ok (.astore_n k, 1)) (hi : (k : Nat) = i) (hn : i < nL) (hl' : (i, Value.ref x) :: lv.filter (fun q => !(q.1 == i) && !(q.1 + 1 == i && q.2.category == 2)) = lv') (kk : gW p l e R s m args below meth c Q D A nL Z cells slots ad n ce (pc + 1) lv' st) : gW p l e R s m args below meth c Q D A nL Z cells slots ad n ce pc lv (.ref x :: st) :=
  fun H locs ls hZ hP hD hS hl => lv_astore_n ok.x ok.b hd hi hl hn hl' (fun ls' h' => kk H locs ls' hZ hP hD hS h')
theorem g_astore (ok : gOk s0 a0 D t p R s m meth c A own cc nL ret mn fr lo mc ms) {i : Nat} {x : Nat} (hd : decode cc pc = .ok (.astore i, 2)) (hn : i < nL) (hl' : (i, Value.ref x) :: lv.filter (fun q => !(q.1 == i) && !(q.1 + 1 == i && q.2.category == 2)) = lv') (kk : gW p l e R s m args below meth c Q D A nL Z cells slots ad n ce (pc + 2) lv' st) : gW p l e R s m args below meth c Q D A nL Z cells slots ad n ce pc lv (.ref x :: st) :=
  fun H locs ls hZ hP hD hS hl => lv_astore ok.x ok.b hd hl hn hl' (fun ls' h' => kk H locs ls' hZ hP hD hS h')
theorem g_iinc (ok : gOk s0 a0 D t p R s m meth c A own cc nL ret mn fr lo mc ms) {i : Nat} {z x : Int} (hd : decode cc pc = .ok (.iinc i z, 3)) (j : Nat) (hj : lv[j]? = some (i, .int (iI x))) (hn : i < nL) (hl' : (i, Value.int (iI (x + z))) :: lv.filter (fun q => !(q.1 == i) && !(q.1 + 1 == i && q.2.category == 2)) = lv') (kk : gW p l e R s m args below meth c Q D A nL Z cells slots ad n ce (pc + 3) lv' st) : gW p l e R s m args below meth c Q D A nL Z cells slots ad n ce pc lv st :=
  fun H locs ls hZ hP hD hS hl => lv_iinc ok.x ok.b hd hl hj (iI_add x z) hn hl' (fun ls' h' => kk H locs ls' hZ hP hD hS h')
theorem g_lv (ks : List Nat) (hl' : lv_pick lv ks = lv') (kk : gW p l e R s m args below meth c Q D A nL Z cells slots ad n ce pc lv' st) : gW p l e R s m args below meth c Q D A nL Z cells slots ad n ce pc lv st :=
  fun H locs ls hZ hP hD hS hl => kk H locs ls hZ hP hD hS (lv_sub hl ks hl')
theorem g_dup (ok : gOk s0 a0 D t p R s m meth c A own cc nL ret mn fr lo mc ms) {v : Value} (hd : decode cc pc = .ok (.dup, 1)) (hv : v.category = 1) (kk : gW p l e R s m args below meth c Q D A nL Z cells slots ad n ce (pc + 1) lv (v :: v :: st)) : gW p l e R s m args below meth c Q D A nL Z cells slots ad n ce pc lv (v :: st) :=
  fun H locs ls hZ hP hD hS hl => lv_dup ok.x ok.b hd hv (kk H locs ls hZ hP hD hS hl)
theorem g_pop (ok : gOk s0 a0 D t p R s m meth c A own cc nL ret mn fr lo mc ms) {v : Value} (hd : decode cc pc = .ok (.pop, 1)) (hv : v.category = 1) (kk : gW p l e R s m args below meth c Q D A nL Z cells slots ad n ce (pc + 1) lv st) : gW p l e R s m args below meth c Q D A nL Z cells slots ad n ce pc lv (v :: st) :=
  fun H locs ls hZ hP hD hS hl => lv_pop ok.x ok.b hd hv (kk H locs ls hZ hP hD hS hl)
theorem g_dup_x1 (ok : gOk s0 a0 D t p R s m meth c A own cc nL ret mn fr lo mc ms) {v w : Value} (hd : decode cc pc = .ok (.dup_x1, 1)) (hv : v.category = 1) (hw : w.category = 1) (kk : gW p l e R s m args below meth c Q D A nL Z cells slots ad n ce (pc + 1) lv (v :: w :: v :: st)) : gW p l e R s m args below meth c Q D A nL Z cells slots ad n ce pc lv (v :: w :: st) :=
  fun H locs ls hZ hP hD hS hl => lv_dup_x1 ok.x ok.b hd hv hw (kk H locs ls hZ hP hD hS hl)
theorem g_dup_x2 (ok : gOk s0 a0 D t p R s m meth c A own cc nL ret mn fr lo mc ms) {v w x : Value} (hd : decode cc pc = .ok (.dup_x2, 1)) (hv : v.category = 1) (hw : w.category = 1) (hx : x.category = 1) (kk : gW p l e R s m args below meth c Q D A nL Z cells slots ad n ce (pc + 1) lv (v :: w :: x :: v :: st)) : gW p l e R s m args below meth c Q D A nL Z cells slots ad n ce pc lv (v :: w :: x :: st) :=
  fun H locs ls hZ hP hD hS hl => lv_dup_x2 ok.x ok.b hd hv hw hx (kk H locs ls hZ hP hD hS hl)
theorem g_dup2 (ok : gOk s0 a0 D t p R s m meth c A own cc nL ret mn fr lo mc ms) {v w : Value} (hd : decode cc pc = .ok (.dup2, 1)) (hv : v.category = 1) (hw : w.category = 1) (kk : gW p l e R s m args below meth c Q D A nL Z cells slots ad n ce (pc + 1) lv (v :: w :: v :: w :: st)) : gW p l e R s m args below meth c Q D A nL Z cells slots ad n ce pc lv (v :: w :: st) :=
  fun H locs ls hZ hP hD hS hl => lv_dup2_11 ok.x ok.b hd hv hw (kk H locs ls hZ hP hD hS hl)
-- arithmetic
theorem g_iadd (ok : gOk s0 a0 D t p R s m meth c A own cc nL ret mn fr lo mc ms) {x y : Int} (hd : decode cc pc = .ok (.iadd, 1)) (kk : gW p l e R s m args below meth c Q D A nL Z cells slots ad n ce (pc + 1) lv (.int (iI (x + y)) :: st)) : gW p l e R s m args below meth c Q D A nL Z cells slots ad n ce pc lv (.int (iI y) :: .int (iI x) :: st) :=
  fun H locs ls hZ hP hD hS hl => lv_iadd ok.x ok.b hd (by rw [iI_add]; exact kk H locs ls hZ hP hD hS hl)
theorem g_isub (ok : gOk s0 a0 D t p R s m meth c A own cc nL ret mn fr lo mc ms) {x y : Int} (hd : decode cc pc = .ok (.isub, 1)) (kk : gW p l e R s m args below meth c Q D A nL Z cells slots ad n ce (pc + 1) lv (.int (iI (x - y)) :: st)) : gW p l e R s m args below meth c Q D A nL Z cells slots ad n ce pc lv (.int (iI y) :: .int (iI x) :: st) :=
  fun H locs ls hZ hP hD hS hl => lv_isub ok.x ok.b hd (by rw [iI_sub]; exact kk H locs ls hZ hP hD hS hl)
theorem g_imul (ok : gOk s0 a0 D t p R s m meth c A own cc nL ret mn fr lo mc ms) {x y : Int} (hd : decode cc pc = .ok (.imul, 1)) (kk : gW p l e R s m args below meth c Q D A nL Z cells slots ad n ce (pc + 1) lv (.int (iI (x * y)) :: st)) : gW p l e R s m args below meth c Q D A nL Z cells slots ad n ce pc lv (.int (iI y) :: .int (iI x) :: st) :=
  fun H locs ls hZ hP hD hS hl => lv_imul ok.x ok.b hd (by rw [iI_mul]; exact kk H locs ls hZ hP hD hS hl)
theorem g_ineg (ok : gOk s0 a0 D t p R s m meth c A own cc nL ret mn fr lo mc ms) {x : Int} (hd : decode cc pc = .ok (.ineg, 1)) (kk : gW p l e R s m args below meth c Q D A nL Z cells slots ad n ce (pc + 1) lv (.int (iI (-x)) :: st)) : gW p l e R s m args below meth c Q D A nL Z cells slots ad n ce pc lv (.int (iI x) :: st) :=
  fun H locs ls hZ hP hD hS hl => lv_ineg ok.x ok.b hd (by rw [iI_neg]; exact kk H locs ls hZ hP hD hS hl)
/-- any op whose answer is given as an Int32 that equals iI z -/
theorem g_iand (ok : gOk s0 a0 D t p R s m meth c A own cc nL ret mn fr lo mc ms) {x y z : Int} (hz : iI x &&& iI y = iI z) (hd : decode cc pc = .ok (.iand, 1)) (kk : gW p l e R s m args below meth c Q D A nL Z cells slots ad n ce (pc + 1) lv (.int (iI z) :: st)) : gW p l e R s m args below meth c Q D A nL Z cells slots ad n ce pc lv (.int (iI y) :: .int (iI x) :: st) :=
  fun H locs ls hZ hP hD hS hl => lv_iand ok.x ok.b hd (by rw [hz]; exact kk H locs ls hZ hP hD hS hl)
theorem g_ior (ok : gOk s0 a0 D t p R s m meth c A own cc nL ret mn fr lo mc ms) {x y z : Int} (hz : iI x ||| iI y = iI z) (hd : decode cc pc = .ok (.ior, 1)) (kk : gW p l e R s m args below meth c Q D A nL Z cells slots ad n ce (pc + 1) lv (.int (iI z) :: st)) : gW p l e R s m args below meth c Q D A nL Z cells slots ad n ce pc lv (.int (iI y) :: .int (iI x) :: st) :=
  fun H locs ls hZ hP hD hS hl => lv_ior ok.x ok.b hd (by rw [hz]; exact kk H locs ls hZ hP hD hS hl)
theorem g_ixor (ok : gOk s0 a0 D t p R s m meth c A own cc nL ret mn fr lo mc ms) {x y z : Int} (hz : iI x ^^^ iI y = iI z) (hd : decode cc pc = .ok (.ixor, 1)) (kk : gW p l e R s m args below meth c Q D A nL Z cells slots ad n ce (pc + 1) lv (.int (iI z) :: st)) : gW p l e R s m args below meth c Q D A nL Z cells slots ad n ce pc lv (.int (iI y) :: .int (iI x) :: st) :=
  fun H locs ls hZ hP hD hS hl => lv_ixor ok.x ok.b hd (by rw [hz]; exact kk H locs ls hZ hP hD hS hl)
theorem g_ishl (ok : gOk s0 a0 D t p R s m meth c A own cc nL ret mn fr lo mc ms) {x y z : Int} (hz : iI x <<< (iI y &&& 31) = iI z) (hd : decode cc pc = .ok (.ishl, 1)) (kk : gW p l e R s m args below meth c Q D A nL Z cells slots ad n ce (pc + 1) lv (.int (iI z) :: st)) : gW p l e R s m args below meth c Q D A nL Z cells slots ad n ce pc lv (.int (iI y) :: .int (iI x) :: st) :=
  fun H locs ls hZ hP hD hS hl => lv_ishl ok.x ok.b hd (by rw [hz]; exact kk H locs ls hZ hP hD hS hl)
theorem g_ishr (ok : gOk s0 a0 D t p R s m meth c A own cc nL ret mn fr lo mc ms) {x y z : Int} (hz : iI x >>> (iI y &&& 31) = iI z) (hd : decode cc pc = .ok (.ishr, 1)) (kk : gW p l e R s m args below meth c Q D A nL Z cells slots ad n ce (pc + 1) lv (.int (iI z) :: st)) : gW p l e R s m args below meth c Q D A nL Z cells slots ad n ce pc lv (.int (iI y) :: .int (iI x) :: st) :=
  fun H locs ls hZ hP hD hS hl => lv_ishr ok.x ok.b hd (by rw [hz]; exact kk H locs ls hZ hP hD hS hl)
theorem g_idiv (ok : gOk s0 a0 D t p R s m meth c A own cc nL ret mn fr lo mc ms) {x y z : Int} (hy : ¬ iI y = 0) (hz : iI x / iI y = iI z) (hd : decode cc pc = .ok (.idiv, 1)) (kk : gW p l e R s m args below meth c Q D A nL Z cells slots ad n ce (pc + 1) lv (.int (iI z) :: st)) : gW p l e R s m args below meth c Q D A nL Z cells slots ad n ce pc lv (.int (iI y) :: .int (iI x) :: st) :=
  fun H locs ls hZ hP hD hS hl => lv_idiv ok.x ok.b hd hy (by rw [hz]; exact kk H locs ls hZ hP hD hS hl)
theorem g_irem (ok : gOk s0 a0 D t p R s m meth c A own cc nL ret mn fr lo mc ms) {x y z : Int} (hy : ¬ iI y = 0) (hz : iI x - iI x / iI y * iI y = iI z) (hd : decode cc pc = .ok (.irem, 1)) (kk : gW p l e R s m args below meth c Q D A nL Z cells slots ad n ce (pc + 1) lv (.int (iI z) :: st)) : gW p l e R s m args below meth c Q D A nL Z cells slots ad n ce pc lv (.int (iI y) :: .int (iI x) :: st) :=
  fun H locs ls hZ hP hD hS hl => lv_irem ok.x ok.b hd hy (by rw [hz]; exact kk H locs ls hZ hP hD hS hl)
/-- the top gets another name -/
theorem g_top {x y : Int} (h : x = y) (kk : gW p l e R s m args below meth c Q D A nL Z cells slots ad n ce pc lv (.int (iI y) :: st)) : gW p l e R s m args below meth c Q D A nL Z cells slots ad n ce pc lv (.int (iI x) :: st) := h ▸ kk
-- branches
theorem g_if_eq (ok : gOk s0 a0 D t p R s m meth c A own cc nL ret mn fr lo mc ms) {x : Int} {off : Int} (tgt : Nat) (hd : decode cc pc = .ok (.ifCond .eq off, 3)) (ht : (pc : Int) + off = (tgt : Int)) (hx : -2147483648 ≤ x ∧ x < 2147483648) (kt : x = 0 → gW p l e R s m args below meth c Q D A nL Z cells slots ad n ce tgt lv st) (kf : ¬ (x = 0) → gW p l e R s m args below meth c Q D A nL Z cells slots ad n ce (pc + 3) lv st) : gW p l e R s m args below meth c Q D A nL Z cells slots ad n ce pc lv (.int (iI x) :: st) := by
  have z0 : (-2147483648 : Int) ≤ 0 ∧ (0 : Int) < 2147483648 := by omega
  have hq := iI_eq hx z0
  rw [← iI_zero] at hq
  exact fun H locs ls hZ hP hD hS hl => lv_if_eq ok.x ok.b hd ht (fun q => kt (hq.mp q) H locs ls hZ hP hD hS hl) (fun q => kf (fun r => q (hq.mpr r)) H locs ls hZ hP hD hS hl)
theorem g_icmp_eq (ok : gOk s0 a0 D t p R s m meth c A own cc nL ret mn fr lo mc ms) {x y : Int} {off : Int} (tgt : Nat) (hd : decode cc pc = .ok (.if_icmp .eq off, 3)) (ht : (pc : Int) + off = (tgt : Int)) (hx : -2147483648 ≤ x ∧ x < 2147483648) (hy : -2147483648 ≤ y ∧ y < 2147483648) (kt : x = y → gW p l e R s m args below meth c Q D A nL Z cells slots ad n ce tgt lv st) (kf : ¬ (x = y) → gW p l e R s m args below meth c Q D A nL Z cells slots ad n ce (pc + 3) lv st) : gW p l e R s m args below meth c Q D A nL Z cells slots ad n ce pc lv (.int (iI y) :: .int (iI x) :: st) := by
  have hq := iI_eq hx hy
  exact fun H locs ls hZ hP hD hS hl => lv_icmp_eq ok.x ok.b hd ht (fun q => kt (hq.mp q) H locs ls hZ hP hD hS hl) (fun q => kf (fun r => q (hq.mpr r)) H locs ls hZ hP hD hS hl)
theorem g_if_ne (ok : gOk s0 a0 D t p R s m meth c A own cc nL ret mn fr lo mc ms) {x : Int} {off : Int} (tgt : Nat) (hd : decode cc pc = .ok (.ifCond .ne off, 3)) (ht : (pc : Int) + off = (tgt : Int)) (hx : -2147483648 ≤ x ∧ x < 2147483648) (kt : ¬ x = 0 → gW p l e R s m args below meth c Q D A nL Z cells slots ad n ce tgt lv st) (kf : x = 0 → gW p l e R s m args below meth c Q D A nL Z cells slots ad n ce (pc + 3) lv st) : gW p l e R s m args below meth c Q D A nL Z cells slots ad n ce pc lv (.int (iI x) :: st) := by
  have z0 : (-2147483648 : Int) ≤ 0 ∧ (0 : Int) < 2147483648 := by omega
  have hq := iI_eq hx z0
  rw [← iI_zero] at hq
  exact fun H locs ls hZ hP hD hS hl => lv_if_ne ok.x ok.b hd ht (fun q => kt (fun r => q (hq.mpr r)) H locs ls hZ hP hD hS hl) (fun q => kf (hq.mp q) H locs ls hZ hP hD hS hl)
theorem g_icmp_ne (ok : gOk s0 a0 D t p R s m meth c A own cc nL ret mn fr lo mc ms) {x y : Int} {off : Int} (tgt : Nat) (hd : decode cc pc = .ok (.if_icmp .ne off, 3)) (ht : (pc : Int) + off = (tgt : Int)) (hx : -2147483648 ≤ x ∧ x < 2147483648) (hy : -2147483648 ≤ y ∧ y < 2147483648) (kt : ¬ x = y → gW p l e R s m args below meth c Q D A nL Z cells slots ad n ce tgt lv st) (kf : x = y → gW p l e R s m args below meth c Q D A nL Z cells slots ad n ce (pc + 3) lv st) : gW p l e R s m args below meth c Q D A nL Z cells slots ad n ce pc lv (.int (iI y) :: .int (iI x) :: st) := by
  have hq := iI_eq hx hy
  exact fun H locs ls hZ hP hD hS hl => lv_icmp_ne ok.x ok.b hd ht (fun q => kt (fun r => q (hq.mpr r)) H locs ls hZ hP hD hS hl) (fun q => kf (hq.mp q) H locs ls hZ hP hD hS hl)
theorem g_if_lt (ok : gOk s0 a0 D t p R s m meth c A own cc nL ret mn fr lo mc ms) {x : Int} {off : Int} (tgt : Nat) (hd : decode cc pc = .ok (.ifCond .lt off, 3)) (ht : (pc : Int) + off = (tgt : Int)) (hx : -2147483648 ≤ x ∧ x < 2147483648) (kt : x < 0 → gW p l e R s m args below meth c Q D A nL Z cells slots ad n ce tgt lv st) (kf : ¬ (x < 0) → gW p l e R s m args below meth c Q D A nL Z cells slots ad n ce (pc + 3) lv st) : gW p l e R s m args below meth c Q D A nL Z cells slots ad n ce pc lv (.int (iI x) :: st) := by
  have z0 : (-2147483648 : Int) ≤ 0 ∧ (0 : Int) < 2147483648 := by omega
  have hq := iI_lt hx z0
  rw [← iI_zero] at hq
  exact fun H locs ls hZ hP hD hS hl => lv_if_lt ok.x ok.b hd ht (fun q => kt (hq.mp q) H locs ls hZ hP hD hS hl) (fun q => kf (fun r => q (hq.mpr r)) H locs ls hZ hP hD hS hl)
theorem g_icmp_lt (ok : gOk s0 a0 D t p R s m meth c A own cc nL ret mn fr lo mc ms) {x y : Int} {off : Int} (tgt : Nat) (hd : decode cc pc = .ok (.if_icmp .lt off, 3)) (ht : (pc : Int) + off = (tgt : Int)) (hx : -2147483648 ≤ x ∧ x < 2147483648) (hy : -2147483648 ≤ y ∧ y < 2147483648) (kt : x < y → gW p l e R s m args below meth c Q D A nL Z cells slots ad n ce tgt lv st) (kf : ¬ (x < y) → gW p l e R s m args below meth c Q D A nL Z cells slots ad n ce (pc + 3) lv st) : gW p l e R s m args below meth c Q D A nL Z cells slots ad n ce pc lv (.int (iI y) :: .int (iI x) :: st) := by
  have hq := iI_lt hx hy
  exact fun H locs ls hZ hP hD hS hl => lv_icmp_lt ok.x ok.b hd ht (fun q => kt (hq.mp q) H locs ls hZ hP hD hS hl) (fun q => kf (fun r => q (hq.mpr r)) H locs ls hZ hP hD hS hl)
theorem g_if_ge (ok : gOk s0 a0 D t p R s m meth c A own cc nL ret mn fr lo mc ms) {x : Int} {off : Int} (tgt : Nat) (hd : decode cc pc = .ok (.ifCond .ge off, 3)) (ht : (pc : Int) + off = (tgt : Int)) (hx : -2147483648 ≤ x ∧ x < 2147483648) (kt : 0 ≤ x → gW p l e R s m args below meth c Q D A nL Z cells slots ad n ce tgt lv st) (kf : ¬ (0 ≤ x) → gW p l e R s m args below meth c Q D A nL Z cells slots ad n ce (pc + 3) lv st) : gW p l e R s m args below meth c Q D A nL Z cells slots ad n ce pc lv (.int (iI x) :: st) := by
  have z0 : (-2147483648 : Int) ≤ 0 ∧ (0 : Int) < 2147483648 := by omega
  have hq := iI_le z0 hx
  rw [← iI_zero] at hq
  exact fun H locs ls hZ hP hD hS hl => lv_if_ge ok.x ok.b hd ht (fun q => kt (hq.mp q) H locs ls hZ hP hD hS hl) (fun q => kf (fun r => q (hq.mpr r)) H locs ls hZ hP hD hS hl)
theorem g_icmp_ge (ok : gOk s0 a0 D t p R s m meth c A own cc nL ret mn fr lo mc ms) {x y : Int} {off : Int} (tgt : Nat) (hd : decode cc pc = .ok (.if_icmp .ge off, 3)) (ht : (pc : Int) + off = (tgt : Int)) (hx : -2147483648 ≤ x ∧ x < 2147483648) (hy : -2147483648 ≤ y ∧ y < 2147483648) (kt : y ≤ x → gW p l e R s m args below meth c Q D A nL Z cells slots ad n ce tgt lv st) (kf : ¬ (y ≤ x) → gW p l e R s m args below meth c Q D A nL Z cells slots ad n ce (pc + 3) lv st) : gW p l e R s m args below meth c Q D A nL Z cells slots ad n ce pc lv (.int (iI y) :: .int (iI x) :: st) := by
  have hq := iI_le hy hx
  exact fun H locs ls hZ hP hD hS hl => lv_icmp_ge ok.x ok.b hd ht (fun q => kt (hq.mp q) H locs ls hZ hP hD hS hl) (fun q => kf (fun r => q (hq.mpr r)) H locs ls hZ hP hD hS hl)
theorem g_if_gt (ok : gOk s0 a0 D t p R s m meth c A own cc nL ret mn fr lo mc ms) {x : Int} {off : Int} (tgt : Nat) (hd : decode cc pc = .ok (.ifCond .gt off, 3)) (ht : (pc : Int) + off = (tgt : Int)) (hx : -2147483648 ≤ x ∧ x < 2147483648) (kt : 0 < x → gW p l e R s m args below meth c Q D A nL Z cells slots ad n ce tgt lv st) (kf : ¬ (0 < x) → gW p l e R s m args below meth c Q D A nL Z cells slots ad n ce (pc + 3) lv st) : gW p l e R s m args below meth c Q D A nL Z cells slots ad n ce pc lv (.int (iI x) :: st) := by
  have z0 : (-2147483648 : Int) ≤ 0 ∧ (0 : Int) < 2147483648 := by omega
  have hq := iI_lt z0 hx
  rw [← iI_zero] at hq
  exact fun H locs ls hZ hP hD hS hl => lv_if_gt ok.x ok.b hd ht (fun q => kt (hq.mp q) H locs ls hZ hP hD hS hl) (fun q => kf (fun r => q (hq.mpr r)) H locs ls hZ hP hD hS hl)
theorem g_icmp_gt (ok : gOk s0 a0 D t p R s m meth c A own cc nL ret mn fr lo mc ms) {x y : Int} {off : Int} (tgt : Nat) (hd : decode cc pc = .ok (.if_icmp .gt off, 3)) (ht : (pc : Int) + off = (tgt : Int)) (hx : -2147483648 ≤ x ∧ x < 2147483648) (hy : -2147483648 ≤ y ∧ y < 2147483648) (kt : y < x → gW p l e R s m args below meth c Q D A nL Z cells slots ad n ce tgt lv st) (kf : ¬ (y < x) → gW p l e R s m args below meth c Q D A nL Z cells slots ad n ce (pc + 3) lv st) : gW p l e R s m args below meth c Q D A nL Z cells slots ad n ce pc lv (.int (iI y) :: .int (iI x) :: st) := by
  have hq := iI_lt hy hx
  exact fun H locs ls hZ hP hD hS hl => lv_icmp_gt ok.x ok.b hd ht (fun q => kt (hq.mp q) H locs ls hZ hP hD hS hl) (fun q => kf (fun r => q (hq.mpr r)) H locs ls hZ hP hD hS hl)
theorem g_if_le (ok : gOk s0 a0 D t p R s m meth c A own cc nL ret mn fr lo mc ms) {x : Int} {off : Int} (tgt : Nat) (hd : decode cc pc = .ok (.ifCond .le off, 3)) (ht : (pc : Int) + off = (tgt : Int)) (hx : -2147483648 ≤ x ∧ x < 2147483648) (kt : x ≤ 0 → gW p l e R s m args below meth c Q D A nL Z cells slots ad n ce tgt lv st) (kf : ¬ (x ≤ 0) → gW p l e R s m args below meth c Q D A nL Z cells slots ad n ce (pc + 3) lv st) : gW p l e R s m args below meth c Q D A nL Z cells slots ad n ce pc lv (.int (iI x) :: st) := by
  have z0 : (-2147483648 : Int) ≤ 0 ∧ (0 : Int) < 2147483648 := by omega
  have hq := iI_le hx z0
  rw [← iI_zero] at hq
  exact fun H locs ls hZ hP hD hS hl => lv_if_le ok.x ok.b hd ht (fun q => kt (hq.mp q) H locs ls hZ hP hD hS hl) (fun q => kf (fun r => q (hq.mpr r)) H locs ls hZ hP hD hS hl)
theorem g_icmp_le (ok : gOk s0 a0 D t p R s m meth c A own cc nL ret mn fr lo mc ms) {x y : Int} {off : Int} (tgt : Nat) (hd : decode cc pc = .ok (.if_icmp .le off, 3)) (ht : (pc : Int) + off = (tgt : Int)) (hx : -2147483648 ≤ x ∧ x < 2147483648) (hy : -2147483648 ≤ y ∧ y < 2147483648) (kt : x ≤ y → gW p l e R s m args below meth c Q D A nL Z cells slots ad n ce tgt lv st) (kf : ¬ (x ≤ y) → gW p l e R s m args below meth c Q D A nL Z cells slots ad n ce (pc + 3) lv st) : gW p l e R s m args below meth c Q D A nL Z cells slots ad n ce pc lv (.int (iI y) :: .int (iI x) :: st) := by
  have hq := iI_le hx hy
  exact fun H locs ls hZ hP hD hS hl => lv_icmp_le ok.x ok.b hd ht (fun q => kt (hq.mp q) H locs ls hZ hP hD hS hl) (fun q => kf (fun r => q (hq.mpr r)) H locs ls hZ hP hD hS hl)
theorem g_goto (ok : gOk s0 a0 D t p R s m meth c A own cc nL ret mn fr lo mc ms) {off : Int} (tgt : Nat) (hd : decode cc pc = .ok (.goto off, 3)) (ht : (pc : Int) + off = (tgt : Int)) (kk : gW p l e R s m args below meth c Q D A nL Z cells slots ad n ce tgt lv st) : gW p l e R s m args below meth c Q D A nL Z cells slots ad n ce pc lv st :=
  fun H locs ls hZ hP hD hS hl => lv_goto ok.x ok.b hd ht (kk H locs ls hZ hP hD hS hl)
theorem g_ifnull (ok : gOk s0 a0 D t p R s m meth c A own cc nL ret mn fr lo mc ms) {x : Nat} {off : Int} (hd : decode cc pc = .ok (.ifnull off, 3)) (kk : gW p l e R s m args below meth c Q D A nL Z cells slots ad n ce (pc + 3) lv st) : gW p l e R s m args below meth c Q D A nL Z cells slots ad n ce pc lv (.ref x :: st) :=
  fun H locs ls hZ hP hD hS hl => lv_ifnull ok.x ok.b hd (kk H locs ls hZ hP hD hS hl)
theorem g_ifnonnull (ok : gOk s0 a0 D t p R s m meth c A own cc nL ret mn fr lo mc ms) {x : Nat} {off : Int} (tgt : Nat) (hd : decode cc pc = .ok (.ifnonnull off, 3)) (ht : (pc : Int) + off = (tgt : Int)) (kk : gW p l e R s m args below meth c Q D A nL Z cells slots ad n ce tgt lv st) : gW p l e R s m args below meth c Q D A nL Z cells slots ad n ce pc lv (.ref x :: st) :=
  fun H locs ls hZ hP hD hS hl => lv_ifnonnull ok.x ok.b hd ht (kk H locs ls hZ hP hD hS hl)
-- fields
theorem g_get (ok : gOk s0 a0 D t p R s m meth c A own cc nL ret mn fr lo mc ms) {C ref : String} {T : u_T} {N ci index : Nat} (hin : ∀ w ∈ u_ws C T N, w ∈ gTb) (hc : vwCl[ci]? = some (C, T, N)) (k : Nat) (hk : k < n) {fs : List Value} (he : ce k = .inr (ci, fs)) (j : Nat) (hj : j < N) (hr : (T j).1 = ref) (hl0 : Cond.fieldLink own index ref (T j).2.1 (T j).2.2.1 ∈ lw_tbl) {v : Value} (hv : fs[j]? = some v) (hd : decode cc pc = .ok (.getfield index, 3)) (kk : gW p l e R s m args below meth c Q D A nL Z cells slots ad n ce (pc + 3) lv (v :: st)) : gW p l e R s m args below meth c Q D A nL Z cells slots ad n ce pc lv (.ref (ad k) :: st) :=
  fun H locs ls hZ hP hD hS hl => va_get ok.x ok.b ok.ts hin ok.wn ok.k hP k ((wW_get hk).trans (by rw [he])) hc j hj (ok.w hl0 rfl) (fun _ h9 => hr ▸ h9) hv hd (kk H locs ls hZ hP hD hS hl)
theorem g_getN (ok : gOk s0 a0 D t p R s m meth c A own cc nL ret mn fr lo mc ms) {C ref : String} {T : u_T} {N ci index : Nat} (hin : ∀ w ∈ u_ws C T N, w ∈ gTb) (hc : vwCl[ci]? = some (C, T, N)) (k : Nat) (hk : k < n) {fs : List Value} (he : ce k = .inr (ci, fs)) (j : Nat) (hj : j < N) {host : String} (hr : (T j).1 = ref) (hl0 : Cond.fieldLinkNest own index ref (T j).2.1 (T j).2.2.1 host ∈ lw_tbl) {v : Value} (hv : fs[j]? = some v) (hd : decode cc pc = .ok (.getfield index, 3)) (kk : gW p l e R s m args below meth c Q D A nL Z cells slots ad n ce (pc + 3) lv (v :: st)) : gW p l e R s m args below meth c Q D A nL Z cells slots ad n ce pc lv (.ref (ad k) :: st) :=
  fun H locs ls hZ hP hD hS hl => va_getN ok.x ok.b ok.ts hin ok.wn ok.k hP k ((wW_get hk).trans (by rw [he])) hc j hj (ok.fN hl0) (fun _ h9 => hr ▸ h9) hv hd (kk H locs ls hZ hP hD hS hl)
theorem g_put (ok : gOk s0 a0 D t p R s m meth c A own cc nL ret mn fr lo mc ms) {C ref : String} {T : u_T} {N ci index : Nat} (hin : ∀ w ∈ u_ws C T N, w ∈ gTb) (hc : vwCl[ci]? = some (C, T, N)) (k : Nat) (hk : k < n) {fs : List Value} (he : ce k = .inr (ci, fs)) (j : Nat) (hj : j < N) (ty0 : Nat → FieldType) (hty : ∀ k, k < N → parseFieldDescriptor (T k).2.2.1 = some (ty0 k)) (hnm : ∀ a, a < N → ∀ b, b < N → a ≠ b → (T a).2.1 ≠ (T b).2.1) (hr : (T j).1 = ref) (hl0 : Cond.fieldLink own index ref (T j).2.1 (T j).2.2.1 ∈ lw_tbl) (hfin : (T j).2.2.2 = false) {v : Value} (hn : narrow (ty0 j) v = v) (hfit : fits (ty0 j) v = true) (hlen : j < fs.length) (hd : decode cc pc = .ok (.putfield index, 3)) (kk : gW p l e R s m args below meth c Q D A nL gZ cells slots ad n (va_up ce k (.inr (ci, fs.set j v))) (pc + 3) lv st) : gW p l e R s m args below meth c Q D A nL Z cells slots ad n ce pc lv (v :: .ref (ad k) :: st) := by
  intro H locs ls hZ hP hD hS hl
  refine va_put ok.x ok.b ok.ts hin ty0 hty hnm ok.wn ok.k hP hD hS k ((wW_get hk).trans (by rw [he])) hc j hj (ok.w hl0 rfl) (fun _ h9 => hr ▸ h9) hfin (hty j hj) hn hfit hlen hd (fun H1 locs1 hP1 hD1 hS1 => ?_)
  rw [wW_set] at hP1 hD1
  exact kk H1 locs1 ls trivial hP1 hD1 hS1 hl
theorem g_putN (ok : gOk s0 a0 D t p R s m meth c A own cc nL ret mn fr lo mc ms) {C ref : String} {T : u_T} {N ci index : Nat} (hin : ∀ w ∈ u_ws C T N, w ∈ gTb) (hc : vwCl[ci]? = some (C, T, N)) (k : Nat) (hk : k < n) {fs : List Value} (he : ce k = .inr (ci, fs)) (j : Nat) (hj : j < N) (ty0 : Nat → FieldType) (hty : ∀ k, k < N → parseFieldDescriptor (T k).2.2.1 = some (ty0 k)) (hnm : ∀ a, a < N → ∀ b, b < N → a ≠ b → (T a).2.1 ≠ (T b).2.1) {host : String} (hr : (T j).1 = ref) (hl0 : Cond.fieldLinkNest own index ref (T j).2.1 (T j).2.2.1 host ∈ lw_tbl) (hfin : (T j).2.2.2 = false) {v : Value} (hn : narrow (ty0 j) v = v) (hfit : fits (ty0 j) v = true) (hlen : j < fs.length) (hd : decode cc pc = .ok (.putfield index, 3)) (kk : gW p l e R s m args below meth c Q D A nL gZ cells slots ad n (va_up ce k (.inr (ci, fs.set j v))) (pc + 3) lv st) : gW p l e R s m args below meth c Q D A nL Z cells slots ad n ce pc lv (v :: .ref (ad k) :: st) := by
  intro H locs ls hZ hP hD hS hl
  refine va_putN ok.x ok.b ok.ts hin ty0 hty hnm ok.wn ok.k hP hD hS k ((wW_get hk).trans (by rw [he])) hc j hj (ok.fN hl0) (fun _ h9 => hr ▸ h9) hfin (hty j hj) hn hfit hlen hd (fun H1 locs1 hP1 hD1 hS1 => ?_)
  rw [wW_set] at hP1 hD1
  exact kk H1 locs1 ls trivial hP1 hD1 hS1 hl
theorem g_putF (ok : gOk s0 a0 D t p R s m meth c A own cc nL ret mn fr lo mc ms) {C ref : String} {T : u_T} {N ci index : Nat} (hin : ∀ w ∈ u_ws C T N, w ∈ gTb) (hc : vwCl[ci]? = some (C, T, N)) (k : Nat) (hk : k < n) {fs : List Value} (he : ce k = .inr (ci, fs)) (j : Nat) (hj : j < N) (ty0 : Nat → FieldType) (hty : ∀ k, k < N → parseFieldDescriptor (T k).2.2.1 = some (ty0 k)) (hnm : ∀ a, a < N → ∀ b, b < N → a ≠ b → (T a).2.1 ≠ (T b).2.1) (hr : (T j).1 = ref) (hl0 : Cond.fieldLink own index ref (T j).2.1 (T j).2.2.1 ∈ lw_tbl) (hfin : (T j).2.2.2 = true) (hmn : mn = "<init>") (hdecl : (T j).1 = own) {v : Value} (hn : narrow (ty0 j) v = v) (hfit : fits (ty0 j) v = true) (hlen : j < fs.length) (hd : decode cc pc = .ok (.putfield index, 3)) (kk : gW p l e R s m args below meth c Q D A nL gZ cells slots ad n (va_up ce k (.inr (ci, fs.set j v))) (pc + 3) lv st) : gW p l e R s m args below meth c Q D A nL Z cells slots ad n ce pc lv (v :: .ref (ad k) :: st) := by
  intro H locs ls hZ hP hD hS hl
  refine va_putF ok.x ok.b ok.ts hin ty0 hty hnm ok.wn ok.k hP hD hS k ((wW_get hk).trans (by rw [he])) hc j hj (ok.w hl0 rfl) (fun _ h9 => hr ▸ h9) hfin (ok.nm.trans hmn) hdecl (hty j hj) hn hfit hlen hd (fun H1 locs1 hP1 hD1 hS1 => ?_)
  rw [wW_set] at hP1 hD1
  exact kk H1 locs1 ls trivial hP1 hD1 hS1 hl
-- arrays of ints: the cell is zC t N f
theorem g_iald (ok : gOk s0 a0 D t p R s m meth c A own cc nL ret mn fr lo mc ms) (k : Nat) (hk : k < n) {N : Nat} {f : Int → Int} (he : ce k = zC t N f) {z : Int} (hN : N < 2147483648) (hz : 0 ≤ z ∧ z < N) (hd : decode cc pc = .ok (.iaload, 1)) (kk : gW p l e R s m args below meth c Q D A nL Z cells slots ad n ce (pc + 1) lv (.int (iI (f z)) :: st)) : gW p l e R s m args below meth c Q D A nL Z cells slots ad n ce pc lv (.int (iI z) :: .ref (ad k) :: st) := by
  intro H locs ls hZ hP hD hS hl
  refine va_iald ok.x ok.b ok.k hP k 0 ((wW_get hk).trans (by rw [he]; rfl)) rfl (iI_in hN hz) hd ?_
  rw [zA_at (by omega)]
  exact kk H locs ls hZ hP hD hS hl
theorem g_iast (ok : gOk s0 a0 D t p R s m meth c A own cc nL ret mn fr lo mc ms) (k : Nat) (hk : k < n) {N : Nat} {f : Int → Int} (he : ce k = zC t N f) {z v : Int} (hN : N < 2147483648) (hz : 0 ≤ z ∧ z < N) (hd : decode cc pc = .ok (.iastore, 1)) (kk : gW p l e R s m args below meth c Q D A nL gZ cells slots ad n (va_up ce k (zC t N (zU f z v))) (pc + 1) lv st) : gW p l e R s m args below meth c Q D A nL Z cells slots ad n ce pc lv (.int (iI v) :: .int (iI z) :: .ref (ad k) :: st) := by
  intro H locs ls hZ hP hD hS hl
  refine va_iast ok.x ok.b ok.k hP hD hS k 0 ((wW_get hk).trans (by rw [he]; rfl)) rfl (iI_in hN hz) hd (fun H1 locs1 hP1 hD1 hS1 => ?_)
  rw [zA_up (by omega), wW_set] at hP1 hD1
  exact kk H1 locs1 ls trivial hP1 hD1 hS1 hl
theorem g_alen (ok : gOk s0 a0 D t p R s m meth c A own cc nL ret mn fr lo mc ms) (k : Nat) (hk : k < n) {N : Nat} {f : Int → Int} (he : ce k = zC t N f) (hd : decode cc pc = .ok (.arraylength, 1)) (kk : gW p l e R s m args below meth c Q D A nL Z cells slots ad n ce (pc + 1) lv (.int (iI (N : Int)) :: st)) : gW p l e R s m args below meth c Q D A nL Z cells slots ad n ce pc lv (.ref (ad k) :: st) := by
  intro H locs ls hZ hP hD hS hl
  exact va_alen ok.x ok.b ok.k hP k 0 (x := (N, .inl (zA f))) ((wW_get hk).trans (by rw [he]; rfl)) (ty := .int) rfl (iI_nat N) hd (kk H locs ls hZ hP hD hS hl)
-- contracts
def gPc (s0 : State) (D : va_G) (ad : Nat → Nat) (n : Nat) (ce : Nat → va_E) (sz : Nat) : State → Prop := fun U => U.heap.size = sz ∧ s0.WarmedH U.vm ∧ (s0.heap.size ≤ sz ∧ (∀ q : Nat, q < s0.heap.size → U.heap[q]? = s0.heap[q]?) ∧ ∀ k : Nat, k < n → s0.heap.size ≤ ad k) ∧ va_P D vwCl (wW ad n ce) U.heap ∧ va_D (fun _ => True) (wW ad n ce)
def gB (D : va_G) (A : Nat → Prop) (ad : Nat → Nat) (n : Nat) (ce : Nat → va_E) (u : State) : Prop := va_P D vwCl (wW ad n ce) u.heap ∧ va_D A (wW ad n ce)
/-- an int comes back, no cell is made -/
def gQi (D : va_G) (A : Nat → Prop) (ad : Nat → Nat) (n : Nat) (post : Int → (Nat → va_E) → Prop) : Array Value → State → Outcome → State → Prop := va_Qi (fun (r : Int32) (ce' : Nat → va_E) => ∃ z : Int, r = iI z ∧ post z ce') (fun ce' => gB D A ad n ce') A
def gQv (D : va_G) (A : Nat → Prop) (ad : Nat → Nat) (n : Nat) (post : (Nat → va_E) → Prop) : Array Value → State → Outcome → State → Prop := va_Qv (fun (ce' : Nat → va_E) => post ce') (fun ce' => gB D A ad n ce') A
/-- nothing comes back, cells are made: n' of them are there then -/
def gQn (D : va_G) (A : Nat → Prop) (n' : Nat) (post : (Nat → Nat) → (Nat → va_E) → Prop) : Array Value → State → Outcome → State → Prop := va_Qv (fun (u : (Nat → Nat) × (Nat → va_E)) => post u.1 u.2) (fun u => gB D A u.1 n' u.2) A
def gRm (fr lo mc ms : Nat) : Room := { frames := fr, cells := mc, slots := ms, locals := lo }
def gI (s0 : State) (a0 : Array Value) (D : va_G) (t : Nat → ClassId) (y : MethodName) (cc : ByteArray) (mL : Nat) (ret : Option FieldType) (fr lo : Nat) (ad : Nat → Nat) (n : Nat) (ce : Nat → va_E) (av : List Value) (post : Int → (Nat → va_E) → Prop) : Prop :=
  gG s0 a0 D t → ∀ (l : Launch) (sz : Nat), Met l y [.code y cc mL ret] (gRm fr lo 0 0) (va_Pc av (gPc s0 D ad n ce sz)) (gQi D (va_A (wW ad n ce) sz) ad n post) 0 0 (va_A (wW ad n ce) sz)
def gV (s0 : State) (a0 : Array Value) (D : va_G) (t : Nat → ClassId) (y : MethodName) (cc : ByteArray) (mL : Nat) (ret : Option FieldType) (fr lo : Nat) (ad : Nat → Nat) (n : Nat) (ce : Nat → va_E) (av : List Value) (post : (Nat → va_E) → Prop) : Prop :=
  gG s0 a0 D t → ∀ (l : Launch) (sz : Nat), Met l y [.code y cc mL ret] (gRm fr lo 0 0) (va_Pc av (gPc s0 D ad n ce sz)) (gQv D (va_A (wW ad n ce) sz) ad n post) 0 0 (va_A (wW ad n ce) sz)
def gN (s0 : State) (a0 : Array Value) (D : va_G) (t : Nat → ClassId) (y : MethodName) (cc : ByteArray) (mL : Nat) (ret : Option FieldType) (fr lo mc ms : Nat) (ad : Nat → Nat) (n : Nat) (ce : Nat → va_E) (av : List Value) (n' : Nat) (post : (Nat → Nat) → (Nat → va_E) → Prop) : Prop :=
  gG s0 a0 D t → ∀ (l : Launch) (sz : Nat), Met l y [.code y cc mL ret] (gRm fr lo mc ms) (va_Pc av (gPc s0 D ad n ce sz)) (gQn D (va_A (wW ad n ce) sz) n' post) mc ms (va_A (wW ad n ce) sz)
theorem gPc_blind {av : List Value} {sz : Nat} : FrameBlind (va_Pc av (gPc s0 D ad n ce sz)) := fun _ _ _ _ q => ⟨q.1, q.2.1, q.2.2.1, q.2.2.2.1, q.2.2.2.2.1, q.2.2.2.2.2⟩
/-- the entry of a method without handlers -/
theorem g_entry {y : MethodName} {cy : ByteArray} {mL : Nat} {rt : Option FieldType} {fr lo mc ms : Nat} {av : List Value} {sz : Nat} {Qc : Array Value → State → Outcome → State → Prop} {free : Addr → Prop} {l : Launch} (hG : gG s0 a0 D t) (hy : plainName y.cls = true) (hav : (lg_sl av).length ≤ mL)
    (body : ∀ (p : Program) (e : Env) (s : State) (m : MethodId) (below : List Frame) (meth : Method) (c : Code) (A : Nat → Prop), s.heap.size = sz → A = va_A (wW ad n ce) sz → gOk s0 a0 D t p (gRm fr lo mc ms) s m meth c A y.cls cy mL rt y.name fr lo mc ms →
      gW p l e (gRm fr lo mc ms) s m av.toArray below meth c (MQ below Qc av.toArray s mc ms free) D A mL (gZ0 s) 0 0 ad n ce 0 (lv_args 0 av) []) :
    Met l y [.code y cy mL rt] (gRm fr lo mc ms) (va_Pc av (gPc s0 D ad n ce sz)) Qc mc ms free := by
  refine Met.ofW (cc := cy) (maxL := mL) (ret := rt) hy rfl ?_
  intro p e s m args below meth c s₁ B hml hv
  obtain ⟨rfl, hsz, hw, ⟨ho1, ho2, ho3⟩, hP, hD⟩ := hv
  have hl := lv_entry av (n := mL) hav
  rw [lg_entry_eq]
  refine body p e s m below meth c (va_A (wW ad n ce) sz) hsz rfl ⟨B.exec, B.bytes, hml, findClass_of_methodNamed B.named, hw, hG, fun q h => Or.inr (by rw [← hsz]; exact h), ⟨by rw [hsz]; exact ho1, ho2, fun q h => ?_⟩, ⟨Nat.le_refl _, Nat.le_refl _, Nat.le_refl _, Nat.le_refl _⟩, B.notSynchronized, B.returns, (name_of_methodNamed B.named B.method).1⟩ s.heap [] _ ⟨rfl, rfl⟩ hP hD.self va_S.rf hl
  rcases h with ⟨k, x, h⟩ | h
  · obtain ⟨h1, h2⟩ := wW_of h
    cases h2
    exact ho3 k h1
  · exact Nat.le_trans ho1 h

theorem g_startI {y : MethodName} {cy : ByteArray} {mL : Nat} {rt : Option FieldType} {fr lo : Nat} {av : List Value} {post : Int → (Nat → va_E) → Prop} (hy : plainName y.cls = true) (hav : (lg_sl av).length ≤ mL)
    (body : ∀ (p : Program) (l : Launch) (e : Env) (R : Room) (s : State) (m : MethodId) (args : Array Value) (below : List Frame) (meth : Method) (c : Code) (A : Nat → Prop), gOk s0 a0 D t p R s m meth c A y.cls cy mL rt y.name fr lo 0 0 →
      gW p l e R s m args below meth c (MQ below (gQi D A ad n post) args s 0 0 A) D A mL (gZ0 s) 0 0 ad n ce 0 (lv_args 0 av) []) : gI s0 a0 D t y cy mL rt fr lo ad n ce av post := by
  intro hG l sz
  refine g_entry hG hy hav ?_
  intro p e s m below meth c A hsz hA ok
  subst hA
  exact body p l e _ s m _ below meth c _ ok

theorem g_startV {y : MethodName} {cy : ByteArray} {mL : Nat} {rt : Option FieldType} {fr lo : Nat} {av : List Value} {post : (Nat → va_E) → Prop} (hy : plainName y.cls = true) (hav : (lg_sl av).length ≤ mL)
    (body : ∀ (p : Program) (l : Launch) (e : Env) (R : Room) (s : State) (m : MethodId) (args : Array Value) (below : List Frame) (meth : Method) (c : Code) (A : Nat → Prop), gOk s0 a0 D t p R s m meth c A y.cls cy mL rt y.name fr lo 0 0 →
      gW p l e R s m args below meth c (MQ below (gQv D A ad n post) args s 0 0 A) D A mL (gZ0 s) 0 0 ad n ce 0 (lv_args 0 av) []) : gV s0 a0 D t y cy mL rt fr lo ad n ce av post := by
  intro hG l sz
  refine g_entry hG hy hav ?_
  intro p e s m below meth c A hsz hA ok
  subst hA
  exact body p l e _ s m _ below meth c _ ok

theorem g_startN {y : MethodName} {cy : ByteArray} {mL : Nat} {rt : Option FieldType} {fr lo mc ms n' : Nat} {av : List Value} {post : (Nat → Nat) → (Nat → va_E) → Prop} (hy : plainName y.cls = true) (hav : (lg_sl av).length ≤ mL)
    (body : ∀ (p : Program) (l : Launch) (e : Env) (R : Room) (s : State) (m : MethodId) (args : Array Value) (below : List Frame) (meth : Method) (c : Code) (A : Nat → Prop), gOk s0 a0 D t p R s m meth c A y.cls cy mL rt y.name fr lo mc ms →
      gW p l e R s m args below meth c (MQ below (gQn D A n' post) args s mc ms A) D A mL (gZ0 s) 0 0 ad n ce 0 (lv_args 0 av) []) : gN s0 a0 D t y cy mL rt fr lo mc ms ad n ce av n' post := by
  intro hG l sz
  refine g_entry hG hy hav ?_
  intro p e s m below meth c A hsz hA ok
  subst hA
  exact body p l e _ s m _ below meth c _ ok

-- returns
theorem g_iret {post : Int → (Nat → va_E) → Prop} (ok : gOk s0 a0 D t p R s m meth c A own cc nL (some .int) mn fr lo mc ms) (hd : decode cc pc = .ok (.ireturn, 1)) {z : Int} (h : post z ce) : gW p l e R s m args below meth c (MQ below (gQi D A ad n post) args s cells slots A) D A nL Z cells slots ad n ce pc lv [.int (iI z)] :=
  fun H locs ls hZ hP hD hS hl => W.iret ok.x ok.b ok.rt (fun u hu hW => ⟨⟨iI z, ce, rfl, ⟨z, rfl, h⟩, by rw [hu]; exact hP, hD⟩, hS.F hu⟩) hS.2.2 hd ok.lk
theorem narrow_bool {z : Int} (hz : z = 0 ∨ z = 1) : narrow .boolean (.int (iI z)) = .int (iI z) := by
  rcases hz with rfl | rfl <;> rfl
theorem g_zret {post : Int → (Nat → va_E) → Prop} (ok : gOk s0 a0 D t p R s m meth c A own cc nL (some .boolean) mn fr lo mc ms) (hd : decode cc pc = .ok (.ireturn, 1)) {z : Int} (hz : z = 0 ∨ z = 1) (h : post z ce) : gW p l e R s m args below meth c (MQ below (gQi D A ad n post) args s cells slots A) D A nL Z cells slots ad n ce pc lv [.int (iI z)] :=
  fun H locs ls hZ hP hD hS hl => W.zret ok.x ok.b ok.rt (narrow_bool hz) (fun u hu hW => ⟨⟨iI z, ce, rfl, ⟨z, rfl, h⟩, by rw [hu]; exact hP, hD⟩, hS.F hu⟩) hS.2.2 hd ok.lk
theorem g_vret {post : (Nat → va_E) → Prop} (ok : gOk s0 a0 D t p R s m meth c A own cc nL none mn fr lo mc ms) (hd : decode cc pc = .ok (.return_, 1)) (h : post ce) : gW p l e R s m args below meth c (MQ below (gQv D A ad n post) args s cells slots A) D A nL Z cells slots ad n ce pc lv [] :=
  fun H locs ls hZ hP hD hS hl => W.vret ok.x ok.b ok.rt (fun u hu hW => ⟨⟨ce, rfl, h, by rw [hu]; exact hP, hD⟩, hS.F hu⟩) hS.2.2 hd ok.lk
theorem g_nret {post : (Nat → Nat) → (Nat → va_E) → Prop} (ok : gOk s0 a0 D t p R s m meth c A own cc nL none mn fr lo mc ms) (hd : decode cc pc = .ok (.return_, 1)) (h : post ad ce) : gW p l e R s m args below meth c (MQ below (gQn D A n post) args s cells slots A) D A nL Z cells slots ad n ce pc lv [] :=
  fun H locs ls hZ hP hD hS hl => W.vret ok.x ok.b ok.rt (fun u hu hW => ⟨⟨(ad, ce), rfl, h, by rw [hu]; exact hP, hD⟩, hS.F hu⟩) hS.2.2 hd ok.lk
theorem g_widen {k j : Nat} (h1 : cells ≤ k) (h2 : slots ≤ j) (kk : gW p l e R s m args below meth c Q D A nL Z k j ad n ce pc lv st) : gW p l e R s m args below meth c Q D A nL Z cells slots ad n ce pc lv st :=
  fun H locs ls hZ hP hD hS hl => W.widen h1 h2 (kk H locs ls hZ hP hD hS hl)
-- calls
theorem g_free (ok : gOk s0 a0 D t p R s m meth c A own cc nL ret mn fr lo mc ms) {H : Heap} {locs : List Loc} (hD : va_D A (wW ad n ce)) (hS : va_S A s.heap H locs) : ∀ q, va_A (wW ad n ce) H.size q → A q := by
  intro q h
  rcases h with ⟨k, e, h⟩ | h
  · exact hD.2 k _ h
  · exact ok.a q (Nat.le_trans hS.1 h)
theorem g_cb (ok : gOk s0 a0 D t p R s m meth c A own cc nL ret mn fr lo mc ms) {y : MethodName} {cy : ByteArray} {mL : Nat} {rt : Option FieldType} {fr' lo' mc' ms' index k : Nat} (hcode : Cond.code y cy mL rt ∈ lw_tbl) (hini : Cond.initialized y.cls ∈ lw_tbl) (hlink : Cond.methodLink own index y ∈ lw_tbl)
    (hd : y.cls ≠ "java/lang/invoke/MethodHandle" ∧ y.cls ≠ "java/lang/invoke/VarHandle" ∧ (parseMethodDescriptor y.desc).map (fun d => d.parameters.length) = some k) (hR : fr' + 1 ≤ fr ∧ 8 + (mL + 11) + lo' ≤ lo) : CallB R s args own index y cy mL rt [.code y cy mL rt] (gRm fr' lo' mc' ms') mc' ms' k := by
  refine ⟨rfl, rfl, Nat.le_trans hR.1 ok.r.1, Nat.le_trans hR.2 ok.r.2.1, fun w hw a' U hW => ?_, List.mem_singleton.mpr rfl, ok.w hcode rfl, ok.w hini rfl, ⟨hd.1, hd.2.1⟩, fun sig h => ?_, ok.w hlink rfl⟩
  · rw [List.mem_singleton.mp hw]
    exact word_at hW (Or.inl rfl) (ok.w (args := args) hcode rfl)
  · have h2 := hd.2.2
    rw [h] at h2
    exact (Option.some.inj h2).symm
theorem g_cn (ok : gOk s0 a0 D t p R s m meth c A own cc nL ret mn fr lo mc ms) {y : MethodName} {cy : ByteArray} {mL : Nat} {rt : Option FieldType} {host : String} {fr' lo' mc' ms' index k : Nat} (hcode : Cond.code y cy mL rt ∈ lw_tbl) (hini : Cond.initialized y.cls ∈ lw_tbl) (hlink : Cond.methodLinkNest own index y host ∈ lw_tbl)
    (hd : y.cls ≠ "java/lang/invoke/MethodHandle" ∧ y.cls ≠ "java/lang/invoke/VarHandle" ∧ (parseMethodDescriptor y.desc).map (fun d => d.parameters.length) = some k) (hR : fr' + 1 ≤ fr ∧ 8 + (mL + 11) + lo' ≤ lo) : va_CN R s args own index y host cy mL rt [.code y cy mL rt] (gRm fr' lo' mc' ms') mc' ms' k := by
  refine ⟨⟨rfl, rfl, Nat.le_trans hR.1 ok.r.1, Nat.le_trans hR.2 ok.r.2.1, fun w hw a' U hW => ?_, List.mem_singleton.mpr rfl⟩, ok.w hcode rfl, ok.w hini rfl, ⟨hd.1, hd.2.1⟩, fun sig h => ?_, va_Nw.use rfl (ok.mN hlink)⟩
  · rw [List.mem_singleton.mp hw]
    exact word_at hW (Or.inl rfl) (ok.w (args := args) hcode rfl)
  · have h2 := hd.2.2
    rw [h] at h2
    exact (Option.some.inj h2).symm
theorem g_pre (ok : gOk s0 a0 D t p R s m meth c A own cc nL ret mn fr lo mc ms) {av : List Value} {H : Heap} {locs : List Loc} (hP : va_P D vwCl (wW ad n ce) H) (hD : va_D A (wW ad n ce)) (hS : va_S A s.heap H locs) : ∀ U : State, U.heap = H → s.WarmedH U.vm → va_Pc av (gPc s0 D ad n ce H.size) av.toArray U := by
  intro U hU hW
  refine ⟨rfl, by rw [hU], State.WarmedH.trans ok.warm hW, ⟨Nat.le_trans ok.o.1 hS.1, fun q h => ?_, fun k h => ok.o.2.2 _ (hD.2 k _ (wW_get h))⟩, by rw [hU]; exact hP, hD.weaken (fun _ _ _ _ => trivial)⟩
  rw [hU, hS.2.1 q (Nat.lt_of_lt_of_le h ok.o.1) (fun z => absurd (ok.o.2.2 q z) (by omega))]
  exact ok.o.2.1 q h

theorem g_callIS (ok : gOk s0 a0 D t p R s m meth c A own cc nL ret mn fr lo mc ms) {y : MethodName} {cy : ByteArray} {mL : Nat} {rt : Option FieldType} {fr' lo' index : Nat} {As : List Value} {post : Int → (Nat → va_E) → Prop} (hM : gI s0 a0 D t y cy mL rt fr' lo' ad n ce (As) post) (hcode : Cond.code y cy mL rt ∈ lw_tbl) (hini : Cond.initialized y.cls ∈ lw_tbl) (hlink : Cond.methodLink own index y ∈ lw_tbl) (hk : Cond.static y ∈ lw_tbl) (hq : y.cls ≠ "java/lang/invoke/MethodHandle" ∧ y.cls ≠ "java/lang/invoke/VarHandle" ∧ (parseMethodDescriptor y.desc).map (fun d => d.parameters.length) = some As.length) (hR : fr' + 1 ≤ fr ∧ 8 + (mL + 11) + lo' ≤ lo) (hst : (st.map fun v => v.category).sum ≤ 8) (hroom : cells ≤ mc ∧ slots ≤ ms) (hd : decode cc pc = .ok (.invokestatic index, 3)) (kk : ∀ (z : Int) (ce' : Nat → va_E), post z ce' → gW p l e R s m args below meth c Q D A nL gZ cells slots ad n ce' (pc + 3) lv (.int (iI z) :: st)) : gW p l e R s m args below meth c Q D A nL Z cells slots ad n ce pc lv (As.reverse ++ st) := by
  intro H locs ls hZ hP hD hS hl
  refine va_calli (va_runS (As := As) (rest := st) ⟨ok.x, ok.b, ok.ml, ok.wn, ok.ts (args := args)⟩ (hM ok.g l H.size) ⟨g_cb ok hcode hini hlink hq hR, ok.w hk rfl⟩ ⟨gPc_blind, g_pre ok hP hD hS⟩ rfl rfl hl.1 rfl (lv_room hst) hd ⟨Nat.le_trans hroom.1 ok.r.2.2.1, Nat.le_trans hroom.2 ok.r.2.2.2⟩) hS (fun q _ h => g_free ok hD hS q h) (g_free ok hD hS) (fun r u x H1 locs1 hx1 hvm hw hB hz1 hk1 hS1 => ?_)
  obtain ⟨z, rfl, hz⟩ := hw
  exact kk z u hz H1 locs1 ls trivial (by rw [← hx1]; exact hB.1) (hB.2.weaken (fun _ q _ h => g_free ok hD hS q.1 h)) hS1 hl
theorem g_callISN (ok : gOk s0 a0 D t p R s m meth c A own cc nL ret mn fr lo mc ms) {y : MethodName} {cy : ByteArray} {mL : Nat} {rt : Option FieldType} {fr' lo' index : Nat} {As : List Value} {host : String} {post : Int → (Nat → va_E) → Prop} (hM : gI s0 a0 D t y cy mL rt fr' lo' ad n ce (As) post) (hcode : Cond.code y cy mL rt ∈ lw_tbl) (hini : Cond.initialized y.cls ∈ lw_tbl) (hlink : Cond.methodLinkNest own index y host ∈ lw_tbl) (hk : Cond.static y ∈ lw_tbl) (hq : y.cls ≠ "java/lang/invoke/MethodHandle" ∧ y.cls ≠ "java/lang/invoke/VarHandle" ∧ (parseMethodDescriptor y.desc).map (fun d => d.parameters.length) = some As.length) (hR : fr' + 1 ≤ fr ∧ 8 + (mL + 11) + lo' ≤ lo) (hst : (st.map fun v => v.category).sum ≤ 8) (hroom : cells ≤ mc ∧ slots ≤ ms) (hd : decode cc pc = .ok (.invokestatic index, 3)) (kk : ∀ (z : Int) (ce' : Nat → va_E), post z ce' → gW p l e R s m args below meth c Q D A nL gZ cells slots ad n ce' (pc + 3) lv (.int (iI z) :: st)) : gW p l e R s m args below meth c Q D A nL Z cells slots ad n ce pc lv (As.reverse ++ st) := by
  intro H locs ls hZ hP hD hS hl
  refine va_calli (va_runSN (As := As) (rest := st) ⟨ok.x, ok.b, ok.ml, ok.wn, ok.ts (args := args)⟩ (hM ok.g l H.size) ⟨g_cn ok hcode hini hlink hq hR, ok.w hk rfl, trivial⟩ ⟨gPc_blind, g_pre ok hP hD hS⟩ rfl rfl hl.1 rfl (lv_room hst) hd ⟨Nat.le_trans hroom.1 ok.r.2.2.1, Nat.le_trans hroom.2 ok.r.2.2.2⟩) hS (fun q _ h => g_free ok hD hS q h) (g_free ok hD hS) (fun r u x H1 locs1 hx1 hvm hw hB hz1 hk1 hS1 => ?_)
  obtain ⟨z, rfl, hz⟩ := hw
  exact kk z u hz H1 locs1 ls trivial (by rw [← hx1]; exact hB.1) (hB.2.weaken (fun _ q _ h => g_free ok hD hS q.1 h)) hS1 hl
theorem g_callIV (ok : gOk s0 a0 D t p R s m meth c A own cc nL ret mn fr lo mc ms) (k : Nat) {y : MethodName} {cy : ByteArray} {mL : Nat} {rt : Option FieldType} {fr' lo' index : Nat} {As : List Value} {post : Int → (Nat → va_E) → Prop} (hM : gI s0 a0 D t y cy mL rt fr' lo' ad n ce (.ref (ad k) :: As) post) (hcode : Cond.code y cy mL rt ∈ lw_tbl) (hini : Cond.initialized y.cls ∈ lw_tbl) (hlink : Cond.methodLink own index y ∈ lw_tbl) {ci : Nat} {q0 : vw_C} {fs : List Value} (hc : vwCl[ci]? = some q0) (hkn : k < n) (he : ce k = .inr (ci, fs)) (hk : Cond.instanceMethod y ∈ lw_tbl) (hsel : Cond.selects q0.1 y y ∈ lw_tbl) (hq : y.cls ≠ "java/lang/invoke/MethodHandle" ∧ y.cls ≠ "java/lang/invoke/VarHandle" ∧ (parseMethodDescriptor y.desc).map (fun d => d.parameters.length) = some As.length) (hR : fr' + 1 ≤ fr ∧ 8 + (mL + 11) + lo' ≤ lo) (hst : (st.map fun v => v.category).sum ≤ 8) (hroom : cells ≤ mc ∧ slots ≤ ms) (hd : decode cc pc = .ok (.invokevirtual index, 3)) (kk : ∀ (z : Int) (ce' : Nat → va_E), post z ce' → gW p l e R s m args below meth c Q D A nL gZ cells slots ad n ce' (pc + 3) lv (.int (iI z) :: st)) : gW p l e R s m args below meth c Q D A nL Z cells slots ad n ce pc lv (As.reverse ++ .ref (ad k) :: st) := by
  intro H locs ls hZ hP hD hS hl
  refine va_calli (va_runV (As := As) (rest := st) (b := ad k) ⟨ok.x, ok.b, ok.ml, ok.wn, ok.ts (args := args)⟩ (hM ok.g l H.size) ⟨g_cb ok hcode hini hlink hq hR, ok.w hk rfl, ok.w hsel rfl⟩ ⟨gPc_blind, va_recv ok.k hP hc ((wW_get hkn).trans (by rw [he])), g_pre ok hP hD hS⟩ rfl rfl hl.1 rfl (lv_room hst) hd ⟨Nat.le_trans hroom.1 ok.r.2.2.1, Nat.le_trans hroom.2 ok.r.2.2.2⟩) hS (fun q _ h => g_free ok hD hS q h) (g_free ok hD hS) (fun r u x H1 locs1 hx1 hvm hw hB hz1 hk1 hS1 => ?_)
  obtain ⟨z, rfl, hz⟩ := hw
  exact kk z u hz H1 locs1 ls trivial (by rw [← hx1]; exact hB.1) (hB.2.weaken (fun _ q _ h => g_free ok hD hS q.1 h)) hS1 hl
theorem g_callIVN (ok : gOk s0 a0 D t p R s m meth c A own cc nL ret mn fr lo mc ms) (k : Nat) {y : MethodName} {cy : ByteArray} {mL : Nat} {rt : Option FieldType} {fr' lo' index : Nat} {As : List Value} {host : String} {post : Int → (Nat → va_E) → Prop} (hM : gI s0 a0 D t y cy mL rt fr' lo' ad n ce (.ref (ad k) :: As) post) (hcode : Cond.code y cy mL rt ∈ lw_tbl) (hini : Cond.initialized y.cls ∈ lw_tbl) (hlink : Cond.methodLinkNest own index y host ∈ lw_tbl) {ci : Nat} {q0 : vw_C} {fs : List Value} (hc : vwCl[ci]? = some q0) (hkn : k < n) (he : ce k = .inr (ci, fs)) (hk : Cond.instanceMethod y ∈ lw_tbl) (hsel : Cond.selects q0.1 y y ∈ lw_tbl) (hq : y.cls ≠ "java/lang/invoke/MethodHandle" ∧ y.cls ≠ "java/lang/invoke/VarHandle" ∧ (parseMethodDescriptor y.desc).map (fun d => d.parameters.length) = some As.length) (hR : fr' + 1 ≤ fr ∧ 8 + (mL + 11) + lo' ≤ lo) (hst : (st.map fun v => v.category).sum ≤ 8) (hroom : cells ≤ mc ∧ slots ≤ ms) (hd : decode cc pc = .ok (.invokevirtual index, 3)) (kk : ∀ (z : Int) (ce' : Nat → va_E), post z ce' → gW p l e R s m args below meth c Q D A nL gZ cells slots ad n ce' (pc + 3) lv (.int (iI z) :: st)) : gW p l e R s m args below meth c Q D A nL Z cells slots ad n ce pc lv (As.reverse ++ .ref (ad k) :: st) := by
  intro H locs ls hZ hP hD hS hl
  refine va_calli (va_runVN (As := As) (rest := st) (b := ad k) ⟨ok.x, ok.b, ok.ml, ok.wn, ok.ts (args := args)⟩ (hM ok.g l H.size) ⟨g_cn ok hcode hini hlink hq hR, ok.w hk rfl, ok.w hsel rfl⟩ ⟨gPc_blind, va_recv ok.k hP hc ((wW_get hkn).trans (by rw [he])), g_pre ok hP hD hS⟩ rfl rfl hl.1 rfl (lv_room hst) hd ⟨Nat.le_trans hroom.1 ok.r.2.2.1, Nat.le_trans hroom.2 ok.r.2.2.2⟩) hS (fun q _ h => g_free ok hD hS q h) (g_free ok hD hS) (fun r u x H1 locs1 hx1 hvm hw hB hz1 hk1 hS1 => ?_)
  obtain ⟨z, rfl, hz⟩ := hw
  exact kk z u hz H1 locs1 ls trivial (by rw [← hx1]; exact hB.1) (hB.2.weaken (fun _ q _ h => g_free ok hD hS q.1 h)) hS1 hl
theorem g_callVS (ok : gOk s0 a0 D t p R s m meth c A own cc nL ret mn fr lo mc ms) {y : MethodName} {cy : ByteArray} {mL : Nat} {rt : Option FieldType} {fr' lo' index : Nat} {As : List Value} {post : (Nat → va_E) → Prop} (hM : gV s0 a0 D t y cy mL rt fr' lo' ad n ce (As) post) (hcode : Cond.code y cy mL rt ∈ lw_tbl) (hini : Cond.initialized y.cls ∈ lw_tbl) (hlink : Cond.methodLink own index y ∈ lw_tbl) (hk : Cond.static y ∈ lw_tbl) (hq : y.cls ≠ "java/lang/invoke/MethodHandle" ∧ y.cls ≠ "java/lang/invoke/VarHandle" ∧ (parseMethodDescriptor y.desc).map (fun d => d.parameters.length) = some As.length) (hR : fr' + 1 ≤ fr ∧ 8 + (mL + 11) + lo' ≤ lo) (hst : (st.map fun v => v.category).sum ≤ 8) (hroom : cells ≤ mc ∧ slots ≤ ms) (hd : decode cc pc = .ok (.invokestatic index, 3)) (kk : ∀ (ce' : Nat → va_E), post ce' → gW p l e R s m args below meth c Q D A nL gZ cells slots ad n ce' (pc + 3) lv st) : gW p l e R s m args below meth c Q D A nL Z cells slots ad n ce pc lv (As.reverse ++ st) := by
  intro H locs ls hZ hP hD hS hl
  refine va_callv (va_runS (As := As) (rest := st) ⟨ok.x, ok.b, ok.ml, ok.wn, ok.ts (args := args)⟩ (hM ok.g l H.size) ⟨g_cb ok hcode hini hlink hq hR, ok.w hk rfl⟩ ⟨gPc_blind, g_pre ok hP hD hS⟩ rfl rfl hl.1 rfl (lv_room hst) hd ⟨Nat.le_trans hroom.1 ok.r.2.2.1, Nat.le_trans hroom.2 ok.r.2.2.2⟩) hS (fun q _ h => g_free ok hD hS q h) (g_free ok hD hS) (fun u x H1 locs1 hx1 hvm hw hB hz1 hk1 hS1 => ?_)
  exact kk u hw H1 locs1 ls trivial (by rw [← hx1]; exact hB.1) (hB.2.weaken (fun _ q _ h => g_free ok hD hS q.1 h)) hS1 hl
theorem g_callVSN (ok : gOk s0 a0 D t p R s m meth c A own cc nL ret mn fr lo mc ms) {y : MethodName} {cy : ByteArray} {mL : Nat} {rt : Option FieldType} {fr' lo' index : Nat} {As : List Value} {host : String} {post : (Nat → va_E) → Prop} (hM : gV s0 a0 D t y cy mL rt fr' lo' ad n ce (As) post) (hcode : Cond.code y cy mL rt ∈ lw_tbl) (hini : Cond.initialized y.cls ∈ lw_tbl) (hlink : Cond.methodLinkNest own index y host ∈ lw_tbl) (hk : Cond.static y ∈ lw_tbl) (hq : y.cls ≠ "java/lang/invoke/MethodHandle" ∧ y.cls ≠ "java/lang/invoke/VarHandle" ∧ (parseMethodDescriptor y.desc).map (fun d => d.parameters.length) = some As.length) (hR : fr' + 1 ≤ fr ∧ 8 + (mL + 11) + lo' ≤ lo) (hst : (st.map fun v => v.category).sum ≤ 8) (hroom : cells ≤ mc ∧ slots ≤ ms) (hd : decode cc pc = .ok (.invokestatic index, 3)) (kk : ∀ (ce' : Nat → va_E), post ce' → gW p l e R s m args below meth c Q D A nL gZ cells slots ad n ce' (pc + 3) lv st) : gW p l e R s m args below meth c Q D A nL Z cells slots ad n ce pc lv (As.reverse ++ st) := by
  intro H locs ls hZ hP hD hS hl
  refine va_callv (va_runSN (As := As) (rest := st) ⟨ok.x, ok.b, ok.ml, ok.wn, ok.ts (args := args)⟩ (hM ok.g l H.size) ⟨g_cn ok hcode hini hlink hq hR, ok.w hk rfl, trivial⟩ ⟨gPc_blind, g_pre ok hP hD hS⟩ rfl rfl hl.1 rfl (lv_room hst) hd ⟨Nat.le_trans hroom.1 ok.r.2.2.1, Nat.le_trans hroom.2 ok.r.2.2.2⟩) hS (fun q _ h => g_free ok hD hS q h) (g_free ok hD hS) (fun u x H1 locs1 hx1 hvm hw hB hz1 hk1 hS1 => ?_)
  exact kk u hw H1 locs1 ls trivial (by rw [← hx1]; exact hB.1) (hB.2.weaken (fun _ q _ h => g_free ok hD hS q.1 h)) hS1 hl
theorem g_callVV (ok : gOk s0 a0 D t p R s m meth c A own cc nL ret mn fr lo mc ms) (k : Nat) {y : MethodName} {cy : ByteArray} {mL : Nat} {rt : Option FieldType} {fr' lo' index : Nat} {As : List Value} {post : (Nat → va_E) → Prop} (hM : gV s0 a0 D t y cy mL rt fr' lo' ad n ce (.ref (ad k) :: As) post) (hcode : Cond.code y cy mL rt ∈ lw_tbl) (hini : Cond.initialized y.cls ∈ lw_tbl) (hlink : Cond.methodLink own index y ∈ lw_tbl) {ci : Nat} {q0 : vw_C} {fs : List Value} (hc : vwCl[ci]? = some q0) (hkn : k < n) (he : ce k = .inr (ci, fs)) (hk : Cond.instanceMethod y ∈ lw_tbl) (hsel : Cond.selects q0.1 y y ∈ lw_tbl) (hq : y.cls ≠ "java/lang/invoke/MethodHandle" ∧ y.cls ≠ "java/lang/invoke/VarHandle" ∧ (parseMethodDescriptor y.desc).map (fun d => d.parameters.length) = some As.length) (hR : fr' + 1 ≤ fr ∧ 8 + (mL + 11) + lo' ≤ lo) (hst : (st.map fun v => v.category).sum ≤ 8) (hroom : cells ≤ mc ∧ slots ≤ ms) (hd : decode cc pc = .ok (.invokevirtual index, 3)) (kk : ∀ (ce' : Nat → va_E), post ce' → gW p l e R s m args below meth c Q D A nL gZ cells slots ad n ce' (pc + 3) lv st) : gW p l e R s m args below meth c Q D A nL Z cells slots ad n ce pc lv (As.reverse ++ .ref (ad k) :: st) := by
  intro H locs ls hZ hP hD hS hl
  refine va_callv (va_runV (As := As) (rest := st) (b := ad k) ⟨ok.x, ok.b, ok.ml, ok.wn, ok.ts (args := args)⟩ (hM ok.g l H.size) ⟨g_cb ok hcode hini hlink hq hR, ok.w hk rfl, ok.w hsel rfl⟩ ⟨gPc_blind, va_recv ok.k hP hc ((wW_get hkn).trans (by rw [he])), g_pre ok hP hD hS⟩ rfl rfl hl.1 rfl (lv_room hst) hd ⟨Nat.le_trans hroom.1 ok.r.2.2.1, Nat.le_trans hroom.2 ok.r.2.2.2⟩) hS (fun q _ h => g_free ok hD hS q h) (g_free ok hD hS) (fun u x H1 locs1 hx1 hvm hw hB hz1 hk1 hS1 => ?_)
  exact kk u hw H1 locs1 ls trivial (by rw [← hx1]; exact hB.1) (hB.2.weaken (fun _ q _ h => g_free ok hD hS q.1 h)) hS1 hl
theorem g_callVVN (ok : gOk s0 a0 D t p R s m meth c A own cc nL ret mn fr lo mc ms) (k : Nat) {y : MethodName} {cy : ByteArray} {mL : Nat} {rt : Option FieldType} {fr' lo' index : Nat} {As : List Value} {host : String} {post : (Nat → va_E) → Prop} (hM : gV s0 a0 D t y cy mL rt fr' lo' ad n ce (.ref (ad k) :: As) post) (hcode : Cond.code y cy mL rt ∈ lw_tbl) (hini : Cond.initialized y.cls ∈ lw_tbl) (hlink : Cond.methodLinkNest own index y host ∈ lw_tbl) {ci : Nat} {q0 : vw_C} {fs : List Value} (hc : vwCl[ci]? = some q0) (hkn : k < n) (he : ce k = .inr (ci, fs)) (hk : Cond.instanceMethod y ∈ lw_tbl) (hsel : Cond.selects q0.1 y y ∈ lw_tbl) (hq : y.cls ≠ "java/lang/invoke/MethodHandle" ∧ y.cls ≠ "java/lang/invoke/VarHandle" ∧ (parseMethodDescriptor y.desc).map (fun d => d.parameters.length) = some As.length) (hR : fr' + 1 ≤ fr ∧ 8 + (mL + 11) + lo' ≤ lo) (hst : (st.map fun v => v.category).sum ≤ 8) (hroom : cells ≤ mc ∧ slots ≤ ms) (hd : decode cc pc = .ok (.invokevirtual index, 3)) (kk : ∀ (ce' : Nat → va_E), post ce' → gW p l e R s m args below meth c Q D A nL gZ cells slots ad n ce' (pc + 3) lv st) : gW p l e R s m args below meth c Q D A nL Z cells slots ad n ce pc lv (As.reverse ++ .ref (ad k) :: st) := by
  intro H locs ls hZ hP hD hS hl
  refine va_callv (va_runVN (As := As) (rest := st) (b := ad k) ⟨ok.x, ok.b, ok.ml, ok.wn, ok.ts (args := args)⟩ (hM ok.g l H.size) ⟨g_cn ok hcode hini hlink hq hR, ok.w hk rfl, ok.w hsel rfl⟩ ⟨gPc_blind, va_recv ok.k hP hc ((wW_get hkn).trans (by rw [he])), g_pre ok hP hD hS⟩ rfl rfl hl.1 rfl (lv_room hst) hd ⟨Nat.le_trans hroom.1 ok.r.2.2.1, Nat.le_trans hroom.2 ok.r.2.2.2⟩) hS (fun q _ h => g_free ok hD hS q h) (g_free ok hD hS) (fun u x H1 locs1 hx1 hvm hw hB hz1 hk1 hS1 => ?_)
  exact kk u hw H1 locs1 ls trivial (by rw [← hx1]; exact hB.1) (hB.2.weaken (fun _ q _ h => g_free ok hD hS q.1 h)) hS1 hl
theorem g_callVJ (ok : gOk s0 a0 D t p R s m meth c A own cc nL ret mn fr lo mc ms) (k : Nat) {y : MethodName} {cy : ByteArray} {mL : Nat} {fr' lo' index : Nat} {As : List Value} {post : (Nat → va_E) → Prop} (hM : gV s0 a0 D t y cy mL none fr' lo' ad n ce (.ref (ad k) :: As) post) (hcode : Cond.code y cy mL none ∈ lw_tbl) (hini : Cond.initialized y.cls ∈ lw_tbl) (hlink : Cond.methodLink own index y ∈ lw_tbl) (hk : Cond.instanceMethod y ∈ lw_tbl) (hnm : y.name = "<init>") (hq : y.cls ≠ "java/lang/invoke/MethodHandle" ∧ y.cls ≠ "java/lang/invoke/VarHandle" ∧ (parseMethodDescriptor y.desc).map (fun d => d.parameters.length) = some As.length) (hR : fr' + 1 ≤ fr ∧ 8 + (mL + 11) + lo' ≤ lo) (hst : (st.map fun v => v.category).sum ≤ 8) (hroom : cells ≤ mc ∧ slots ≤ ms) (hd : decode cc pc = .ok (.invokespecial index, 3)) (kk : ∀ (ce' : Nat → va_E), post ce' → gW p l e R s m args below meth c Q D A nL gZ cells slots ad n ce' (pc + 3) lv st) : gW p l e R s m args below meth c Q D A nL Z cells slots ad n ce pc lv (As.reverse ++ .ref (ad k) :: st) := by
  intro H locs ls hZ hP hD hS hl
  refine va_callv (va_runI (As := As) (rest := st) (b := ad k) ⟨ok.x, ok.b, ok.ml, ok.wn, ok.ts (args := args)⟩ (hM ok.g l H.size) ⟨g_cb ok hcode hini hlink hq hR, hnm, ok.w hk rfl⟩ ⟨gPc_blind, g_pre ok hP hD hS⟩ rfl rfl hl.1 rfl (lv_room hst) hd ⟨Nat.le_trans hroom.1 ok.r.2.2.1, Nat.le_trans hroom.2 ok.r.2.2.2⟩) hS (fun q _ h => g_free ok hD hS q h) (g_free ok hD hS) (fun u x H1 locs1 hx1 hvm hw hB hz1 hk1 hS1 => ?_)
  exact kk u hw H1 locs1 ls trivial (by rw [← hx1]; exact hB.1) (hB.2.weaken (fun _ q _ h => g_free ok hD hS q.1 h)) hS1 hl
theorem g_callVJN (ok : gOk s0 a0 D t p R s m meth c A own cc nL ret mn fr lo mc ms) (k : Nat) {y : MethodName} {cy : ByteArray} {mL : Nat} {fr' lo' index : Nat} {As : List Value} {host : String} {post : (Nat → va_E) → Prop} (hM : gV s0 a0 D t y cy mL none fr' lo' ad n ce (.ref (ad k) :: As) post) (hcode : Cond.code y cy mL none ∈ lw_tbl) (hini : Cond.initialized y.cls ∈ lw_tbl) (hlink : Cond.methodLinkNest own index y host ∈ lw_tbl) (hk : Cond.instanceMethod y ∈ lw_tbl) (hnm : y.name = "<init>") (hq : y.cls ≠ "java/lang/invoke/MethodHandle" ∧ y.cls ≠ "java/lang/invoke/VarHandle" ∧ (parseMethodDescriptor y.desc).map (fun d => d.parameters.length) = some As.length) (hR : fr' + 1 ≤ fr ∧ 8 + (mL + 11) + lo' ≤ lo) (hst : (st.map fun v => v.category).sum ≤ 8) (hroom : cells ≤ mc ∧ slots ≤ ms) (hd : decode cc pc = .ok (.invokespecial index, 3)) (kk : ∀ (ce' : Nat → va_E), post ce' → gW p l e R s m args below meth c Q D A nL gZ cells slots ad n ce' (pc + 3) lv st) : gW p l e R s m args below meth c Q D A nL Z cells slots ad n ce pc lv (As.reverse ++ .ref (ad k) :: st) := by
  intro H locs ls hZ hP hD hS hl
  refine va_callv (va_runIN (As := As) (rest := st) (b := ad k) ⟨ok.x, ok.b, ok.ml, ok.wn, ok.ts (args := args)⟩ (hM ok.g l H.size) ⟨g_cn ok hcode hini hlink hq hR, hnm, ok.w hk rfl⟩ ⟨gPc_blind, g_pre ok hP hD hS⟩ rfl rfl hl.1 rfl (lv_room hst) hd ⟨Nat.le_trans hroom.1 ok.r.2.2.1, Nat.le_trans hroom.2 ok.r.2.2.2⟩) hS (fun q _ h => g_free ok hD hS q h) (g_free ok hD hS) (fun u x H1 locs1 hx1 hvm hw hB hz1 hk1 hS1 => ?_)
  exact kk u hw H1 locs1 ls trivial (by rw [← hx1]; exact hB.1) (hB.2.weaken (fun _ q _ h => g_free ok hD hS q.1 h)) hS1 hl
theorem g_callNS (ok : gOk s0 a0 D t p R s m meth c A own cc nL ret mn fr lo mc ms) {y : MethodName} {cy : ByteArray} {mL : Nat} {rt : Option FieldType} {fr' lo' index : Nat} {As : List Value} {mc' ms' n' : Nat} {post : (Nat → Nat) → (Nat → va_E) → Prop} (hM : gN s0 a0 D t y cy mL rt fr' lo' mc' ms' ad n ce (As) n' post) (hcode : Cond.code y cy mL rt ∈ lw_tbl) (hini : Cond.initialized y.cls ∈ lw_tbl) (hlink : Cond.methodLink own index y ∈ lw_tbl) (hk : Cond.static y ∈ lw_tbl) (hq : y.cls ≠ "java/lang/invoke/MethodHandle" ∧ y.cls ≠ "java/lang/invoke/VarHandle" ∧ (parseMethodDescriptor y.desc).map (fun d => d.parameters.length) = some As.length) (hR : fr' + 1 ≤ fr ∧ 8 + (mL + 11) + lo' ≤ lo) (hst : (st.map fun v => v.category).sum ≤ 8) (hroom : cells + mc' ≤ mc ∧ slots + ms' ≤ ms) (hd : decode cc pc = .ok (.invokestatic index, 3)) (kk : ∀ (ad' : Nat → Nat) (ce' : Nat → va_E), post ad' ce' → gW p l e R s m args below meth c Q D A nL gZ (cells + mc') (slots + ms') ad' n' ce' (pc + 3) lv st) : gW p l e R s m args below meth c Q D A nL Z cells slots ad n ce pc lv (As.reverse ++ st) := by
  intro H locs ls hZ hP hD hS hl
  refine va_callv (va_runS (As := As) (rest := st) ⟨ok.x, ok.b, ok.ml, ok.wn, ok.ts (args := args)⟩ (hM ok.g l H.size) ⟨g_cb ok hcode hini hlink hq hR, ok.w hk rfl⟩ ⟨gPc_blind, g_pre ok hP hD hS⟩ rfl rfl hl.1 rfl (lv_room hst) hd ⟨Nat.le_trans hroom.1 ok.r.2.2.1, Nat.le_trans hroom.2 ok.r.2.2.2⟩) hS (fun q _ h => g_free ok hD hS q h) (g_free ok hD hS) (fun u x H1 locs1 hx1 hvm hw hB hz1 hk1 hS1 => ?_)
  exact kk u.1 u.2 hw H1 locs1 ls trivial (by rw [← hx1]; exact hB.1) (hB.2.weaken (fun _ q _ h => g_free ok hD hS q.1 h)) hS1 hl
theorem g_callNSN (ok : gOk s0 a0 D t p R s m meth c A own cc nL ret mn fr lo mc ms) {y : MethodName} {cy : ByteArray} {mL : Nat} {rt : Option FieldType} {fr' lo' index : Nat} {As : List Value} {mc' ms' n' : Nat} {host : String} {post : (Nat → Nat) → (Nat → va_E) → Prop} (hM : gN s0 a0 D t y cy mL rt fr' lo' mc' ms' ad n ce (As) n' post) (hcode : Cond.code y cy mL rt ∈ lw_tbl) (hini : Cond.initialized y.cls ∈ lw_tbl) (hlink : Cond.methodLinkNest own index y host ∈ lw_tbl) (hk : Cond.static y ∈ lw_tbl) (hq : y.cls ≠ "java/lang/invoke/MethodHandle" ∧ y.cls ≠ "java/lang/invoke/VarHandle" ∧ (parseMethodDescriptor y.desc).map (fun d => d.parameters.length) = some As.length) (hR : fr' + 1 ≤ fr ∧ 8 + (mL + 11) + lo' ≤ lo) (hst : (st.map fun v => v.category).sum ≤ 8) (hroom : cells + mc' ≤ mc ∧ slots + ms' ≤ ms) (hd : decode cc pc = .ok (.invokestatic index, 3)) (kk : ∀ (ad' : Nat → Nat) (ce' : Nat → va_E), post ad' ce' → gW p l e R s m args below meth c Q D A nL gZ (cells + mc') (slots + ms') ad' n' ce' (pc + 3) lv st) : gW p l e R s m args below meth c Q D A nL Z cells slots ad n ce pc lv (As.reverse ++ st) := by
  intro H locs ls hZ hP hD hS hl
  refine va_callv (va_runSN (As := As) (rest := st) ⟨ok.x, ok.b, ok.ml, ok.wn, ok.ts (args := args)⟩ (hM ok.g l H.size) ⟨g_cn ok hcode hini hlink hq hR, ok.w hk rfl, trivial⟩ ⟨gPc_blind, g_pre ok hP hD hS⟩ rfl rfl hl.1 rfl (lv_room hst) hd ⟨Nat.le_trans hroom.1 ok.r.2.2.1, Nat.le_trans hroom.2 ok.r.2.2.2⟩) hS (fun q _ h => g_free ok hD hS q h) (g_free ok hD hS) (fun u x H1 locs1 hx1 hvm hw hB hz1 hk1 hS1 => ?_)
  exact kk u.1 u.2 hw H1 locs1 ls trivial (by rw [← hx1]; exact hB.1) (hB.2.weaken (fun _ q _ h => g_free ok hD hS q.1 h)) hS1 hl
theorem g_callNV (ok : gOk s0 a0 D t p R s m meth c A own cc nL ret mn fr lo mc ms) (k : Nat) {y : MethodName} {cy : ByteArray} {mL : Nat} {rt : Option FieldType} {fr' lo' index : Nat} {As : List Value} {mc' ms' n' : Nat} {post : (Nat → Nat) → (Nat → va_E) → Prop} (hM : gN s0 a0 D t y cy mL rt fr' lo' mc' ms' ad n ce (.ref (ad k) :: As) n' post) (hcode : Cond.code y cy mL rt ∈ lw_tbl) (hini : Cond.initialized y.cls ∈ lw_tbl) (hlink : Cond.methodLink own index y ∈ lw_tbl) {ci : Nat} {q0 : vw_C} {fs : List Value} (hc : vwCl[ci]? = some q0) (hkn : k < n) (he : ce k = .inr (ci, fs)) (hk : Cond.instanceMethod y ∈ lw_tbl) (hsel : Cond.selects q0.1 y y ∈ lw_tbl) (hq : y.cls ≠ "java/lang/invoke/MethodHandle" ∧ y.cls ≠ "java/lang/invoke/VarHandle" ∧ (parseMethodDescriptor y.desc).map (fun d => d.parameters.length) = some As.length) (hR : fr' + 1 ≤ fr ∧ 8 + (mL + 11) + lo' ≤ lo) (hst : (st.map fun v => v.category).sum ≤ 8) (hroom : cells + mc' ≤ mc ∧ slots + ms' ≤ ms) (hd : decode cc pc = .ok (.invokevirtual index, 3)) (kk : ∀ (ad' : Nat → Nat) (ce' : Nat → va_E), post ad' ce' → gW p l e R s m args below meth c Q D A nL gZ (cells + mc') (slots + ms') ad' n' ce' (pc + 3) lv st) : gW p l e R s m args below meth c Q D A nL Z cells slots ad n ce pc lv (As.reverse ++ .ref (ad k) :: st) := by
  intro H locs ls hZ hP hD hS hl
  refine va_callv (va_runV (As := As) (rest := st) (b := ad k) ⟨ok.x, ok.b, ok.ml, ok.wn, ok.ts (args := args)⟩ (hM ok.g l H.size) ⟨g_cb ok hcode hini hlink hq hR, ok.w hk rfl, ok.w hsel rfl⟩ ⟨gPc_blind, va_recv ok.k hP hc ((wW_get hkn).trans (by rw [he])), g_pre ok hP hD hS⟩ rfl rfl hl.1 rfl (lv_room hst) hd ⟨Nat.le_trans hroom.1 ok.r.2.2.1, Nat.le_trans hroom.2 ok.r.2.2.2⟩) hS (fun q _ h => g_free ok hD hS q h) (g_free ok hD hS) (fun u x H1 locs1 hx1 hvm hw hB hz1 hk1 hS1 => ?_)
  exact kk u.1 u.2 hw H1 locs1 ls trivial (by rw [← hx1]; exact hB.1) (hB.2.weaken (fun _ q _ h => g_free ok hD hS q.1 h)) hS1 hl
theorem g_callNVN (ok : gOk s0 a0 D t p R s m meth c A own cc nL ret mn fr lo mc ms) (k : Nat) {y : MethodName} {cy : ByteArray} {mL : Nat} {rt : Option FieldType} {fr' lo' index : Nat} {As : List Value} {mc' ms' n' : Nat} {host : String} {post : (Nat → Nat) → (Nat → va_E) → Prop} (hM : gN s0 a0 D t y cy mL rt fr' lo' mc' ms' ad n ce (.ref (ad k) :: As) n' post) (hcode : Cond.code y cy mL rt ∈ lw_tbl) (hini : Cond.initialized y.cls ∈ lw_tbl) (hlink : Cond.methodLinkNest own index y host ∈ lw_tbl) {ci : Nat} {q0 : vw_C} {fs : List Value} (hc : vwCl[ci]? = some q0) (hkn : k < n) (he : ce k = .inr (ci, fs)) (hk : Cond.instanceMethod y ∈ lw_tbl) (hsel : Cond.selects q0.1 y y ∈ lw_tbl) (hq : y.cls ≠ "java/lang/invoke/MethodHandle" ∧ y.cls ≠ "java/lang/invoke/VarHandle" ∧ (parseMethodDescriptor y.desc).map (fun d => d.parameters.length) = some As.length) (hR : fr' + 1 ≤ fr ∧ 8 + (mL + 11) + lo' ≤ lo) (hst : (st.map fun v => v.category).sum ≤ 8) (hroom : cells + mc' ≤ mc ∧ slots + ms' ≤ ms) (hd : decode cc pc = .ok (.invokevirtual index, 3)) (kk : ∀ (ad' : Nat → Nat) (ce' : Nat → va_E), post ad' ce' → gW p l e R s m args below meth c Q D A nL gZ (cells + mc') (slots + ms') ad' n' ce' (pc + 3) lv st) : gW p l e R s m args below meth c Q D A nL Z cells slots ad n ce pc lv (As.reverse ++ .ref (ad k) :: st) := by
  intro H locs ls hZ hP hD hS hl
  refine va_callv (va_runVN (As := As) (rest := st) (b := ad k) ⟨ok.x, ok.b, ok.ml, ok.wn, ok.ts (args := args)⟩ (hM ok.g l H.size) ⟨g_cn ok hcode hini hlink hq hR, ok.w hk rfl, ok.w hsel rfl⟩ ⟨gPc_blind, va_recv ok.k hP hc ((wW_get hkn).trans (by rw [he])), g_pre ok hP hD hS⟩ rfl rfl hl.1 rfl (lv_room hst) hd ⟨Nat.le_trans hroom.1 ok.r.2.2.1, Nat.le_trans hroom.2 ok.r.2.2.2⟩) hS (fun q _ h => g_free ok hD hS q h) (g_free ok hD hS) (fun u x H1 locs1 hx1 hvm hw hB hz1 hk1 hS1 => ?_)
  exact kk u.1 u.2 hw H1 locs1 ls trivial (by rw [← hx1]; exact hB.1) (hB.2.weaken (fun _ q _ h => g_free ok hD hS q.1 h)) hS1 hl
theorem g_callNJ (ok : gOk s0 a0 D t p R s m meth c A own cc nL ret mn fr lo mc ms) (k : Nat) {y : MethodName} {cy : ByteArray} {mL : Nat} {fr' lo' index : Nat} {As : List Value} {mc' ms' n' : Nat} {post : (Nat → Nat) → (Nat → va_E) → Prop} (hM : gN s0 a0 D t y cy mL none fr' lo' mc' ms' ad n ce (.ref (ad k) :: As) n' post) (hcode : Cond.code y cy mL none ∈ lw_tbl) (hini : Cond.initialized y.cls ∈ lw_tbl) (hlink : Cond.methodLink own index y ∈ lw_tbl) (hk : Cond.instanceMethod y ∈ lw_tbl) (hnm : y.name = "<init>") (hq : y.cls ≠ "java/lang/invoke/MethodHandle" ∧ y.cls ≠ "java/lang/invoke/VarHandle" ∧ (parseMethodDescriptor y.desc).map (fun d => d.parameters.length) = some As.length) (hR : fr' + 1 ≤ fr ∧ 8 + (mL + 11) + lo' ≤ lo) (hst : (st.map fun v => v.category).sum ≤ 8) (hroom : cells + mc' ≤ mc ∧ slots + ms' ≤ ms) (hd : decode cc pc = .ok (.invokespecial index, 3)) (kk : ∀ (ad' : Nat → Nat) (ce' : Nat → va_E), post ad' ce' → gW p l e R s m args below meth c Q D A nL gZ (cells + mc') (slots + ms') ad' n' ce' (pc + 3) lv st) : gW p l e R s m args below meth c Q D A nL Z cells slots ad n ce pc lv (As.reverse ++ .ref (ad k) :: st) := by
  intro H locs ls hZ hP hD hS hl
  refine va_callv (va_runI (As := As) (rest := st) (b := ad k) ⟨ok.x, ok.b, ok.ml, ok.wn, ok.ts (args := args)⟩ (hM ok.g l H.size) ⟨g_cb ok hcode hini hlink hq hR, hnm, ok.w hk rfl⟩ ⟨gPc_blind, g_pre ok hP hD hS⟩ rfl rfl hl.1 rfl (lv_room hst) hd ⟨Nat.le_trans hroom.1 ok.r.2.2.1, Nat.le_trans hroom.2 ok.r.2.2.2⟩) hS (fun q _ h => g_free ok hD hS q h) (g_free ok hD hS) (fun u x H1 locs1 hx1 hvm hw hB hz1 hk1 hS1 => ?_)
  exact kk u.1 u.2 hw H1 locs1 ls trivial (by rw [← hx1]; exact hB.1) (hB.2.weaken (fun _ q _ h => g_free ok hD hS q.1 h)) hS1 hl
theorem g_callNJN (ok : gOk s0 a0 D t p R s m meth c A own cc nL ret mn fr lo mc ms) (k : Nat) {y : MethodName} {cy : ByteArray} {mL : Nat} {fr' lo' index : Nat} {As : List Value} {mc' ms' n' : Nat} {host : String} {post : (Nat → Nat) → (Nat → va_E) → Prop} (hM : gN s0 a0 D t y cy mL none fr' lo' mc' ms' ad n ce (.ref (ad k) :: As) n' post) (hcode : Cond.code y cy mL none ∈ lw_tbl) (hini : Cond.initialized y.cls ∈ lw_tbl) (hlink : Cond.methodLinkNest own index y host ∈ lw_tbl) (hk : Cond.instanceMethod y ∈ lw_tbl) (hnm : y.name = "<init>") (hq : y.cls ≠ "java/lang/invoke/MethodHandle" ∧ y.cls ≠ "java/lang/invoke/VarHandle" ∧ (parseMethodDescriptor y.desc).map (fun d => d.parameters.length) = some As.length) (hR : fr' + 1 ≤ fr ∧ 8 + (mL + 11) + lo' ≤ lo) (hst : (st.map fun v => v.category).sum ≤ 8) (hroom : cells + mc' ≤ mc ∧ slots + ms' ≤ ms) (hd : decode cc pc = .ok (.invokespecial index, 3)) (kk : ∀ (ad' : Nat → Nat) (ce' : Nat → va_E), post ad' ce' → gW p l e R s m args below meth c Q D A nL gZ (cells + mc') (slots + ms') ad' n' ce' (pc + 3) lv st) : gW p l e R s m args below meth c Q D A nL Z cells slots ad n ce pc lv (As.reverse ++ .ref (ad k) :: st) := by
  intro H locs ls hZ hP hD hS hl
  refine va_callv (va_runIN (As := As) (rest := st) (b := ad k) ⟨ok.x, ok.b, ok.ml, ok.wn, ok.ts (args := args)⟩ (hM ok.g l H.size) ⟨g_cn ok hcode hini hlink hq hR, hnm, ok.w hk rfl⟩ ⟨gPc_blind, g_pre ok hP hD hS⟩ rfl rfl hl.1 rfl (lv_room hst) hd ⟨Nat.le_trans hroom.1 ok.r.2.2.1, Nat.le_trans hroom.2 ok.r.2.2.2⟩) hS (fun q _ h => g_free ok hD hS q h) (g_free ok hD hS) (fun u x H1 locs1 hx1 hvm hw hB hz1 hk1 hS1 => ?_)
  exact kk u.1 u.2 hw H1 locs1 ls trivial (by rw [← hx1]; exact hB.1) (hB.2.weaken (fun _ q _ h => g_free ok hD hS q.1 h)) hS1 hl
end GR
end
section
/-! methods that only read: the heap comes back as it was -/
section GP
variable {s0 : State} {a0 : Array Value} {D : va_G} {t : Nat → ClassId} {p : Program} {l : Launch} {e : Env} {R : Room} {s : State} {m : MethodId} {args : Array Value} {below : List Frame} {meth : Method} {c : Code} {Q : State → Prop} {Z : Heap → List Loc → Prop} {A : Nat → Prop} {own : String} {cc : ByteArray} {nL : Nat} {ret : Option FieldType} {mn : String} {fr lo mc ms : Nat} {cells slots : Nat} {ad : Nat → Nat} {n : Nat} {ce : Nat → va_E} {pc : Nat} {lv lv' : List (Nat × Value)} {st : List Value}
theorem g_z (kk : gW p l e R s m args below meth c Q D A nL gZ cells slots ad n ce pc lv st) : gW p l e R s m args below meth c Q D A nL Z cells slots ad n ce pc lv st :=
  fun H locs ls _ hP hD hS hl => kk H locs ls trivial hP hD hS hl
def gQp (post : Int → Prop) : Array Value → State → Outcome → State → Prop := fun _ st oc u => ∃ z : Int, oc = .returned (some (.int (iI z))) ∧ post z ∧ u.heap = st.heap
def gP (s0 : State) (a0 : Array Value) (D : va_G) (t : Nat → ClassId) (y : MethodName) (cc : ByteArray) (mL : Nat) (ret : Option FieldType) (fr lo : Nat) (ad : Nat → Nat) (n : Nat) (ce : Nat → va_E) (av : List Value) (post : Int → Prop) : Prop :=
  gG s0 a0 D t → ∀ (l : Launch) (sz : Nat), Met l y [.code y cc mL ret] (gRm fr lo 0 0) (va_Pc av (gPc s0 D ad n ce sz)) (gQp post) 0 0 (fun _ => False)
theorem g_startP {y : MethodName} {cy : ByteArray} {mL : Nat} {rt : Option FieldType} {fr lo : Nat} {av : List Value} {post : Int → Prop} (hy : plainName y.cls = true) (hav : (lg_sl av).length ≤ mL)
    (body : ∀ (p : Program) (l : Launch) (e : Env) (R : Room) (s : State) (m : MethodId) (args : Array Value) (below : List Frame) (meth : Method) (c : Code) (A : Nat → Prop), gOk s0 a0 D t p R s m meth c A y.cls cy mL rt y.name fr lo 0 0 →
      gW p l e R s m args below meth c (MQ below (gQp post) args s 0 0 (fun _ => False)) D A mL (gZ0 s) 0 0 ad n ce 0 (lv_args 0 av) []) : gP s0 a0 D t y cy mL rt fr lo ad n ce av post := by
  intro hG l sz
  refine g_entry hG hy hav ?_
  intro p e s m below meth c A hsz hA ok
  exact body p l e _ s m _ below meth c _ ok
theorem g_ipret {post : Int → Prop} (ok : gOk s0 a0 D t p R s m meth c A own cc nL (some .int) mn fr lo mc ms) (hd : decode cc pc = .ok (.ireturn, 1)) {z : Int} (h : post z) : gW p l e R s m args below meth c (MQ below (gQp post) args s cells slots (fun _ => False)) D A nL (gZ0 s) cells slots ad n ce pc lv [.int (iI z)] :=
  fun H locs ls hZ hP hD hS hl => W.iret ok.x ok.b ok.rt (fun u hu hW => ⟨z, rfl, h, by rw [hu, hZ.1]⟩) (fun q hq => by rw [hZ.2] at hq; cases hq) hd ok.lk
theorem g_zpret {post : Int → Prop} (ok : gOk s0 a0 D t p R s m meth c A own cc nL (some .boolean) mn fr lo mc ms) (hd : decode cc pc = .ok (.ireturn, 1)) {z : Int} (hz : z = 0 ∨ z = 1) (h : post z) : gW p l e R s m args below meth c (MQ below (gQp post) args s cells slots (fun _ => False)) D A nL (gZ0 s) cells slots ad n ce pc lv [.int (iI z)] :=
  fun H locs ls hZ hP hD hS hl => W.zret ok.x ok.b ok.rt (narrow_bool hz) (fun u hu hW => ⟨z, rfl, h, by rw [hu, hZ.1]⟩) (fun q hq => by rw [hZ.2] at hq; cases hq) hd ok.lk
theorem g_runp {st0 : List Value} {a : Array Value} {post : Int → Prop} (hr : ∀ (H : Heap) (locs : List Loc) (ls : Array Slot), va_P D vwCl (wW ad n ce) H → va_D A (wW ad n ce) → va_S A s.heap H locs → lv_has ls nL lv → va_Run p l e R s m args below meth c H locs cells slots 0 0 (F0 m pc ls st0) st (gQp post a) (fun _ => False))
    (kk : ∀ z : Int, post z → gW p l e R s m args below meth c Q D A nL Z cells slots ad n ce (pc + 3) lv (.int (iI z) :: st)) : gW p l e R s m args below meth c Q D A nL Z cells slots ad n ce pc lv st0 := by
  intro H locs ls hZ hP hD hS hl T hT X
  obtain ⟨v, st₀, u, T', L, h0, X', hL, e1, e2, ⟨z, hv, hp, hh⟩, go⟩ := hr H locs ls hP hD hS hl T hT X
  cases hv
  obtain ⟨t2, a1, b1⟩ := kk z hp H locs ls hZ hP hD hS hl T' (by rw [e1, hh, h0]) (Stand.forget X' (fun q h => (hL q h).elim))
  exact ⟨t2, go t2 a1, b1⟩
theorem g_callPS (ok : gOk s0 a0 D t p R s m meth c A own cc nL ret mn fr lo mc ms) {y : MethodName} {cy : ByteArray} {mL : Nat} {rt : Option FieldType} {fr' lo' index : Nat} {As : List Value} {post : Int → Prop} (hM : gP s0 a0 D t y cy mL rt fr' lo' ad n ce (As) post) (hcode : Cond.code y cy mL rt ∈ lw_tbl) (hini : Cond.initialized y.cls ∈ lw_tbl) (hlink : Cond.methodLink own index y ∈ lw_tbl) (hk : Cond.static y ∈ lw_tbl) (hq : y.cls ≠ "java/lang/invoke/MethodHandle" ∧ y.cls ≠ "java/lang/invoke/VarHandle" ∧ (parseMethodDescriptor y.desc).map (fun d => d.parameters.length) = some As.length) (hR : fr' + 1 ≤ fr ∧ 8 + (mL + 11) + lo' ≤ lo) (hst : (st.map fun v => v.category).sum ≤ 8) (hroom : cells ≤ mc ∧ slots ≤ ms) (hd : decode cc pc = .ok (.invokestatic index, 3)) (kk : ∀ z : Int, post z → gW p l e R s m args below meth c Q D A nL Z cells slots ad n ce (pc + 3) lv (.int (iI z) :: st)) : gW p l e R s m args below meth c Q D A nL Z cells slots ad n ce pc lv (As.reverse ++ st) :=
  g_runp (fun H locs ls hP hD hS hl => va_runS (As := As) (rest := st) ⟨ok.x, ok.b, ok.ml, ok.wn, ok.ts (args := args)⟩ (hM ok.g l H.size) ⟨g_cb ok hcode hini hlink hq hR, ok.w hk rfl⟩ ⟨gPc_blind, g_pre ok hP hD hS⟩ rfl rfl hl.1 rfl (lv_room hst) hd ⟨Nat.le_trans hroom.1 ok.r.2.2.1, Nat.le_trans hroom.2 ok.r.2.2.2⟩) kk
theorem g_callPSN (ok : gOk s0 a0 D t p R s m meth c A own cc nL ret mn fr lo mc ms) {y : MethodName} {cy : ByteArray} {mL : Nat} {rt : Option FieldType} {fr' lo' index : Nat} {As : List Value} {host : String} {post : Int → Prop} (hM : gP s0 a0 D t y cy mL rt fr' lo' ad n ce (As) post) (hcode : Cond.code y cy mL rt ∈ lw_tbl) (hini : Cond.initialized y.cls ∈ lw_tbl) (hlink : Cond.methodLinkNest own index y host ∈ lw_tbl) (hk : Cond.static y ∈ lw_tbl) (hq : y.cls ≠ "java/lang/invoke/MethodHandle" ∧ y.cls ≠ "java/lang/invoke/VarHandle" ∧ (parseMethodDescriptor y.desc).map (fun d => d.parameters.length) = some As.length) (hR : fr' + 1 ≤ fr ∧ 8 + (mL + 11) + lo' ≤ lo) (hst : (st.map fun v => v.category).sum ≤ 8) (hroom : cells ≤ mc ∧ slots ≤ ms) (hd : decode cc pc = .ok (.invokestatic index, 3)) (kk : ∀ z : Int, post z → gW p l e R s m args below meth c Q D A nL Z cells slots ad n ce (pc + 3) lv (.int (iI z) :: st)) : gW p l e R s m args below meth c Q D A nL Z cells slots ad n ce pc lv (As.reverse ++ st) :=
  g_runp (fun H locs ls hP hD hS hl => va_runSN (As := As) (rest := st) ⟨ok.x, ok.b, ok.ml, ok.wn, ok.ts (args := args)⟩ (hM ok.g l H.size) ⟨g_cn ok hcode hini hlink hq hR, ok.w hk rfl, trivial⟩ ⟨gPc_blind, g_pre ok hP hD hS⟩ rfl rfl hl.1 rfl (lv_room hst) hd ⟨Nat.le_trans hroom.1 ok.r.2.2.1, Nat.le_trans hroom.2 ok.r.2.2.2⟩) kk
theorem g_callPV (ok : gOk s0 a0 D t p R s m meth c A own cc nL ret mn fr lo mc ms) (k : Nat) {y : MethodName} {cy : ByteArray} {mL : Nat} {rt : Option FieldType} {fr' lo' index : Nat} {As : List Value} {post : Int → Prop} (hM : gP s0 a0 D t y cy mL rt fr' lo' ad n ce (.ref (ad k) :: As) post) (hcode : Cond.code y cy mL rt ∈ lw_tbl) (hini : Cond.initialized y.cls ∈ lw_tbl) (hlink : Cond.methodLink own index y ∈ lw_tbl) {ci : Nat} {q0 : vw_C} {fs : List Value} (hc : vwCl[ci]? = some q0) (hkn : k < n) (he : ce k = .inr (ci, fs)) (hk : Cond.instanceMethod y ∈ lw_tbl) (hsel : Cond.selects q0.1 y y ∈ lw_tbl) (hq : y.cls ≠ "java/lang/invoke/MethodHandle" ∧ y.cls ≠ "java/lang/invoke/VarHandle" ∧ (parseMethodDescriptor y.desc).map (fun d => d.parameters.length) = some As.length) (hR : fr' + 1 ≤ fr ∧ 8 + (mL + 11) + lo' ≤ lo) (hst : (st.map fun v => v.category).sum ≤ 8) (hroom : cells ≤ mc ∧ slots ≤ ms) (hd : decode cc pc = .ok (.invokevirtual index, 3)) (kk : ∀ z : Int, post z → gW p l e R s m args below meth c Q D A nL Z cells slots ad n ce (pc + 3) lv (.int (iI z) :: st)) : gW p l e R s m args below meth c Q D A nL Z cells slots ad n ce pc lv (As.reverse ++ .ref (ad k) :: st) :=
  g_runp (fun H locs ls hP hD hS hl => va_runV (As := As) (rest := st) (b := ad k) ⟨ok.x, ok.b, ok.ml, ok.wn, ok.ts (args := args)⟩ (hM ok.g l H.size) ⟨g_cb ok hcode hini hlink hq hR, ok.w hk rfl, ok.w hsel rfl⟩ ⟨gPc_blind, va_recv ok.k hP hc ((wW_get hkn).trans (by rw [he])), g_pre ok hP hD hS⟩ rfl rfl hl.1 rfl (lv_room hst) hd ⟨Nat.le_trans hroom.1 ok.r.2.2.1, Nat.le_trans hroom.2 ok.r.2.2.2⟩) kk
theorem g_callPVN (ok : gOk s0 a0 D t p R s m meth c A own cc nL ret mn fr lo mc ms) (k : Nat) {y : MethodName} {cy : ByteArray} {mL : Nat} {rt : Option FieldType} {fr' lo' index : Nat} {As : List Value} {host : String} {post : Int → Prop} (hM : gP s0 a0 D t y cy mL rt fr' lo' ad n ce (.ref (ad k) :: As) post) (hcode : Cond.code y cy mL rt ∈ lw_tbl) (hini : Cond.initialized y.cls ∈ lw_tbl) (hlink : Cond.methodLinkNest own index y host ∈ lw_tbl) {ci : Nat} {q0 : vw_C} {fs : List Value} (hc : vwCl[ci]? = some q0) (hkn : k < n) (he : ce k = .inr (ci, fs)) (hk : Cond.instanceMethod y ∈ lw_tbl) (hsel : Cond.selects q0.1 y y ∈ lw_tbl) (hq : y.cls ≠ "java/lang/invoke/MethodHandle" ∧ y.cls ≠ "java/lang/invoke/VarHandle" ∧ (parseMethodDescriptor y.desc).map (fun d => d.parameters.length) = some As.length) (hR : fr' + 1 ≤ fr ∧ 8 + (mL + 11) + lo' ≤ lo) (hst : (st.map fun v => v.category).sum ≤ 8) (hroom : cells ≤ mc ∧ slots ≤ ms) (hd : decode cc pc = .ok (.invokevirtual index, 3)) (kk : ∀ z : Int, post z → gW p l e R s m args below meth c Q D A nL Z cells slots ad n ce (pc + 3) lv (.int (iI z) :: st)) : gW p l e R s m args below meth c Q D A nL Z cells slots ad n ce pc lv (As.reverse ++ .ref (ad k) :: st) :=
  g_runp (fun H locs ls hP hD hS hl => va_runVN (As := As) (rest := st) (b := ad k) ⟨ok.x, ok.b, ok.ml, ok.wn, ok.ts (args := args)⟩ (hM ok.g l H.size) ⟨g_cn ok hcode hini hlink hq hR, ok.w hk rfl, ok.w hsel rfl⟩ ⟨gPc_blind, va_recv ok.k hP hc ((wW_get hkn).trans (by rw [he])), g_pre ok hP hD hS⟩ rfl rfl hl.1 rfl (lv_room hst) hd ⟨Nat.le_trans hroom.1 ok.r.2.2.1, Nat.le_trans hroom.2 ok.r.2.2.2⟩) kk
end GP
end
